/-! what growing touches -/
def Tch (t : Nat) (S S' : St) : Prop := (∀ a, ¬ (t < a ∧ a < t + 24) → S'.1 a = S.1 a) ∧ (∀ a, a ≠ t → S'.2.1 a = S.2.1 a) ∧ S'.2.2 = S.2.2
set_option maxHeartbeats 200000 in
theorem Tch.rf (t : Nat) (S : St) : Tch t S S := ⟨fun _ _ => rfl, fun _ _ => rfl, rfl⟩
set_option maxHeartbeats 200000 in
theorem Tch.tr {t : Nat} {A B C : St} (h : Tch t A B) (k : Tch t B C) : Tch t A C := ⟨fun a ha => (k.1 a ha).trans (h.1 a ha), fun a ha => (k.2.1 a ha).trans (h.2.1 a ha), k.2.2.trans h.2.2⟩
set_option maxHeartbeats 200000 in
theorem Tch.sR {t a : Nat} {A B : St} {f : Nat → Int32} (h : Tch t A B) (ha : t < a ∧ a < t + 24) : Tch t A (setR B a f) := ⟨fun b hb => (if_neg (fun e : b = a => hb (e.symm ▸ ha))).trans (h.1 b hb), h.2⟩
set_option maxHeartbeats 200000 in
theorem Tch.sI {t i : Nat} {A B : St} {x : Int32} (h : Tch t A B) : Tch t A (setI B t i x) := ⟨h.1, fun b hb => (if_neg hb).trans (h.2.1 b hb), h.2.2⟩
set_option maxHeartbeats 200000 in
theorem Tch.bp {t n : Nat} {A B : St} {i x y w h' : Int32} (h : Tch t A B) : Tch t A (bput B (t + 1) n i x y w h') := (((h.sR (by omega)).sR (by omega)).sR (by omega)).sR (by omega)
set_option maxHeartbeats 200000 in
theorem t_addNS {t : Nat} {A B : St} {l : Int32} (h : Tch t A B) : Tch t A (addNS B t l) := (((h.sR (by omega)).sR (by omega)).sR (by omega)).sI
set_option maxHeartbeats 200000 in
theorem t_settS {t : Nat} {A B : St} {k a : Int32} (h : Tch t A B) : Tch t A (settS B t k a) := (h.sR (by omega)).sR (by omega)
set_option maxHeartbeats 200000 in
theorem t_fellS {t : Nat} {A B : St} (h : Tch t A B) : Tch t A (fellS B t) := (h.sI.sI).sR (by omega)
set_option maxHeartbeats 200000 in
theorem t_qStep {t j : Nat} {A B : St} {q half : Int32} (h : Tch t A B) : Tch t A (qStep B t q half j) := (t_addNS h).bp.sR (by omega)
set_option maxHeartbeats 200000 in
theorem t_qRun {t : Nat} {A B : St} {q half : Int32} (h : Tch t A B) : ∀ j, Tch t A (qRun B t q half j) := by
  intro j
  induction j with
  | zero => exact h
  | succ j ih => exact t_qStep ih
set_option maxHeartbeats 200000 in
theorem t_mRun {t : Nat} {A B : St} {q first : Int32} (h : Tch t A B) : ∀ k, Tch t A (mRun B t q first k) := by
  intro k
  induction k with
  | zero => exact h
  | succ k ih =>
    show Tch t A (mStep (mRun B t q first k) t q first k)
    unfold mStep
    split
    · exact t_settS ih
    · exact ih
set_option maxHeartbeats 200000 in
theorem t_splS {t c : Nat} {A B : St} {q : Int32} (h : Tch t A B) : Tch t A (splS B t q c) := t_mRun ((t_qRun (h.sR (by omega)) 4).sR (by omega)) c
set_option maxHeartbeats 200000 in
theorem t_rRun {t : Nat} {A B : St} {layer : Int32} (h : Tch t A B) : ∀ k, Tch t A (rRun B t layer k) := by
  intro k
  induction k with
  | zero => exact h
  | succ k ih =>
    show Tch t A (rStep (rRun B t layer k) t layer k)
    unfold rStep
    split
    · exact ih
    · exact t_settS ih
set_option maxHeartbeats 200000 in
theorem t_gRun {t c : Nat} {A : St} {cap : Int32} : ∀ f sq (B : St), Tch t A B → Tch t A (gRun B t c cap f sq) := by
  intro f
  induction f with
  | zero => intro sq B h; exact h
  | succ f ih =>
    intro sq B h
    unfold gRun
    split
    · refine ih _ _ ?_
      unfold gStep
      split
      · exact t_splS h
      · exact h
    · exact h
set_option maxHeartbeats 200000 in
theorem t_seedS {t : Nat} {A B : St} (h : Tch t A B) : Tch t A (seedS B t) := ((t_addNS (t_fellS h)).sI).bp
set_option maxHeartbeats 200000 in
theorem t_growS {t c : Nat} {A B : St} {layer cap : Int32} (h : Tch t A B) : Tch t A (growS B t c layer cap) := t_gRun _ _ _ (t_rRun (t_seedS h) c)
set_option maxHeartbeats 200000 in
theorem t_boxAs {t b n : Nat} {A B : St} {a z : Int32} (h : Tch t A B) : Tch t A (boxAs B t a b n z) := h.bp
set_option maxHeartbeats 200000 in
theorem t_strS {t n b' n' : Nat} {A B : St} {i j : Int32} (h : Tch t A B) : Tch t A (strS B (t + 1) n i b' n' j) := h.bp
set_option maxHeartbeats 200000 in
theorem t_clRun {t b n : Nat} {A B : St} {fan : Int32} (h : Tch t A B) : ∀ i, Tch t A (clRun B t b n fan i).1 := by
  intro i
  induction i with
  | zero => exact h
  | succ i ih =>
    show Tch t A (clStep t b n fan (clRun B t b n fan i) i).1
    unfold clStep
    split
    · exact t_settS (t_strS (t_boxAs (t_addNS ih)))
    · exact t_settS (t_strS ih)
set_option maxHeartbeats 200000 in
theorem t_cnRun {t s : Nat} {A B : St} {fan level : Int32} (h : Tch t A B) : ∀ j, Tch t A (cnRun B t s fan level j).1 := by
  intro j
  induction j with
  | zero => exact h
  | succ j ih =>
    show Tch t A (cnStep t s fan level (cnRun B t s fan level j) j).1
    unfold cnStep
    split
    · exact ((t_strS ((t_boxAs (t_addNS ih)).sR (by omega))).sR (by omega)).sR (by omega)
    · exact ((t_strS ih).sR (by omega)).sR (by omega)
set_option maxHeartbeats 200000 in
theorem t_gpStep {t fn s N level : Nat} {A B : St} (h : Tch t A B) : Tch t A (gpStep B t fn s N level) := t_cnRun ((h.sR (by omega)).sR (by omega)) _
set_option maxHeartbeats 200000 in
theorem t_gpR {t fn : Nat} {A : St} : ∀ f s level (B : St), Tch t A B → Tch t A (gpR B t fn f s level) := by
  intro f
  induction f with
  | zero => intro s l B h; exact h
  | succ f ih =>
    intro s l B h
    unfold gpR
    split
    · exact ih _ _ _ (t_gpStep h)
    · exact h
set_option maxHeartbeats 200000 in
theorem t_pk1 {t c : Nat} {A B : St} {layer : Int32} (h : Tch t A B) : Tch t A (pk1 B t c layer) := (t_fellS h).sR (by omega)
set_option maxHeartbeats 200000 in
theorem t_pk3 {t c fn : Nat} {A B : St} {layer : Int32} (h : Tch t A B) : Tch t A (pk3 B t c fn layer) := t_clRun ((t_pk1 h).sR (by omega)) _
set_option maxHeartbeats 200000 in
theorem t_growP {t c fn : Nat} {A B : St} {layer : Int32} (h : Tch t A B) : Tch t A (growP B t c fn layer) := by
  unfold growP
  split
  · exact t_pk1 h
  · exact (t_gpR _ _ _ _ (t_pk3 h)).sI
set_option maxHeartbeats 200000 in
theorem t_planS {c lr fn : Nat} {S : St} : Tch 25 S (planS S c lr fn) := by
  unfold planS
  split
  · exact t_growP (Tch.rf _ _)
  · exact t_growS (Tch.rf _ _)
set_option maxHeartbeats 200000 in
theorem eq_planS {c lr fn : Nat} {S0 S : St} (h : EqC S0 S) : EqC S0 (planS S c lr fn) :=
  h.tr ⟨fun a ha => t_planS.1 a (fun z => ha (by unfold scr; omega)), fun a ha => t_planS.2.1 a ha⟩
/-! a square is cut: what the steps do to the rows -/
def nd (t a : Nat) : Prop := a = t + 3 ∨ a = t + 5 ∨ a = t + 7 ∨ a = t + 9 ∨ a = t + 11 ∨ a = t + 13 ∨ a = t + 17 ∨ a = t + 19
set_option maxHeartbeats 200000 in
theorem rd_ne {X S B : St} {b N i n : Nat} {x : Int32} (hX : ∀ a, X.1 a i = S.1 a i) (hB : B.1 b i = S.1 b i) (hN : N < n) (hn : n < 2 ^ 31) (hi : i ≠ N) : ∀ a, (setR X b (rput (B.1 b) n (nI N) x)).1 a i = S.1 a i := by
  intro a
  rw [rput_nI hN hn]
  by_cases e : a = b
  · subst e
    rw [setR_eq, upd_nq hi]
    exact hB
  · rw [setR_ne e]
    exact hX a
set_option maxHeartbeats 200000 in
theorem qStep_old {S : St} {t N j i : Nat} {q half : Int32} (hN : tN S t = nI N) (hN2 : N < 1205) (hi : i ≠ N) : ∀ a, (qStep S t q half j).1 a i = S.1 a i := by
  unfold qStep bput addNS
  rw [hN]
  have e0 : ∀ a, S.1 a i = S.1 a i := fun _ => rfl
  have e1 := rd_ne (x := rat (tLv S t) 1205 q + 1) (b := t + 11) e0 rfl hN2 (by decide) hi
  have e2 := rd_ne (x := 0) (b := t + 13) e1 rfl hN2 (by decide) hi
  have e3 := rd_ne (x := 0) (b := t + 17) e2 rfl hN2 (by decide) hi
  intro a
  refine rd_ne (b := t + 19) ?_ ?_ hN2 (by decide) hi a
  · refine rd_ne (b := t + 1 + 8) (rd_ne (b := t + 1 + 6) (rd_ne (b := t + 1 + 4) (rd_ne (b := t + 1 + 2) e3 (e3 _) hN2 (by decide) hi) (e3 _) hN2 (by decide) hi) (e3 _) hN2 (by decide) hi) (e3 _) hN2 (by decide) hi
  · exact rd_ne (b := t + 1 + 8) (rd_ne (b := t + 1 + 6) (rd_ne (b := t + 1 + 4) (rd_ne (b := t + 1 + 2) e3 (e3 _) hN2 (by decide) hi) (e3 _) hN2 (by decide) hi) (e3 _) hN2 (by decide) hi) (e3 _) hN2 (by decide) hi _
set_option maxHeartbeats 200000 in
theorem qStep_oth {S : St} {t j a : Nat} {q half : Int32} (ha : ¬ nd t a) : (qStep S t q half j).1 a = S.1 a := by
  unfold nd at ha
  unfold qStep bput addNS
  show (setR (setR (setR (setR (setR (setI (setR (setR (setR S _ _) _ _) _ _) _ _ _) _ _) _ _) _ _) _ _) _ _).1 a = _
  rw [setR_ne (by omega), setR_ne (by omega), setR_ne (by omega), setR_ne (by omega), setR_ne (by omega)]
  show (setR (setR (setR S _ _) _ _) _ _).1 a = _
  rw [setR_ne (by omega), setR_ne (by omega), setR_ne (by omega)]
set_option maxHeartbeats 200000 in
theorem qStep_int {S : St} {t N j : Nat} {q half : Int32} (hN : tN S t = nI N) : tN (qStep S t q half j) t = nI (N + 1) ∧ (∀ b i, ¬ (b = t ∧ i = 8) → (qStep S t q half j).2.1 b i = S.2.1 b i) := by
  constructor
  · show (setI _ t 8 (tN S t + 1)).2.1 t 8 = _
    rw [hN, nI_1]
    show va_up (S.2.1) t _ t 8 = _
    unfold va_up
    rw [if_pos rfl, if_pos rfl]
  · intro b i hb
    show va_up (S.2.1) t _ b i = _
    unfold va_up
    by_cases e : b = t
    · subst e; rw [if_pos rfl, if_neg (fun z => hb ⟨rfl, z⟩)]; rfl
    · rw [if_neg e]
set_option maxHeartbeats 200000 in
theorem qStep_new {S : St} {t N j : Nat} {q half : Int32} (hN : tN S t = nI N) (hN2 : N < 1205) :
    (qStep S t q half j).1 (t + 11) N = rat (tLv S t) 1205 q + 1 ∧ (qStep S t q half j).1 (t + 13) N = 0 ∧ (qStep S t q half j).1 (t + 17) N = 0 ∧ (qStep S t q half j).1 (t + 3) N = bX S (t + 1) 1205 q + (nI j - nI j / 2 * 2) * half ∧ (qStep S t q half j).1 (t + 5) N = bY S (t + 1) 1205 q + nI j / 2 * half ∧ (qStep S t q half j).1 (t + 7) N = half - 1 ∧ (qStep S t q half j).1 (t + 9) N = half - 1 ∧ (qStep S t q half j).1 (t + 19) N = nI N := by
  unfold qStep bput addNS
  rw [hN]
  have rr : ∀ (f : Nat → Int32) (x : Int32), rput f 1205 (nI N) x N = x := fun f x => by rw [rput_nI hN2 (by decide), upd_at]
  refine ⟨?_, ?_, ?_, ?_, ?_, ?_, ?_, ?_⟩
  all_goals show (setR (setR (setR (setR (setR (setI (setR (setR (setR S _ _) _ _) _ _) _ _ _) _ _) _ _) _ _) _ _) _ _).1 _ N = _
  · rw [setR_ne (by omega), setR_ne (by omega), setR_ne (by omega), setR_ne (by omega), setR_ne (by omega)]
    show (setR (setR (setR S _ _) _ _) _ _).1 _ N = _
    rw [setR_ne (by omega), setR_ne (by omega), setR_eq]; exact rr _ _
  · rw [setR_ne (by omega), setR_ne (by omega), setR_ne (by omega), setR_ne (by omega), setR_ne (by omega)]
    show (setR (setR (setR S _ _) _ _) _ _).1 _ N = _
    rw [setR_ne (by omega), setR_eq]; exact rr _ _
  · rw [setR_ne (by omega), setR_ne (by omega), setR_ne (by omega), setR_ne (by omega), setR_ne (by omega)]
    show (setR (setR (setR S _ _) _ _) _ _).1 _ N = _
    rw [setR_eq]; exact rr _ _
  · rw [setR_ne (by omega), setR_ne (by omega), setR_ne (by omega), setR_ne (by omega), show t + 3 = t + 1 + 2 from rfl, setR_eq]; exact rr _ _
  · rw [setR_ne (by omega), setR_ne (by omega), setR_ne (by omega), show t + 5 = t + 1 + 4 from rfl, setR_eq]; exact rr _ _
  · rw [setR_ne (by omega), setR_ne (by omega), show t + 7 = t + 1 + 6 from rfl, setR_eq]; exact rr _ _
  · rw [setR_ne (by omega), show t + 9 = t + 1 + 8 from rfl, setR_eq]; exact rr _ _
  · rw [setR_eq]; exact rr _ _
-- the four squares
def qE (S R : St) (t N q j : Nat) (half : Int32) : Prop := tN R t = nI (N + j) ∧ (∀ b i, ¬ (b = t ∧ i = 8) → R.2.1 b i = S.2.1 b i) ∧ (∀ i, i < N → ∀ a, R.1 a i = S.1 a i) ∧ (∀ a, ¬ nd t a → R.1 a = S.1 a) ∧
  ∀ i, i < j → R.1 (t + 11) (N + i) = S.1 (t + 11) q + 1 ∧ R.1 (t + 13) (N + i) = 0 ∧ R.1 (t + 17) (N + i) = 0 ∧ R.1 (t + 3) (N + i) = S.1 (t + 3) q + (nI i - nI i / 2 * 2) * half ∧ R.1 (t + 5) (N + i) = S.1 (t + 5) q + nI i / 2 * half ∧ R.1 (t + 7) (N + i) = half - 1 ∧ R.1 (t + 9) (N + i) = half - 1 ∧ R.1 (t + 19) (N + i) = nI (N + i)
set_option maxHeartbeats 200000 in
theorem qRun_eff {S : St} {t N q : Nat} {half : Int32} (hN : tN S t = nI N) (hq : q < N) : ∀ j, N + j ≤ 1205 → qE S (qRun S t (nI q) half j) t N q j half := by
  intro j
  induction j with
  | zero => intro _; exact ⟨hN, fun _ _ _ => rfl, fun _ _ _ => rfl, fun _ _ => rfl, fun i hi => absurd hi (by omega)⟩
  | succ j ih =>
    intro h
    obtain ⟨a1, a2, a3, a4, a5⟩ := ih (by omega)
    have b1 := qStep_int (S := qRun S t (nI q) half j) (t := t) (N := N + j) (j := j) (q := nI q) (half := half) a1
    have b2 := qStep_new (S := qRun S t (nI q) half j) (t := t) (N := N + j) (j := j) (q := nI q) (half := half) a1 (by omega)
    have r : ∀ a, rat ((qRun S t (nI q) half j).1 a) 1205 (nI q) = S.1 a q := fun a => (rat_nI (by omega) (by decide)).trans (a3 q hq a)
    rw [show bX (qRun S t (nI q) half j) (t + 1) 1205 (nI q) = S.1 (t + 3) q from r _, show bY (qRun S t (nI q) half j) (t + 1) 1205 (nI q) = S.1 (t + 5) q from r _, show rat (tLv (qRun S t (nI q) half j) t) 1205 (nI q) = S.1 (t + 11) q from r _] at b2
    refine ⟨b1.1, fun b i hb => (b1.2 b i hb).trans (a2 b i hb), fun i hi a => (qStep_old a1 (by omega) (by omega) a).trans (a3 i hi a), fun a ha => (qStep_oth ha).trans (a4 a ha), fun i hi => ?_⟩
    by_cases e : i = j
    · subst e; exact b2
    · have c := a5 i (by omega)
      have o : ∀ a, (qRun S t (nI q) half (j + 1)).1 a (N + i) = (qRun S t (nI q) half j).1 a (N + i) := fun a => qStep_old a1 (by omega) (by omega) a
      rw [o, o, o, o, o, o, o, o]
      exact c
-- the things of the square that is cut go into the quarters
def mE (S R : St) (t F q c : Nat) (hm : Nat → Nat) (p : Nat → Bool) (e : Nat → Nat) : Prop := (∀ b, R.2.1 b = S.2.1 b) ∧ (∀ a, a ≠ t + 13 → a ≠ t + 21 → R.1 a = S.1 a) ∧ (∀ k, R.1 (t + 21) k = if k < c ∧ (p k = true ∧ hm k = q) then nI (F + e k) else S.1 (t + 21) k) ∧
  ∀ i, i < 1205 → R.1 (t + 13) i = S.1 (t + 13) i + nI (cnt (fun k => p k && (decide (hm k = q) && decide (F + e k = i))) c)
set_option maxHeartbeats 200000 in
theorem mRun_eff {S : St} {t F q : Nat} {hm : Nat → Nat} {p : Nat → Bool} {e : Nat → Nat} (hq : q < 1205) (hF : F + 4 ≤ 1205) : ∀ c, c ≤ 80 → (∀ k, k < c → S.1 (t + 21) k = if p k = true then nI (hm k) else -1) → (∀ k, k < c → p k = true → hm k < 1205) → (∀ k, k < c → p k = true → hm k = q → e k < 4 ∧ qtr S t (nI q) (bX S 2 80 (nI k)) (bY S 2 80 (nI k)) = nI (e k)) → (12 < t) →
    mE S (mRun S t (nI q) (nI F) c) t F q c hm p e := by
  intro c
  induction c with
  | zero => intro _ _ _ _ _; exact ⟨fun _ => rfl, fun _ _ _ => rfl, fun k => (if_neg (by omega)).symm, fun i _ => by rw [cnt, nI_0, Int32.add_zero]; rfl⟩
  | succ c ih =>
    intro hc hh hb he ht
    obtain ⟨a1, a2, a3, a4⟩ := ih (by omega) (fun k hk => hh k (by omega)) (fun k hk => hb k (by omega)) (fun k hk => he k (by omega)) ht
    show mE S (mStep (mRun S t (nI q) (nI F) c) t (nI q) (nI F) c) t F q (c + 1) hm p e
    have h1 : rat (tHm (mRun S t (nI q) (nI F) c) t) 80 (nI c) = if p c = true then nI (hm c) else -1 := by
      rw [rat_nI (show c < 80 by omega) (by decide)]
      show (mRun S t (nI q) (nI F) c).1 (t + 21) c = _
      rw [a3 c, if_neg (by omega)]
      exact hh c (by omega)
    unfold mStep
    rw [h1]
    by_cases hp : p c = true ∧ hm c = q
    · obtain ⟨e1, e2⟩ := he c (by omega) hp.1 hp.2
      have hq2 : qtr (mRun S t (nI q) (nI F) c) t (nI q) (bX (mRun S t (nI q) (nI F) c) 2 80 (nI c)) (bY (mRun S t (nI q) (nI F) c) 2 80 (nI c)) = nI (e c) := by
        rw [← e2]
        unfold qtr halfV
        show (if rat ((mRun S t (nI q) (nI F) c).1 4) 80 (nI c) < rat ((mRun S t (nI q) (nI F) c).1 (t + 3)) 1205 (nI q) + (rat ((mRun S t (nI q) (nI F) c).1 (t + 7)) 1205 (nI q) + 1) / 2 then 0 else 1) + (if rat ((mRun S t (nI q) (nI F) c).1 6) 80 (nI c) < rat ((mRun S t (nI q) (nI F) c).1 (t + 5)) 1205 (nI q) + (rat ((mRun S t (nI q) (nI F) c).1 (t + 7)) 1205 (nI q) + 1) / 2 then 0 else 2) = _
        rw [a2 (t + 3) (by omega) (by omega), a2 (t + 5) (by omega) (by omega), a2 (t + 7) (by omega) (by omega), a2 4 (by omega) (by omega), a2 6 (by omega) (by omega)]
      rw [if_pos hp.1, hp.2, if_pos rfl, hq2, nI_add]
      refine ⟨fun b => a1 b, fun a n1 n2 => ?_, fun k => ?_, fun i hi => ?_⟩
      · show (setR (setR _ _ _) _ _).1 a = _
        rw [setR_ne n1, setR_ne n2]
        exact a2 a n1 n2
      · show (setR (setR _ _ _) _ _).1 (t + 21) k = _
        rw [setR_ne (by omega), setR_eq, rput_nI (show c < 80 by omega) (by decide)]
        by_cases ek : k = c
        · subst ek; rw [upd_at, if_pos ⟨by omega, hp⟩]
        · rw [upd_nq ek]
          show (mRun S t (nI q) (nI F) c).1 (t + 21) k = _
          rw [a3 k]
          by_cases z : k < c ∧ (p k = true ∧ hm k = q)
          · rw [if_pos z, if_pos ⟨by omega, z.2⟩]
          · rw [if_neg z, if_neg (fun z2 => z ⟨by omega, z2.2⟩)]
      · show (setR (setR _ _ _) _ _).1 (t + 13) i = _
        rw [setR_eq, rput_nI (show F + e c < 1205 by omega) (by decide), nI_clamp (by omega)]
        have a5 := a4 i hi
        rw [cnt_succ]
        by_cases ei : i = F + e c
        · subst ei
          rw [upd_at]
          show (mRun S t (nI q) (nI F) c).1 (t + 13) (F + e c) + 1 = _
          rw [a5, hp.1, decide_eq_true hp.2, decide_eq_true rfl, Int32.add_assoc, nI_1]
          rfl
        · rw [upd_nq ei]
          show (mRun S t (nI q) (nI F) c).1 (t + 13) i = _
          rw [a5, decide_eq_false (p := F + e c = i) (fun z => ei z.symm), Bool.and_false, Bool.and_false]
          rfl
    · have hn : ¬ (if p c = true then nI (hm c) else -1) = nI q := by
        by_cases hp1 : p c = true
        · rw [if_pos hp1]
          intro z
          exact hp ⟨hp1, (nI_eq (by have := hb c (by omega) hp1; omega) (by omega)).mp z⟩
        · rw [if_neg hp1]
          intro z
          have : ¬ nI q < 0 := nI_pos (by omega)
          rw [← z] at this
          exact this (by decide)
      rw [if_neg hn]
      refine ⟨a1, a2, fun k => ?_, fun i hi => ?_⟩
      · rw [a3 k]
        by_cases z : k < c ∧ (p k = true ∧ hm k = q)
        · rw [if_pos z, if_pos ⟨by omega, z.2⟩]
        · rw [if_neg z, if_neg (fun z2 => z ⟨by
            rcases Nat.lt_or_ge k c with w | w
            · exact w
            · exact absurd z2.2 (by rw [show k = c by omega]; exact hp), z2.2⟩)]
      · rw [a4 i hi, cnt_succ]
        have : (p c && (decide (hm c = q) && decide (F + e c = i))) = false := by
          cases h1 : p c with
          | false => rfl
          | true => rw [decide_eq_false (fun z => hp ⟨h1, z⟩)]; rfl
        rw [this]
        rfl
