/-! packed, as a whole -/
section PL
variable {S : St} {t c : Nat} {X Y W H : Nat → Nat}
def pkN (fn m : Nat) : Nat := if m = 0 then 0 else gpN fn 10 0 (cutN fn m).1
def pkL (fn m : Nat) : Nat := if m = 0 then 0 else (cutN fn m).1
set_option maxHeartbeats 400000 in
theorem pk_ok : ∀ m, m < 30 → ∀ fn, fn < 9 → 2 ≤ fn → gpB fn 10 0 (cutN fn m).1 = true := by decide +kernel
set_option maxHeartbeats 400000 in
theorem pk_mono : ∀ m, m < 30 → pkN 8 m ≤ pkN 2 m := by decide +kernel
def PT (S : St) (t c L N : Nat) (p : Nat → Bool) : Prop := tN S t = nI N ∧ (L ≤ N ∧ N ≤ 60) ∧ (∀ j, j < L → S.1 (t + 11) j = 0 ∧ S.1 (t + 17) j = 0 ∧ S.1 (t + 13) j = nI (hdC S t c j)) ∧ (∀ j, j < N → bxE S (t + 1) j) ∧ (∀ j, L ≤ j → j < N → ∃ v, 1 ≤ v ∧ v < 1000 ∧ S.1 (t + 11) j = nI v) ∧ okR (S.1 (t + 17)) ∧ ∀ k, k < c → S.1 (t + 21) k = -1 ∨ (p k = true ∧ ∃ j, j < L ∧ S.1 (t + 21) k = nI j)
set_option maxHeartbeats 400000 in
theorem kfil_mem {f : Nat → Int32} {p : Nat → Bool} {c i : Nat} (hi : i < cnt p c) : ∃ k, k < c ∧ p k = true ∧ kfil f p nI c i = nI k := mem_of (fun P => kfil_cnt P c) hi
set_option maxHeartbeats 400000 in
theorem kfil_inj {f : Nat → Int32} {p : Nat → Bool} {c i j : Nat} (hc : c < 2 ^ 31) (hi : i < cnt p c) (hj : j < cnt p c) (e : kfil f p nI c i = kfil f p nI c j) : i = j := by
  have key : ∀ i j, i < j → j < cnt p c → kfil f p nI c i = kfil f p nI c j → False := by
    intro i j hij hj e
    have h1 := cnt_two (p := fun k => decide (kfil f p nI c k = kfil f p nI c j)) hij (decide_eq_true e) (decide_eq_true rfl) (cnt p c) hj
    rw [kfil_cnt (fun v => decide (v = kfil f p nI c j))] at h1
    have h2 := cnt_one (p := fun k => p k && decide (nI k = kfil f p nI c j)) c fun a b ha hb q1 q2 => by
      simp only [Bool.and_eq_true, decide_eq_true_eq] at q1 q2
      exact (nI_eq (by omega) (by omega)).mp (q1.2.trans q2.2.symm)
    omega
  rcases Nat.lt_trichotomy i j with h | h | h
  · exact (key i j h hj e).elim
  · exact h
  · exact (key j i h hi e.symm).elim
set_option maxHeartbeats 400000 in
theorem tr_bx (hT : TR S c X Y W H) {k : Nat} (hk : k < c) : bxE S 2 k := by
  obtain ⟨e1, e2, e3, e4, b1, b2⟩ := hT k hk
  exact ⟨_, _, _, _, b1, b2, e1, e2, e3, e4⟩
set_option maxHeartbeats 400000 in
theorem fell_int : tN (fellS S t) t = 0 := by
  show va_up (va_up S.2.1 t (va_up (S.2.1 t) 8 0)) t (va_up ((va_up S.2.1 t (va_up (S.2.1 t) 8 0)) t) 9 0) t 8 = 0
  simp [va_up]
set_option maxHeartbeats 400000 in
theorem pk_all {fn : Nat} {layer : Int32} (ht : 12 < t) (hc : c ≤ 29) (hf2 : 2 ≤ fn) (hf : fn ≤ 8) (hT : TR S c X Y W H) (hok : okR (S.1 (t + 17))) :
    (¬ cnt (inL (fellS S t) layer) c = 0 → gpOk (pk3 S t c fn layer) t fn 10 0 1) ∧ PT (growP S t c fn layer) t c (pkL fn (cnt (inL S layer) c)) (pkN fn (cnt (inL S layer) c)) (inL S layer) := by
  have eI : inL (fellS S t) layer = inL S layer := by
    funext k
    show decide ((setR (setI (setI S t 8 0) t 9 0) (t + 21) _).1 12 k = layer) = _
    rw [setR_ne (by omega)]
    rfl
  have hm := cnt_le (inL S layer) c
  have f21 : (fellS S t).1 (t + 21) = rfil (tHm S t) 80 (-1) 0 := setR_eq
  have f17 : (fellS S t).1 (t + 17) = S.1 (t + 17) := setR_ne (by omega)
  have flow : ∀ a, a ≤ 12 → (fellS S t).1 a = S.1 a := fun a ha => setR_ne (by omega)
  have h21 : ∀ k, k < c → (fellS S t).1 (t + 21) k = -1 := fun k hk => by rw [f21]; exact if_pos ⟨by omega, by omega⟩
  by_cases hz : cnt (inL S layer) c = 0
  · refine ⟨fun z => absurd (eI ▸ hz) z, ?_⟩
    have e : growP S t c fn layer = pk1 S t c layer := by unfold growP; rw [eI, if_pos hz]
    rw [e, hz]
    refine ⟨?_, ⟨Nat.le_refl _, by unfold pkN; rw [if_pos rfl]; omega⟩, fun j hj => absurd hj (Nat.not_lt_zero _), fun j hj => absurd hj (Nat.not_lt_zero _), fun j _ hj => absurd hj (Nat.not_lt_zero _), ?_, fun k hk => Or.inl ?_⟩
    · show tN (fellS S t) t = _
      rw [fell_int]; rfl
    · show okR ((setR (fellS S t) (t + 23) _).1 (t + 17))
      rw [setR_ne (by omega), f17]; exact hok
    · show (setR (fellS S t) (t + 23) _).1 (t + 21) k = -1
      rw [setR_ne (by omega)]; exact h21 k hk
  · have e1 : tKy (pk1 S t c layer) t = kfil (tKy (fellS S t) t) (inL S layer) nI c := by
      unfold pk1
      show (setR _ _ _).1 (t + 23) = _
      rw [setR_eq, eI]
    have p1o : ∀ a, a ≠ t + 23 → (pk1 S t c layer).1 a = (fellS S t).1 a := fun a ha => setR_ne ha
    -- the base
    have hg : ∀ k, k < cnt (inL S layer) c → ∃ z, z < 128 ∧ z < 80 ∧ bxE (pk1 S t c layer) 2 z ∧ kfil (tKy (fellS S t) t) (inL S layer) nI c k = nI z := by
      intro k hk
      obtain ⟨z, z1, z2, z3⟩ := kfil_mem (f := tKy (fellS S t) t) hk
      exact ⟨z, by omega, by omega, bxE_row (fun a _ _ => by rw [p1o a (by omega), flow a (by omega)]) (tr_bx hT z1), z3⟩
    generalize hB : setR (pk1 S t c layer) (t + 23) (otp (pk1 S t c layer) 2 80 (cnt (inL S layer) c) fn (kfil (tKy (fellS S t) t) (inL S layer) nI c)) = B
    have hpk3 : pk3 S t c fn layer = (clRun B t 2 80 (nI fn) (cnt (inL S layer) c)).1 := by
      unfold pk3
      rw [eI, e1, hB]
    have b23 : B.1 (t + 23) = otp (pk1 S t c layer) 2 80 (cnt (inL S layer) c) fn (kfil (tKy (fellS S t) t) (inL S layer) nI c) := by rw [← hB, setR_eq]
    have bo : ∀ a, a ≠ t + 23 → B.1 a = (fellS S t).1 a := fun a ha => by rw [← hB, setR_ne ha]; exact p1o a ha
    have hkey : ∀ i, i < cnt (inL S layer) c → ∃ k, k < c ∧ inL S layer k = true ∧ B.1 (t + 23) i = nI k := by
      intro i hi
      obtain ⟨j, hj, ej⟩ := otp_mem (S := pk1 S t c layer) (fn := fn) (by omega) hg hi
      obtain ⟨k, k1, k2, k3⟩ := kfil_mem (f := tKy (fellS S t) t) hj
      exact ⟨k, k1, k2, by rw [b23, ej, k3]⟩
    have hκ : ∀ i, i < cnt (inL S layer) c → B.1 (t + 23) i = nI (B.1 (t + 23) i).toNatClampNeg ∧ (B.1 (t + 23) i).toNatClampNeg < c ∧ inL S layer (B.1 (t + 23) i).toNatClampNeg = true := by
      intro i hi
      obtain ⟨k, k1, k2, k3⟩ := hkey i hi
      rw [k3, nI_clamp (by omega)]
      exact ⟨rfl, k1, k2⟩
    have hinj : ∀ i j, i < cnt (inL S layer) c → j < cnt (inL S layer) c → (B.1 (t + 23) i).toNatClampNeg = (B.1 (t + 23) j).toNatClampNeg → i = j := by
      intro i j hi hj e
      have e2 : B.1 (t + 23) i = B.1 (t + 23) j := by rw [(hκ i hi).1, (hκ j hj).1, e]
      rw [b23] at e2
      exact otp_inj (by omega) hg (fun i j hi hj e => kfil_inj (by omega) hi hj e) hi hj e2
    have hbb : ∀ z, z < c → bxE B 2 z := fun z hz => bxE_row (fun a _ _ => by rw [bo a (by omega), flow a (by omega)]) (tr_bx hT hz)
    have h0 : CM B B t c 0 0 (fun i => (B.1 (t + 23) i).toNatClampNeg) := by
      refine ⟨?_, fun j hj => absurd hj (Nat.not_lt_zero _), fun k hk => Or.inl ⟨by rw [bo _ (by omega)]; exact h21 k hk, fun i' hi' => absurd hi' (Nat.not_lt_zero _)⟩, fun _ _ => rfl, rfl, by rw [bo _ (by omega), f17]; exact hok⟩
      rw [← hB]
      show tN (fellS S t) t = nI 0
      rw [fell_int]; rfl
    have hcl := (clRun_eff (B := B) (t := t) (c := c) (κ := fun i => (B.1 (t + 23) i).toNatClampNeg) (fan := fn) (m := cnt (inL S layer) c) ht hf (by omega) (by omega) (by omega) (fun i hi => ⟨(hκ i hi).1, (hκ i hi).2.1, hbb _ (hκ i hi).2.1⟩) hinj h0 (cnt (inL S layer) c) (Nat.le_refl _)).1
    rw [← hpk3] at hcl
    obtain ⟨c1, c2, c3, -, -, c6⟩ := hcl
    have hu : UM (pk3 S t c fn layer) (pk3 S t c fn layer) t c (cutN fn (cnt (inL S layer) c)).1 (cutN fn (cnt (inL S layer) c)).1 := ⟨c1, fun j hj => ⟨(c2 j hj).1, (c2 j hj).2.1, (c2 j hj).2.2.2⟩, fun j hj => (c2 j hj).2.2.1, fun j q1 q2 => by omega, c6, rfl⟩
    obtain ⟨g1, g2, g3, g4⟩ := gpR_eff (fan := fn) (by omega) hf 10 0 _ 1 _ hu (Nat.le_refl _) (Nat.zero_le _) (Nat.le_refl _) (by omega) (pk_ok _ (by omega) fn (by omega) hf2)
    refine ⟨fun _ => g1, ?_⟩
    have e : growP S t c fn layer = setI (gpR (pk3 S t c fn layer) t fn 10 0 1) t 9 (tN (gpR (pk3 S t c fn layer) t fn 10 0 1) t - 1) := by unfold growP; rw [eI, if_neg hz]
    have eN : pkN fn (cnt (inL S layer) c) = gpN fn 10 0 (cutN fn (cnt (inL S layer) c)).1 := if_neg hz
    have eL : pkL fn (cnt (inL S layer) c) = (cutN fn (cnt (inL S layer) c)).1 := if_neg hz
    rw [e, eN, eL]
    obtain ⟨u1, u2, u3, u4, u5, u6⟩ := g2
    refine ⟨?_, ⟨g3, g4⟩, u2, u3, u4, u5, fun k hk => ?_⟩
    · show va_up (gpR (pk3 S t c fn layer) t fn 10 0 1).2.1 t (va_up ((gpR (pk3 S t c fn layer) t fn 10 0 1).2.1 t) 9 _) t 8 = _
      unfold va_up
      rw [if_pos rfl, if_neg (by decide)]
      exact u1
    · show (gpR (pk3 S t c fn layer) t fn 10 0 1).1 (t + 21) k = -1 ∨ _ ∧ ∃ j, j < _ ∧ (gpR (pk3 S t c fn layer) t fn 10 0 1).1 (t + 21) k = nI j
      rw [u6]
      rcases c3 k hk with w | ⟨w1, ⟨i', w2, w3⟩⟩
      · exact Or.inl w.1
      · refine Or.inr ⟨?_, w1⟩
        have := (hκ i' w2).2.2
        rw [show (B.1 (t + 23) i').toNatClampNeg = k from w3] at this
        exact this
/-! growing keeps the counts of the rows small -/
set_option maxHeartbeats 400000 in
theorem okR_qStep {j : Nat} {q half : Int32} (h : okR (S.1 (t + 17))) : okR ((qStep S t q half j).1 (t + 17)) := by
  unfold qStep bput addNS
  show okR ((setR (setR (setR (setR (setR (setI (setR (setR (setR S _ _) _ _) _ _) _ _ _) _ _) _ _) _ _) _ _) _ _).1 (t + 17))
  rw [setR_ne (by omega), setR_ne (by omega), setR_ne (by omega), setR_ne (by omega), setR_ne (by omega)]
  show okR ((setR (setR (setR S _ _) _ _) _ _).1 (t + 17))
  rw [setR_eq]
  unfold rput
  split
  · exact h
  · split
    · exact h
    · exact okR_upd (q := 0) h (by omega)
set_option maxHeartbeats 400000 in
theorem okR_mRun {q first : Int32} (h : okR (S.1 (t + 17))) : ∀ k, okR ((mRun S t q first k).1 (t + 17)) := by
  intro k
  induction k with
  | zero => exact h
  | succ k ih =>
    show okR ((mStep (mRun S t q first k) t q first k).1 (t + 17))
    unfold mStep
    split
    · unfold settS
      rw [setR_ne (by omega), setR_ne (by omega)]; exact ih
    · exact ih
set_option maxHeartbeats 400000 in
theorem okR_qRun {q half : Int32} (h : okR (S.1 (t + 17))) : ∀ j, okR ((qRun S t q half j).1 (t + 17)) := by
  intro j
  induction j with
  | zero => exact h
  | succ j ih => exact okR_qStep ih
set_option maxHeartbeats 400000 in
theorem okR_rput {R : St} {q : Int32} (h2 : okR (R.1 (t + 17))) : okR ((setR R (t + 17) (rput (tCt R t) 1205 q 4)).1 (t + 17)) := by
  rw [setR_eq]
  unfold rput
  split
  · exact h2
  · split
    · exact h2
    · exact okR_upd (q := 4) h2 (by omega)
set_option maxHeartbeats 400000 in
theorem okR_splS {q : Int32} (h : okR (S.1 (t + 17))) : okR ((splS S t q c).1 (t + 17)) :=
  okR_mRun (okR_rput (okR_qRun (S := setR S (t + 15) (rput (tFr S t) 1205 q (tN S t))) (by rw [setR_ne (by omega)]; exact h) 4)) c
set_option maxHeartbeats 400000 in
theorem okR_gRun {cap : Int32} : ∀ f sq (S : St), okR (S.1 (t + 17)) → okR ((gRun S t c cap f sq).1 (t + 17)) := by
  intro f
  induction f with
  | zero => intro sq S h; exact h
  | succ f ih =>
    intro sq S h
    unfold gRun
    split
    · refine ih _ _ ?_
      unfold gStep
      split
      · exact okR_splS h
      · exact h
    · exact h
set_option maxHeartbeats 400000 in
theorem okR_rRun {layer : Int32} (h : okR (S.1 (t + 17))) : ∀ k, okR ((rRun S t layer k).1 (t + 17)) := by
  intro k
  induction k with
  | zero => exact h
  | succ k ih =>
    show okR ((rStep (rRun S t layer k) t layer k).1 (t + 17))
    unfold rStep
    split
    · exact ih
    · unfold settS
      rw [setR_ne (by omega), setR_ne (by omega)]; exact ih
set_option maxHeartbeats 400000 in
theorem okR_growS {layer cap : Int32} (h : okR (S.1 (t + 17))) : okR ((growS S t c layer cap).1 (t + 17)) := by
  unfold growS
  refine okR_gRun _ _ _ (okR_rRun ?_ c)
  unfold seedS
  show okR ((bput _ (t + 1) 1205 _ 0 0 1023 1023).1 (t + 17))
  rw [bput_oth (by omega)]
  show okR ((addNS (fellS S t) t 0).1 (t + 17))
  unfold addNS
  show okR ((setR (setR (setR (fellS S t) _ _) _ _) _ _).1 (t + 17))
  rw [setR_eq]
  have h2 : okR (tCt (fellS S t) t) := by
    show okR ((setR _ (t + 21) _).1 (t + 17))
    rw [setR_ne (by omega)]; exact h
  unfold rput
  split
  · exact h2
  · split
    · exact h2
    · exact okR_upd (q := 0) h2 (by omega)
end PL
