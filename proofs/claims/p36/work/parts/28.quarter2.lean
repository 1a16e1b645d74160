/-! a square is cut, as a whole -/
set_option maxHeartbeats 400000 in
theorem splS_eff {S : St} {t N q c : Nat} {hm : Nat → Nat} {p : Nat → Bool} {e : Nat → Nat} {half : Int32} (ht : 12 < t) (hN : tN S t = nI N) (hq : q < N) (hN4 : N + 4 ≤ 1205) (hc : c ≤ 80) (hh : ∀ k, k < c → S.1 (t + 21) k = if p k = true then nI (hm k) else -1) (hb : ∀ k, k < c → p k = true → hm k < N) (he : ∀ k, k < c → p k = true → hm k = q → e k < 4 ∧ qtr S t (nI q) (bX S 2 80 (nI k)) (bY S 2 80 (nI k)) = nI (e k)) (hhalf : halfV S t (nI q) = half) :
    (tN (splS S t (nI q) c) t = nI (N + 4) ∧ tR (splS S t (nI q) c) t = tR S t) ∧
    (∀ a, a = t + 3 ∨ a = t + 5 ∨ a = t + 7 ∨ a = t + 9 ∨ a = t + 11 ∨ a = t + 19 → ∀ i, i < N → (splS S t (nI q) c).1 a i = S.1 a i) ∧
    (∀ j, j < 4 → (splS S t (nI q) c).1 (t + 11) (N + j) = S.1 (t + 11) q + 1 ∧ (splS S t (nI q) c).1 (t + 3) (N + j) = S.1 (t + 3) q + (nI j - nI j / 2 * 2) * half ∧ (splS S t (nI q) c).1 (t + 5) (N + j) = S.1 (t + 5) q + nI j / 2 * half ∧ (splS S t (nI q) c).1 (t + 7) (N + j) = half - 1 ∧ (splS S t (nI q) c).1 (t + 9) (N + j) = half - 1 ∧ (splS S t (nI q) c).1 (t + 19) (N + j) = nI (N + j)) ∧
    (∀ i, i < N → (splS S t (nI q) c).1 (t + 17) i = if i = q then 4 else S.1 (t + 17) i) ∧ (∀ j, j < 4 → (splS S t (nI q) c).1 (t + 17) (N + j) = 0) ∧
    (∀ i, (splS S t (nI q) c).1 (t + 15) i = if i = q then nI N else S.1 (t + 15) i) ∧
    (∀ k, k < c → (splS S t (nI q) c).1 (t + 21) k = if p k = true ∧ hm k = q then nI (N + e k) else S.1 (t + 21) k) ∧
    (∀ i, i < N → (splS S t (nI q) c).1 (t + 13) i = S.1 (t + 13) i) ∧ (∀ j, j < 4 → (splS S t (nI q) c).1 (t + 13) (N + j) = nI (cnt (fun k => p k && (decide (hm k = q) && decide (e k = j))) c)) := by
  have hS0 : setR S (t + 15) (rput (tFr S t) 1205 (nI q) (tN S t)) = setR S (t + 15) (upd (S.1 (t + 15)) q (nI N)) := by rw [hN, rput_nI (by omega) (by decide)]
  obtain ⟨a1, a2, a3, a4, a5⟩ := qRun_eff (S := setR S (t + 15) (upd (S.1 (t + 15)) q (nI N))) (t := t) (N := N) (q := q) (half := half) hN hq 4 (by omega)
  have hSp : splS S t (nI q) c = mRun (setR (qRun (setR S (t + 15) (upd (S.1 (t + 15)) q (nI N))) t (nI q) half 4) (t + 17) (upd ((qRun (setR S (t + 15) (upd (S.1 (t + 15)) q (nI N))) t (nI q) half 4).1 (t + 17)) q 4)) t (nI q) (nI N) c := by
    unfold splS
    rw [hhalf, hS0, hN]
    show mRun (setR _ _ (rput ((qRun (setR S (t + 15) (upd (S.1 (t + 15)) q (nI N))) t (nI q) half 4).1 (t + 17)) 1205 (nI q) 4)) t (nI q) (nI N) c = _
    rw [rput_nI (show q < 1205 by omega) (by decide)]
  rw [hSp]
  clear hSp hS0
  generalize hR1 : qRun (setR S (t + 15) (upd (S.1 (t + 15)) q (nI N))) t (nI q) half 4 = R1 at *
  have s0 : ∀ a, a ≠ t + 15 → (setR S (t + 15) (upd (S.1 (t + 15)) q (nI N))).1 a = S.1 a := fun a ha => setR_ne ha
  have r2 : ∀ a, a ≠ t + 17 → (setR R1 (t + 17) (upd (R1.1 (t + 17)) q 4)).1 a = R1.1 a := fun a ha => setR_ne ha
  have r4 : ∀ a, a ≠ t + 15 → ¬ nd t a → R1.1 a = S.1 a := fun a h1 h2 => (a4 a h2).trans (s0 a h1)
  have r3 : ∀ a, a ≠ t + 15 → ∀ i, i < N → R1.1 a i = S.1 a i := fun a h1 i hi => (a3 i hi a).trans (congrFun (s0 a h1) i)
  obtain ⟨m1, m2, m3, m4⟩ := mRun_eff (S := setR R1 (t + 17) (upd (R1.1 (t + 17)) q 4)) (t := t) (F := N) (q := q) (hm := hm) (p := p) (e := e) (by omega) hN4 c hc
    (fun k hk => by rw [r2 _ (by omega), r4 _ (by omega) (by unfold nd; omega)]; exact hh k hk) (fun k hk hp => by have := hb k hk hp; omega)
    (fun k hk hp hq2 => ⟨(he k hk hp hq2).1, by
      rw [← (he k hk hp hq2).2]
      unfold qtr halfV
      show (if rat ((setR R1 (t + 17) (upd (R1.1 (t + 17)) q 4)).1 4) 80 (nI k) < rat ((setR R1 (t + 17) (upd (R1.1 (t + 17)) q 4)).1 (t + 3)) 1205 (nI q) + (rat ((setR R1 (t + 17) (upd (R1.1 (t + 17)) q 4)).1 (t + 7)) 1205 (nI q) + 1) / 2 then 0 else 1) + (if rat ((setR R1 (t + 17) (upd (R1.1 (t + 17)) q 4)).1 6) 80 (nI k) < rat ((setR R1 (t + 17) (upd (R1.1 (t + 17)) q 4)).1 (t + 5)) 1205 (nI q) + (rat ((setR R1 (t + 17) (upd (R1.1 (t + 17)) q 4)).1 (t + 7)) 1205 (nI q) + 1) / 2 then 0 else 2)
        = (if rat (S.1 4) 80 (nI k) < rat (S.1 (t + 3)) 1205 (nI q) + (rat (S.1 (t + 7)) 1205 (nI q) + 1) / 2 then 0 else 1) + (if rat (S.1 6) 80 (nI k) < rat (S.1 (t + 5)) 1205 (nI q) + (rat (S.1 (t + 7)) 1205 (nI q) + 1) / 2 then 0 else 2)
      rw [r2 _ (by omega), r2 _ (by omega), r2 _ (by omega), r2 _ (by omega), r2 _ (by omega), r4 4 (by omega) (by unfold nd; omega), r4 6 (by omega) (by unfold nd; omega)]
      rw [rat_nI (f := R1.1 (t + 3)) (show q < 1205 by omega) (by decide), rat_nI (f := R1.1 (t + 5)) (show q < 1205 by omega) (by decide), rat_nI (f := R1.1 (t + 7)) (show q < 1205 by omega) (by decide)]
      rw [rat_nI (f := S.1 (t + 3)) (show q < 1205 by omega) (by decide), rat_nI (f := S.1 (t + 5)) (show q < 1205 by omega) (by decide), rat_nI (f := S.1 (t + 7)) (show q < 1205 by omega) (by decide)]
      rw [r3 _ (by omega) q hq, r3 _ (by omega) q hq, r3 _ (by omega) q hq]⟩) ht
  generalize hR3 : mRun (setR R1 (t + 17) (upd (R1.1 (t + 17)) q 4)) t (nI q) (nI N) c = R3 at *
  refine ⟨⟨?_, ?_⟩, ?_, ?_, ?_, ?_, ?_, ?_, ?_, ?_⟩
  · show R3.2.1 t 8 = _
    rw [m1]
    exact a1
  · show R3.2.1 t 9 = _
    rw [m1]
    exact a2 t 9 (by omega)
  · intro a ha i hi
    rw [m2 a (by omega) (by omega), r2 a (by omega)]
    exact r3 a (by omega) i hi
  · intro j hj
    obtain ⟨c1, c2, c3, c4, c5, c6, c7, c8⟩ := a5 j hj
    refine ⟨?_, ?_, ?_, ?_, ?_, ?_⟩
    · rw [m2 _ (by omega) (by omega), r2 _ (by omega), c1, s0 _ (by omega)]
    · rw [m2 _ (by omega) (by omega), r2 _ (by omega), c4, s0 _ (by omega)]
    · rw [m2 _ (by omega) (by omega), r2 _ (by omega), c5, s0 _ (by omega)]
    · rw [m2 _ (by omega) (by omega), r2 _ (by omega), c6]
    · rw [m2 _ (by omega) (by omega), r2 _ (by omega), c7]
    · rw [m2 _ (by omega) (by omega), r2 _ (by omega), c8]
  · intro i hi
    rw [m2 _ (by omega) (by omega), setR_eq]
    by_cases e1 : i = q
    · subst e1; rw [upd_at, if_pos rfl]
    · rw [upd_nq e1, if_neg e1]; exact r3 _ (by omega) i hi
  · intro j hj
    rw [m2 _ (by omega) (by omega), setR_eq, upd_nq (by omega)]
    exact (a5 j hj).2.2.1
  · intro i
    rw [m2 _ (by omega) (by omega), r2 _ (by omega), a4 _ (by unfold nd; omega), setR_eq]
    by_cases e1 : i = q
    · subst e1; rw [upd_at, if_pos rfl]
    · rw [upd_nq e1, if_neg e1]
  · intro k hk
    rw [m3 k, r2 _ (by omega), r4 _ (by omega) (by unfold nd; omega)]
    by_cases z : p k = true ∧ hm k = q
    · rw [if_pos ⟨hk, z⟩, if_pos z]
    · rw [if_neg (fun w => z w.2), if_neg z]
  · intro i hi
    rw [m4 i (by omega), r2 _ (by omega), r3 _ (by omega) i hi, cnt_0 c (fun k hk => by
      rw [decide_eq_false (p := N + e k = i) (by omega), Bool.and_false, Bool.and_false]), nI_0, Int32.add_zero]
  · intro j hj
    rw [m4 (N + j) (by omega), r2 _ (by omega), (a5 j hj).2.1, Int32.zero_add]
    congr 1
    refine cnt_cong fun k hk => ?_
    show (p k && (decide (hm k = q) && decide (N + e k = N + j))) = _
    rw [show decide (N + e k = N + j) = decide (e k = j) from decide_eq_decide.mpr (by omega)]
/-! ghosts -/
def eN (l x y : Nat) : Nat := (x / 2 ^ (9 - l)) % 2 + 2 * ((y / 2 ^ (9 - l)) % 2)
set_option maxHeartbeats 400000 in
theorem eN_lt (l x y : Nat) : eN l x y < 4 := by unfold eN; omega
set_option maxHeartbeats 400000 in
theorem eN_mod (l x y : Nat) : eN l x y % 2 = (x / 2 ^ (9 - l)) % 2 ∧ eN l x y / 2 = (y / 2 ^ (9 - l)) % 2 := by unfold eN; omega
set_option maxHeartbeats 400000 in
theorem pw {l : Nat} (h : l ≤ 9) : 2 ^ (10 - l) = 2 * 2 ^ (9 - l) := by
  rw [show 10 - l = (9 - l) + 1 by omega, Nat.pow_succ]; omega
set_option maxHeartbeats 400000 in
theorem pw_le {l : Nat} : 2 ^ l ≤ 1024 ∨ 10 < l := by
  rcases Nat.lt_or_ge 10 l with h | h
  · exact Or.inr h
  · exact Or.inl (Nat.le_trans (Nat.pow_le_pow_right (by omega) h) (by decide))
set_option maxHeartbeats 400000 in
theorem dv2 {x l : Nat} (h : l ≤ 9) : x / 2 ^ (10 - l) = x / 2 ^ (9 - l) / 2 := by
  rw [pw h, Nat.mul_comm, ← Nat.div_div_eq_div_mul]
set_option maxHeartbeats 400000 in
theorem half_nI {l : Nat} (h : l ≤ 9) : (nI (2 ^ (10 - l) - 1) + 1) / 2 = nI (2 ^ (9 - l)) := by
  have h0 : 2 ^ (9 - l) ≤ 1024 := by rcases pw_le (l := 9 - l) with q | q <;> omega
  have h1 := Nat.one_le_two_pow (n := 9 - l)
  rw [nI_1, pw h, show 2 * 2 ^ (9 - l) - 1 + 1 = 2 * 2 ^ (9 - l) by omega, show (2 : Int32) = nI 2 from rfl, nI_div (by omega) (by decide), show 2 * 2 ^ (9 - l) / 2 = 2 ^ (9 - l) by omega]
-- which quarter
set_option maxHeartbeats 400000 in
theorem bit_lt {x g l : Nat} (h : l ≤ 9) (hx : x / 2 ^ (10 - l) = g) : (x < g * 2 ^ (10 - l) + 2 ^ (9 - l) ↔ (x / 2 ^ (9 - l)) % 2 = 0) ∧ x / 2 ^ (9 - l) = 2 * g + (x / 2 ^ (9 - l)) % 2 := by
  have h1 := Nat.one_le_two_pow (n := 9 - l)
  rw [dv2 h] at hx
  rw [pw h]
  have e : g * (2 * 2 ^ (9 - l)) + 2 ^ (9 - l) = (2 * g + 1) * 2 ^ (9 - l) := by
    rw [Nat.add_mul, Nat.one_mul, Nat.mul_comm 2 g, Nat.mul_assoc]
  rw [e, ← Nat.div_lt_iff_lt_mul (by omega)]
  generalize x / 2 ^ (9 - l) = m at *
  omega
set_option maxHeartbeats 400000 in
theorem qtr_nI {S : St} {t a l x y gx gy : Nat} (hl : l ≤ 9) (ha : a < 1205) (h3 : S.1 (t + 3) a = nI (gx * 2 ^ (10 - l))) (h5 : S.1 (t + 5) a = nI (gy * 2 ^ (10 - l))) (h7 : S.1 (t + 7) a = nI (2 ^ (10 - l) - 1)) (hx : x ≤ 1023) (hy : y ≤ 1023) (r1 : x / 2 ^ (10 - l) = gx) (r2 : y / 2 ^ (10 - l) = gy) : qtr S t (nI a) (nI x) (nI y) = nI (eN l x y) := by
  have h0 : 2 ^ (9 - l) ≤ 1024 := by rcases pw_le (l := 9 - l) with q | q <;> omega
  have b1 := bit_lt hl r1
  have b2 := bit_lt hl r2
  have g1 : gx * 2 ^ (10 - l) ≤ x := by rw [← r1]; exact Nat.div_mul_le_self _ _
  have g2 : gy * 2 ^ (10 - l) ≤ y := by rw [← r2]; exact Nat.div_mul_le_self _ _
  have hh : halfV S t (nI a) = nI (2 ^ (9 - l)) := by
    unfold halfV
    rw [show bW S (t + 1) 1205 (nI a) = nI (2 ^ (10 - l) - 1) from (rat_nI ha (by decide)).trans h7]
    exact half_nI hl
  unfold qtr
  rw [hh, show bX S (t + 1) 1205 (nI a) = nI (gx * 2 ^ (10 - l)) from (rat_nI ha (by decide)).trans h3, show bY S (t + 1) 1205 (nI a) = nI (gy * 2 ^ (10 - l)) from (rat_nI ha (by decide)).trans h5, nI_add, nI_add]
  have c1 : (if nI x < nI (gx * 2 ^ (10 - l) + 2 ^ (9 - l)) then (0 : Int32) else 1) = nI ((x / 2 ^ (9 - l)) % 2) := by
    by_cases q : x < gx * 2 ^ (10 - l) + 2 ^ (9 - l)
    · rw [if_pos ((nI_ltI (by omega) (by omega)).mpr q), b1.1.mp q]; rfl
    · rw [if_neg (fun z => q ((nI_ltI (by omega) (by omega)).mp z)), show (x / 2 ^ (9 - l)) % 2 = 1 by
        have : ¬ (x / 2 ^ (9 - l)) % 2 = 0 := fun z => q (b1.1.mpr z)
        omega]; rfl
  have c2 : (if nI y < nI (gy * 2 ^ (10 - l) + 2 ^ (9 - l)) then (0 : Int32) else 2) = nI (2 * ((y / 2 ^ (9 - l)) % 2)) := by
    by_cases q : y < gy * 2 ^ (10 - l) + 2 ^ (9 - l)
    · rw [if_pos ((nI_ltI (by omega) (by omega)).mpr q), b2.1.mp q]; rfl
    · rw [if_neg (fun z => q ((nI_ltI (by omega) (by omega)).mp z)), show (y / 2 ^ (9 - l)) % 2 = 1 by
        have : ¬ (y / 2 ^ (9 - l)) % 2 = 0 := fun z => q (b2.1.mpr z)
        omega]; rfl
  rw [c1, c2, nI_add]
  rfl
