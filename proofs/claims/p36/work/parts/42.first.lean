/-! the index with its two layers, nothing in them -/
set_option maxHeartbeats 400000 in
theorem lay_int {S : St} : (lay1S S).2.1 1 5 = S.2.1 1 5 ∧ (lay1S S).2.1 0 4 = S.2.1 0 4 + 1 ∧ (lay1S S).2.1 20 2 = S.2.1 20 2 ∧ (lay1S S).2.1 49 3 = S.2.1 49 3 ∧ (lay1S S).2.1 74 3 = 4 := ⟨rfl, rfl, rfl, rfl, rfl⟩
set_option maxHeartbeats 400000 in
theorem lay_row {S : St} : (lay1S S).1 67 = S.1 67 ∧ (lay1S S).1 42 = S.1 42 ∧ (lay1S S).1 92 = fun _ => 0 := ⟨rfl, rfl, rfl⟩
set_option maxHeartbeats 400000 in
theorem BI_0 : BI (lay1S (lay0S S00)) (fun _ => 0) (fun _ => 0) (fun _ => 0) (fun _ => 0) 0 4 4 := by
  have t0 : Tch 50 (setI (newS 0 S00) 0 4 ((newS 0 S00).2.1 0 4 + 1)) (lay0S S00) := t_growS (Tch.rf _ _)
  have z0 : okR (fun _ => 0) := fun i _ => ⟨0, by omega, nI_0.symm⟩
  have h67 : okR ((lay0S S00).1 (50 + 17)) := okR_growS (S := setI (newS 0 S00) 0 4 ((newS 0 S00).2.1 0 4 + 1)) (t := 50) z0
  rw [show 50 + 17 = 67 from rfl] at h67
  refine ⟨⟨?_, ?_, ?_, ?_, ?_⟩, ⟨fun j hj => absurd hj (Nat.not_lt_zero _), fun _ => ⟨Nat.zero_le _, Nat.zero_le _⟩⟩, fun j hj => absurd hj (Nat.not_lt_zero _), ?_, ?_, ?_⟩
  · show (lay1S (lay0S S00)).2.1 1 5 = _
    rw [lay_int.1, t0.2.1 1 (by omega)]; rfl
  · rw [lay_int.2.1, t0.2.1 0 (by omega)]; decide
  · rw [lay_int.2.2.1, t0.2.1 20 (by omega)]; rfl
  · rw [lay_int.2.2.2.1, t0.2.1 49 (by omega)]; rfl
  · rw [lay_int.2.2.2.2]; rfl
  · rw [lay_row.1]; exact h67
  · rw [lay_row.2.1, t0.1 42 (by omega)]; exact z0
  · rw [lay_row.2.2]; exact z0
set_option maxHeartbeats 400000 in
theorem lay0_int : (lay0S S00).2.1 0 4 = 1 := by
  have t0 : Tch 50 (setI (newS 0 S00) 0 4 ((newS 0 S00).2.1 0 4 + 1)) (lay0S S00) := t_growS (Tch.rf _ _)
  rw [t0.2.1 0 (by omega)]; decide
set_option maxHeartbeats 400000 in
theorem lay0_flag : (lay0S S00).2.2 = true := by
  have t0 : Tch 50 (setI (newS 0 S00) 0 4 ((newS 0 S00).2.1 0 4 + 1)) (lay0S S00) := t_growS (Tch.rf _ _)
  exact t0.2.2
/-! the checks of a layer, as facts -/
section CF
variable {S0 : St} {X Y W H : Nat → Nat} {cap L N0 N1 lr : Nat}
set_option maxHeartbeats 400000 in
theorem mN_le : mN S0 lr ≤ 24 := cnt_le _ _
set_option maxHeartbeats 400000 in
theorem key_div {f k : Nat} (hk : k < 24) (hf : f ≤ 2093058) : nI (f * 128 + k) / 128 = nI f ∧ nI (f * 128 + k) - nI (f * 128 + k) / 128 * 128 = nI k := by
  have h1 := nI_div (a := f * 128 + k) (b := 128) (by omega) (by decide)
  have h2 := nI_rem (a := f * 128 + k) (b := 128) (by omega) (by decide)
  rw [show (f * 128 + k) / 128 = f by omega] at h1
  rw [show (f * 128 + k) % 128 = k by omega] at h2
  exact ⟨h1, h2⟩
-- the kk-th nearest: a thing of the layer, its distance
def frN (S0 : St) (lr x y kk : Nat) : Nat := (keyN S0 lr 24 (nI x) (nI y) kk).toNatClampNeg / 128
set_option maxHeartbeats 400000 in
theorem near_at (hI : INV S0 X Y W H cap L N0 N1) {x y kk : Nat} (hx : x ≤ 1023) (hy : y ≤ 1023) (h1 : 1 ≤ kk) (h2 : kk ≤ mN S0 lr) : ∃ k, k < 24 ∧ S0.1 12 k = nI lr ∧ nrV S0 lr x y kk = nI k ∧ frV S0 lr x y kk = nI (frN S0 lr x y kk) ∧ frN S0 lr x y kk ≤ 2093058 ∧ vfV S0 (NN N0 N1 lr) lr x y kk = nI (cnt (visP S0 (50 + 25 * lr) (nI x) (nI y) 0 0 (nI (frN S0 lr x y kk))) (NN N0 N1 lr)) := by
  obtain ⟨k, k1, k2, k3, k4⟩ := tr_keyN (lr := lr) hI.2.1.1 (by omega) hx hy h1 h2
  obtain ⟨d1, d2⟩ := key_div k1 k4
  have hp : (0 : Int32) ≤ nI (farN (X k) (Y k) (W k) (H k) x y 0 0 * 128 + k) := nI_pos' (by omega)
  have ef : frN S0 lr x y kk = farN (X k) (Y k) (W k) (H k) x y 0 0 := by
    unfold frN
    rw [k3, nI_clamp (by omega)]
    omega
  refine ⟨k, k1, of_decide_eq_true k2, ?_, ?_, by rw [ef]; exact k4, ?_⟩
  · unfold nrV; rw [k3, if_pos hp, d2]
  · unfold frV; rw [k3, if_pos hp, d1, ef]
  · unfold vfV; rw [k3, if_pos hp, d1, ef]
set_option maxHeartbeats 400000 in
theorem near_mono (hI : INV S0 X Y W H cap L N0 N1) {x y kk : Nat} (hx : x ≤ 1023) (hy : y ≤ 1023) (h1 : 1 ≤ kk) (h2 : kk + 1 ≤ mN S0 lr) : frN S0 lr x y kk ≤ frN S0 lr x y (kk + 1) := by
  obtain ⟨k, k1, k2, k3, k4⟩ := tr_keyN (lr := lr) hI.2.1.1 (by omega) hx hy h1 (show kk ≤ mN S0 lr by omega)
  obtain ⟨j, j1, j2, j3, j4⟩ := tr_keyN (lr := lr) (kk := kk + 1) hI.2.1.1 (by omega) hx hy (by omega) h2
  have hm := keyN_mono (S := S0) (c := 24) (lr := lr) (x := nI x) (y := nI y) h1 h2
  unfold frN
  rw [k3, j3] at hm ⊢
  rw [nI_clamp (by omega), nI_clamp (by omega)]
  have := (nI_leI (by omega) (by omega)).mp hm
  exact Nat.div_le_div_right this
set_option maxHeartbeats 400000 in
theorem near_no {x y : Nat} : nrV S0 lr x y (mN S0 lr + 1) = -1 ∧ vfV S0 (NN N0 N1 lr) lr x y (mN S0 lr + 1) = nI (NN N0 N1 lr) := by
  have e : keyN S0 lr 24 (nI x) (nI y) (mN S0 lr + 1) = -1 := if_pos (Nat.lt_succ_self _)
  unfold nrV vfV
  rw [e, if_neg (by decide), if_neg (by decide)]
  exact ⟨rfl, rfl⟩
set_option maxHeartbeats 400000 in
theorem vis_far {a b x y N : Nat} {t : Nat} (h : a ≤ b) (hb : b < 2 ^ 31) : cnt (visP S0 t (nI x) (nI y) 0 0 (nI a)) N ≤ cnt (visP S0 t (nI x) (nI y) 0 0 (nI b)) N := cnt_sub fun k hk z => by
  unfold visP at z ⊢
  rw [decide_eq_true_eq] at z ⊢
  exact Int32.le_trans z (nI_le h hb)
end CF
