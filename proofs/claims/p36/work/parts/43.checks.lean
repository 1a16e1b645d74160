/-! the checks of pairs and clusters -/
section CH
variable {S0 : St} {X Y W H : Nat → Nat} {cap L N0 N1 lr : Nat}
set_option maxHeartbeats 400000 in
theorem tri_nI {m a : Nat} (hm : m ≤ 24) (h : 2 * a + m = m * m) : nI m * (nI m - 1) / 2 = nI a := by
  rcases Nat.eq_zero_or_pos m with z | z
  · subst z
    rw [show a = 0 by omega]
    decide
  · obtain ⟨k, rfl⟩ : ∃ k, m = k + 1 := ⟨m - 1, by omega⟩
    rw [nI_pred, nI_mul]
    have e : (k + 1) * k = 2 * a := by
      have : (k + 1) * (k + 1) = (k + 1) * k + (k + 1) := Nat.mul_succ ..
      omega
    rw [e, show (2 : Int32) = nI 2 from rfl]
    have hb : (k + 1) * k ≤ 24 * 24 := Nat.mul_le_mul hm (by omega)
    rw [nI_div (by omega) (by decide), show 2 * a / 2 = a by omega]
def paN (S0 : St) (lr lr2 : Nat) (far : Int32) : Nat := smN (pairG S0 24 (nI lr) (nI lr2) far) 24
def clN (S0 : St) (lr : Nat) (far : Int32) : Nat := cnt (rootP S0 (nI lr) (gOut S0 24 (nI lr) far (fun _ => 0) 24)) 24
def grN (S0 : St) (lr : Nat) (far : Int32) : Nat := grtN S0 24 (nI lr) (gOut S0 24 (nI lr) far (fun _ => 0) 24) 24
set_option maxHeartbeats 400000 in
theorem ck_pairs (hI : INV S0 X Y W H cap L N0 N1) : paN S0 lr lr 400 ≤ paN S0 lr lr 3000000 ∧ 2 * paN S0 lr lr 3000000 + mN S0 lr = mN S0 lr * mN S0 lr ∧ clN S0 lr 400 + paN S0 lr lr 400 ≥ mN S0 lr ∧ clN S0 lr 400 ≤ mN S0 lr :=
  ⟨pairG_mono (by decide), pairs_all (tr_all hI.2.1.1 (by omega)), clusters_ge (by omega), clusters_le⟩
set_option maxHeartbeats 400000 in
theorem ck_one (hI : INV S0 X Y W H cap L N0 N1) : clN S0 lr 3000000 = min 1 (mN S0 lr) ∧ grN S0 lr 3000000 = mN S0 lr :=
  one_clusters (by omega) (one_out (tr_all hI.2.1.1 (by omega)) (by omega) 24 (Nat.le_refl _))
set_option maxHeartbeats 400000 in
theorem ck_great : grN S0 lr 400 + clN S0 lr 400 ≤ mN S0 lr + 1 := grt_clusters (by omega)
set_option maxHeartbeats 400000 in
theorem ck_cross (hI : INV S0 X Y W H cap L N0 N1) {lr2 : Nat} (h1 : lr < 2) (h2 : lr2 < 2) (h : lr ≠ lr2) : paN S0 lr lr2 3000000 = mN S0 lr * mN S0 lr2 :=
  pairs_cross (fun z => h ((nI_eq (by omega) (by omega)).mp z)) (tr_all hI.2.1.1 (by omega))
set_option maxHeartbeats 400000 in
theorem ck_loose (hI : INV S0 X Y W H cap L N0 N1) : smN (hdC S0 75 24) L + cnt (fun k => inL S0 (nI 1) k && decide (S0.1 96 k = -1)) 24 = mN S0 1 := held_sum hI.2.2.2.2.1
end CH
