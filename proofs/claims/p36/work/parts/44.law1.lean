/-! the law: the loop over the nearest -/
abbrev ML_law : MD := (yL_law, cL_law, 16, some .boolean)
section LW
variable {K : GK} {S0 : St} {X Y W H : Nat → Nat} {cap L N0 N1 lr uc us : Nat} {P : Option Value → VH → Prop}
abbrev GL (K : GK) (uc us : Nat) (P : Option Value → VH → Prop) (pc : Nat) (l : List (Nat × Value)) (S : St) : Prop := G K ML_law 1300 600074 7301550 uc us pc l [] (hp 2 S) (QcP K P) (XcP K noX)
def laN (S0 : St) (lr x y kk : Nat) : Int32 := if kk = 1 then 0 else nI (frN S0 lr x y (kk - 1))
def seN (S0 : St) (N lr x y kk : Nat) : Int32 := if kk = 1 then 0 else nI (cnt (visP S0 (50 + 25 * lr) (nI x) (nI y) 0 0 (nI (frN S0 lr x y (kk - 1)))) N)
set_option maxHeartbeats 400000 in
theorem la_step (hI : INV S0 X Y W H cap L N0 N1) {x y kk : Nat} (hx : x ≤ 1023) (hy : y ≤ 1023) (h1 : 1 ≤ kk) (h2 : kk ≤ mN S0 lr) : ¬ nI (frN S0 lr x y kk) < laN S0 lr x y kk ∧ ¬ nI (cnt (visP S0 (50 + 25 * lr) (nI x) (nI y) 0 0 (nI (frN S0 lr x y kk))) (NN N0 N1 lr)) < seN S0 (NN N0 N1 lr) lr x y kk := by
  obtain ⟨k, k1, k2, k3, k4, k5, k6⟩ := near_at hI hx hy h1 h2
  have hN : NN N0 N1 lr ≤ 2000 := by
    have q := qx_small hI.2.2.2.1.choose_spec.choose_spec.2
    have q2 := hI.2.2.2.2.1.2.1
    unfold NN
    split <;> omega
  have hc := cnt_le (visP S0 (50 + 25 * lr) (nI x) (nI y) 0 0 (nI (frN S0 lr x y kk))) (NN N0 N1 lr)
  unfold laN seN
  by_cases e : kk = 1
  · rw [if_pos e, if_pos e]
    exact ⟨nI_pos (by omega), nI_pos (by omega)⟩
  · rw [if_neg e, if_neg e]
    have hm := near_mono (lr := lr) hI hx hy (show 1 ≤ kk - 1 by omega) (show kk - 1 + 1 ≤ mN S0 lr by omega)
    rw [show kk - 1 + 1 = kk by omega] at hm
    exact ⟨nI_nlt hm (by omega), nI_nlt (vis_far hm (by omega)) (by omega)⟩
end LW
