section DH
variable {K : GK} {S0 : St} {X Y W H : Nat → Nat} {cap L N0 N1 lr k : Nat}
abbrev GD (K : GK) (S0 : St) (D : Int64) (pc : Nat) (l : List (Nat × Value)) (S : St) : Prop := G K MX6_digest 26 0 0 0 0 pc l [] (hp 2 S) (QcP K (DP S0 D)) (XcP K noX)
set_option maxHeartbeats 400000 in
theorem dg86c (hI : INV S0 X Y W H cap L N0 N1) {s D : Int64} (hD : (s * 31 + (vpV S0 0 1 900).toInt64) * 31 + (0 : Int32).toInt64 = D) (S : St) (hA : AK S0 S) : GD K S0 D 86 [(3, .int (nI 1 + 1)), (1, .long s), (0, .ref 0)] S := by
  refine G_iload_n dX6_digest_86 rfl ?_
  refine G_aload_n dX6_digest_87 rfl ?_
  refine G_get (k := 4) dX6_digest_88 cIdx rfl wfl_X6_36 (by decide) rfl ?_
  rw [show S.2.1 0 4 = nI 2 from (INV_eq hI hA.1 hA.2).1.2.1]
  refine G_icmp_ge (tgt := 291) dX6_digest_91 (by decide) (fun c_91 => ?_) (fun c_91 => ?_)
  · refine G_iconst (v := 0) dX6_digest_291 (by decide) ?_
    refine GS_istore_n (L' := [(3, _), (1, _), (0, _)]) dX6_digest_292 (by decide) rfl ?_
    exact dg293 hI hD S hA
  · exact absurd (show nI 2 ≤ (nI 1 + 1 : Int32) by decide) c_91
set_option maxHeartbeats 400000 in
theorem dg86b (hI : INV S0 X Y W H cap L N0 N1) {s D : Int64} (hD : (dLy S0 X Y N0 N1 1 s * 31 + (vpV S0 0 1 900).toInt64) * 31 + (0 : Int32).toInt64 = D) (S : St) (hA : AK S0 S) : GD K S0 D 86 [(3, .int (nI 0 + 1)), (1, .long s), (0, .ref 0)] S := by
  refine G_iload_n dX6_digest_86 rfl ?_
  refine G_aload_n dX6_digest_87 rfl ?_
  refine G_get (k := 4) dX6_digest_88 cIdx rfl wfl_X6_36 (by decide) rfl ?_
  rw [show S.2.1 0 4 = nI 2 from (INV_eq hI hA.1 hA.2).1.2.1]
  refine G_icmp_ge (tgt := 291) dX6_digest_91 (by decide) (fun c_91 => ?_) (fun c_91 => ?_)
  · exact absurd c_91 (by decide)
  · exact dg94 (lr := 1) hI (by omega) S hA (fun S hA => dg86c hI hD S hA)
set_option maxHeartbeats 400000 in
theorem dg84 (hI : INV S0 X Y W H cap L N0 N1) {i : Int32} {s D : Int64} (hD : (dLy S0 X Y N0 N1 1 (dLy S0 X Y N0 N1 0 s) * 31 + (vpV S0 0 1 900).toInt64) * 31 + (0 : Int32).toInt64 = D) (S : St) (hA : AK S0 S) : GD K S0 D 84 [(3, .int i), (1, .long s), (0, .ref 0)] S := by
  refine G_iconst (v := 0) dX6_digest_84 (by decide) ?_
  refine GS_istore_n (L' := [(3, _), (1, _), (0, _)]) dX6_digest_85 (by decide) rfl ?_
  refine G_iload_n dX6_digest_86 rfl ?_
  refine G_aload_n dX6_digest_87 rfl ?_
  refine G_get (k := 4) dX6_digest_88 cIdx rfl wfl_X6_36 (by decide) rfl ?_
  rw [show S.2.1 0 4 = nI 2 from (INV_eq hI hA.1 hA.2).1.2.1]
  refine G_icmp_ge (tgt := 291) dX6_digest_91 (by decide) (fun c_91 => ?_) (fun c_91 => ?_)
  · exact absurd c_91 (by decide)
  · exact dg94 (lr := 0) hI (by omega) S hA (fun S hA => dg86b hI hD S hA)
set_option maxHeartbeats 400000 in
theorem dgOf (hI : INV S0 X Y W H cap L N0 N1) (hlr : lr < 2) (hk : k < 24) (hl : S0.1 12 k = nI lr) {s D : Int64} (kk : ∀ S, AK S0 S → GD K S0 D 78 [(3, .int (nI k)), (1, .long (dOf S0 lr k 7 s)), (0, .ref 0)] S) : ∀ m j, j + m = 7 → ∀ S, AK S0 S → GD K S0 D 50 [(4, .int (nI j)), (3, .int (nI k)), (1, .long (dOf S0 lr k j s)), (0, .ref 0)] S := by
  intro m
  induction m with
  | zero =>
    intro j hj S hA
    have e7 : j = 7 := by omega
    subst e7
    refine G_iload dX6_digest_50 rfl ?_
    refine G_bipush (v := 6) dX6_digest_52 (by decide) ?_
    refine G_icmp_gt (tgt := 78) dX6_digest_54 (by decide) (fun c_54 => ?_) (fun c_54 => ?_)
    · refine G_sub [1, 2, 3] rfl ?_
      exact kk S hA
    · exact absurd (show (6 : Int32) < nI 7 by decide) c_54
  | succ m ih =>
    intro j hj S hA
    refine G_iload dX6_digest_50 rfl ?_
    refine G_bipush (v := 6) dX6_digest_52 (by decide) ?_
    refine G_icmp_gt (tgt := 78) dX6_digest_54 (by decide) (fun c_54 => ?_) (fun c_54 => ?_)
    · exact absurd (show (6 : Int32) < nI j from c_54) (nI_nlt (a := 6) (b := j) (by omega) (by decide))
    · refine G_lload_n dX6_digest_57 rfl ?_
      refine G_ldc2 dX6_digest_58 wk_X6_263 ?_
      refine G_lmul dX6_digest_61 ?_
      refine G_aload_n dX6_digest_62 rfl ?_
      refine G_iload_n dX6_digest_63 rfl ?_
      refine G_iload dX6_digest_64 rfl ?_
      refine G_cVq (As := [_, _]) dX6_digest_66 kV_X6_of wml_X6_265 (q_of hI hA hlr hk hl (w := j) (by omega)) rfl cIdx rfl rfl rfl (by decide) ⟨by omega, by omega⟩ (Nat.le_of_ble_eq_true rfl) ?_
      intro S hA
      refine G_i2l dX6_digest_69 ?_
      refine G_ladd dX6_digest_70 ?_
      refine GS_lstore_n (L' := [(1, _), (4, _), (3, _), (0, _)]) dX6_digest_71 (by decide) rfl ?_
      refine GS_iinc (v := 1) (L' := [(4, _), (1, _), (3, _), (0, _)]) dX6_digest_72 rfl (by decide) (by decide) rfl ?_
      refine G_goto (tgt := 50) dX6_digest_75 (by decide) ?_
      refine G_sub [0, 2, 1, 3] rfl ?_
      rw [nI_1]
      exact ih (j + 1) (by omega) S hA
set_option maxHeartbeats 400000 in
theorem dg78 {s D : Int64} {S : St} (kk : GD K S0 D 12 [(3, .int (nI (k + 1))), (1, .long s), (0, .ref 0)] S) : GD K S0 D 78 [(3, .int (nI k)), (1, .long s), (0, .ref 0)] S := by
  refine GS_iinc (v := 1) (L' := [(3, _), (1, _), (0, _)]) dX6_digest_78 rfl (by decide) (by decide) rfl ?_
  refine G_goto (tgt := 12) dX6_digest_81 (by decide) ?_
  refine G_sub [0, 1, 2] rfl ?_
  rw [nI_1]
  exact kk
set_option maxHeartbeats 400000 in
theorem dgTh (hI : INV S0 X Y W H cap L N0 N1) {s D : Int64} (kk : ∀ S, AK S0 S → GD K S0 D 84 [(3, .int (nI 24)), (1, .long (dTh S0 24 s)), (0, .ref 0)] S) : ∀ m k, k + m = 24 → ∀ S, AK S0 S → GD K S0 D 12 [(3, .int (nI k)), (1, .long (dTh S0 k s)), (0, .ref 0)] S := by
  intro m
  induction m with
  | zero =>
    intro k hk S hA
    have e7 : k = 24 := by omega
    subst e7
    refine G_iload_n dX6_digest_12 rfl ?_
    refine G_aload_n dX6_digest_13 rfl ?_
    refine G_get (k := 0) dX6_digest_14 cIdx rfl wfl_X6_10 (by decide) rfl ?_
    refine G_getN (k := 5) dX6_digest_17 cThings rfl wfn_X6_106 (by decide) rfl ?_
    rw [show S.2.1 1 5 = nI 24 from inv_tc (INV_eq hI hA.1 hA.2)]
    refine G_icmp_ge (tgt := 84) dX6_digest_20 (by decide) (fun c_20 => ?_) (fun c_20 => ?_)
    · exact kk S hA
    · exact absurd (Int32.le_refl _) c_20
  | succ m ih =>
    intro k hk S hA
    refine G_iload_n dX6_digest_12 rfl ?_
    refine G_aload_n dX6_digest_13 rfl ?_
    refine G_get (k := 0) dX6_digest_14 cIdx rfl wfl_X6_10 (by decide) rfl ?_
    refine G_getN (k := 5) dX6_digest_17 cThings rfl wfn_X6_106 (by decide) rfl ?_
    rw [show S.2.1 1 5 = nI 24 from inv_tc (INV_eq hI hA.1 hA.2)]
    refine G_icmp_ge (tgt := 84) dX6_digest_20 (by decide) (fun c_20 => ?_) (fun c_20 => ?_)
    · exact absurd c_20 (nI_ge (by omega) (by decide))
    · refine G_aload_n dX6_digest_23 rfl ?_
      refine G_get (k := 0) dX6_digest_24 cIdx rfl wfl_X6_10 (by decide) rfl ?_
      refine G_getN (k := 1) dX6_digest_27 cThings rfl wfn_X6_132 (by decide) rfl ?_
      refine G_iload_n dX6_digest_30 rfl ?_
      refine G_cVi (As := [_]) dX6_digest_31 kV_X3_at wml_X6_116 (sp_X3_at rLayerOf) rfl (cRow rLayerOf) rfl rfl rfl (by decide) ⟨Nat.le_refl 0, Nat.le_refl 0⟩ (Nat.le_of_ble_eq_true rfl) ?_
      rw [rat_nI (show k < 80 by omega) (by decide), show S.1 (11 + 1) k = S0.1 12 k from congrFun (hA.1.1 12 (by unfold scr; omega)) k]
      refine G_iconst (v := (-1)) dX6_digest_34 (by decide) ?_
      refine G_icmp_eq (tgt := 78) dX6_digest_35 (by decide) (fun c_35 => ?_) (fun c_35 => ?_)
      · refine G_sub [0, 1, 2] rfl ?_
        refine dg78 ?_
        rw [show dTh S0 k s = dTh S0 (k + 1) s from (if_pos c_35).symm]
        exact ih (k + 1) (by omega) S hA
      · refine G_lload_n dX6_digest_38 rfl ?_
        refine G_ldc2 dX6_digest_39 wk_X6_263 ?_
        refine G_lmul dX6_digest_42 ?_
        refine G_iload_n dX6_digest_43 rfl ?_
        refine G_i2l dX6_digest_44 ?_
        refine G_ladd dX6_digest_45 ?_
        refine GS_lstore_n (L' := [(1, _), (3, _), (0, _)]) dX6_digest_46 (by decide) rfl ?_
        refine G_iconst (v := 0) dX6_digest_47 (by decide) ?_
        refine GS_istore (L' := [(4, _), (1, _), (3, _), (0, _)]) dX6_digest_48 (by decide) rfl ?_
        refine G_sub [0, 2, 1, 3] rfl ?_
        refine dgOf (lr := k % 2) hI (Nat.mod_lt _ (by omega)) (by omega) ((hI.2.2.1 k (by omega)).resolve_left c_35) (fun S hA => dg78 ?_) 7 0 (by omega) S hA
        rw [show dOf S0 (k % 2) k 7 (dTh S0 k s * 31 + (nI k).toInt64) = dTh S0 (k + 1) s from (if_neg c_35).symm]
        exact ih (k + 1) (by omega) S hA
set_option maxHeartbeats 400000 in
theorem q_digest (hI : INV S0 X Y W H cap L N0 N1) (S : St) (hA : AK S0 S) : Sp K MX6_digest 26 0 0 [.ref 0] (hp 2 S) (fun v u => v = some (.long (dgV S0 X Y N0 N1)) ∧ ∃ S', u = hp 2 S' ∧ AK S0 S') noX := by
  refine Sp_of (by decide) (Nat.le_of_ble_eq_true rfl) ?_
  refine G_ldc2 dX6_digest_0 wk_X6_259 ?_
  refine G_aload_n dX6_digest_3 rfl ?_
  refine G_cVq (As := []) dX6_digest_4 kV_X6_things wml_X6_261 (q_things hI hA) rfl cIdx rfl rfl rfl (by decide) ⟨by omega, by omega⟩ (Nat.le_of_ble_eq_true rfl) ?_
  intro S hA
  refine G_i2l dX6_digest_7 ?_
  refine G_ladd dX6_digest_8 ?_
  refine GS_lstore_n (L' := [(1, _), (0, _)]) dX6_digest_9 (by decide) rfl ?_
  refine G_iconst (v := 0) dX6_digest_10 (by decide) ?_
  refine GS_istore_n (L' := [(3, _), (1, _), (0, _)]) dX6_digest_11 (by decide) rfl ?_
  refine G_sub [0, 1, 2] rfl ?_
  exact dgTh hI (s := 1800139 + (nI 24).toInt64) (fun S hA => dg84 hI rfl S hA) 24 0 (by omega) S hA
end DH
