/-! the law: building -/
section MF
variable {K : GK} {S : St} {X Y W H : Nat → Nat} {c uc us : Nat} {P : Option Value → VH → Prop}
set_option maxHeartbeats 400000 in
theorem lw128 {v : Int32} {z : UInt32} (kk : GL K uc us P 22 [(2, .int (nI (c + 1))), (1, .ref 0), (0, .float z)] S) : GL K uc us P 128 [(3, .int v), (2, .int (nI c)), (1, .ref 0), (0, .float z)] S := by
  refine GS_iinc (v := 1) (L' := [(2, _), (3, _), (1, _), (0, _)]) dL_law_128 rfl (by decide) (by decide) rfl ?_
  refine G_goto (tgt := 22) dL_law_131 (by decide) ?_
  refine G_sub [0, 2, 3] rfl ?_
  rw [nI_1]
  exact kk
set_option maxHeartbeats 400000 in
theorem lw49 (hB : BI S X Y W H c 4 4) (hc : c < 24) {v : Int32} {z : UInt32} (hu : uc ≤ 600074) (hv : us ≤ 7301550) (kk : ∀ S X Y W H, BI S X Y W H (c + 1) 4 4 → GL K uc us P 22 [(2, .int (nI (c + 1))), (1, .ref 0), (0, .float z)] S) : GL K uc us P 49 [(3, .int v), (2, .int (nI c)), (1, .ref 0), (0, .float z)] S := by
  have htc : tc S = nI c := hB.1.1
  have htag : c % 10 ≤ 9 := by omega
  refine G_iload_n dL_law_49 rfl ?_
  refine G_iconst (v := 2) dL_law_50 (by decide) ?_
  refine G_irem dL_law_51 (by decide) ?_
  rw [show nI c - nI c / 2 * 2 = nI (c % 2) from nI_rem (a := c) (b := 2) (by omega) (by decide)]
  refine G_if_ne (tgt := 84) dL_law_52 (by decide) (fun c_52 => ?_) (fun c_52 => ?_)
  · have hcz : 1 = c % 2 := by
      rcases (show c % 2 = 0 ∨ c % 2 = 1 by omega) with q | q
      · exact absurd (by rw [q]; rfl) c_52
      · exact q.symm
    refine G_aload_n dL_law_84 rfl ?_
    refine G_iconst (v := 1) dL_law_85 (by decide) ?_
    refine G_iload_n dL_law_86 rfl ?_
    refine G_sipush (v := 800) dL_law_87 (by decide) ?_
    refine G_cSi (As := [_, _]) dL_law_90 kT_L_below wml_L_22 (sp_L_below (v := v) (n := 800) (by decide) (by decide)) rfl rfl (by decide) ⟨by omega, by omega⟩ (Nat.le_of_ble_eq_true rfl) ?_
    have hx : belN (v) 800 ≤ 799 := bel_le rfl
    generalize belN (v) 800 = x at hx ⊢
    refine G_iload_n dL_law_93 rfl ?_
    refine G_iconst (v := 2) dL_law_94 (by decide) ?_
    refine G_ishr dL_law_95 ?_
    refine G_sipush (v := 800) dL_law_96 (by decide) ?_
    refine G_cSi (As := [_, _]) dL_law_99 kT_L_below wml_L_22 (sp_L_below (v := v >>> (2 &&& 31)) (n := 800) (by decide) (by decide)) rfl rfl (by decide) ⟨by omega, by omega⟩ (Nat.le_of_ble_eq_true rfl) ?_
    have hy : belN (v >>> (2 &&& 31)) 800 ≤ 799 := bel_le rfl
    generalize belN (v >>> (2 &&& 31)) 800 = y at hy ⊢
    refine G_iload_n dL_law_102 rfl ?_
    refine G_iconst (v := 3) dL_law_103 (by decide) ?_
    refine G_ishr dL_law_104 ?_
    refine G_sipush (v := 201) dL_law_105 (by decide) ?_
    refine G_cSi (As := [_, _]) dL_law_108 kT_L_below wml_L_22 (sp_L_below (v := v >>> (3 &&& 31)) (n := 201) (by decide) (by decide)) rfl rfl (by decide) ⟨by omega, by omega⟩ (Nat.le_of_ble_eq_true rfl) ?_
    have hw : belN (v >>> (3 &&& 31)) 201 ≤ 200 := bel_le rfl
    generalize belN (v >>> (3 &&& 31)) 201 = w at hw ⊢
    refine G_iload_n dL_law_111 rfl ?_
    refine G_iconst (v := 4) dL_law_112 (by decide) ?_
    refine G_ishr dL_law_113 ?_
    refine G_sipush (v := 201) dL_law_114 (by decide) ?_
    refine G_cSi (As := [_, _]) dL_law_117 kT_L_below wml_L_22 (sp_L_below (v := v >>> (4 &&& 31)) (n := 201) (by decide) (by decide)) rfl rfl (by decide) ⟨by omega, by omega⟩ (Nat.le_of_ble_eq_true rfl) ?_
    have hh : belN (v >>> (4 &&& 31)) 201 ≤ 200 := bel_le rfl
    generalize belN (v >>> (4 &&& 31)) 201 = h at hh ⊢
    refine G_iload_n dL_law_120 rfl ?_
    refine G_bipush (v := 10) dL_law_121 (by decide) ?_
    refine G_irem dL_law_123 (by decide) ?_
    rw [show nI c - nI c / 10 * 10 = nI (c % 10) from nI_rem (a := c) (b := 10) (by omega) (by decide)]
    refine G_cVi (As := [_, _, _, _, _, _]) dL_law_124 kV_X6_addBox wml_L_30 (sp_X6_addBox htc (by omega) (okM_nI (by omega)) (okM_nI (by omega)) ⟨nI_pos (by omega), nI_nlt (a := 200) (b := w) (by omega) (by decide)⟩ ⟨nI_pos (by omega), nI_nlt (a := 200) (b := h) (by omega) (by decide)⟩ (by rw [nI_add]; exact okM_nI (by omega)) (by rw [nI_add]; exact okM_nI (by omega)) (nI_pos (by omega)) (nI_lt (a := c % 10) (b := 10) (by omega) (by decide))) rfl cIdx rfl rfl rfl (by decide) ⟨by omega, by omega⟩ (Nat.le_of_ble_eq_true rfl) ?_
    have hB2 := BI_add (lr := 1) (tag := nI (c % 10)) (x := x) (y := y) (w := w) (h := h) hB hc hcz (by omega) (by omega) (by omega) (by omega)
    refine G_pop dL_law_127 rfl ?_
    exact lw128 (kk _ _ _ _ _ hB2)
  · have hcz : 0 = c % 2 := ((nI_eq (a := c % 2) (b := 0) (by omega) (by decide)).mp c_52).symm
    refine G_aload_n dL_law_55 rfl ?_
    refine G_iconst (v := 0) dL_law_56 (by decide) ?_
    refine G_iload_n dL_law_57 rfl ?_
    refine G_sipush (v := 1024) dL_law_58 (by decide) ?_
    refine G_cSi (As := [_, _]) dL_law_61 kT_L_below wml_L_22 (sp_L_below (v := v) (n := 1024) (by decide) (by decide)) rfl rfl (by decide) ⟨by omega, by omega⟩ (Nat.le_of_ble_eq_true rfl) ?_
    have hx : belN (v) 1024 ≤ 1023 := bel_le rfl
    generalize belN (v) 1024 = x at hx ⊢
    refine G_iload_n dL_law_64 rfl ?_
    refine G_iconst (v := 2) dL_law_65 (by decide) ?_
    refine G_ishr dL_law_66 ?_
    refine G_sipush (v := 1024) dL_law_67 (by decide) ?_
    refine G_cSi (As := [_, _]) dL_law_70 kT_L_below wml_L_22 (sp_L_below (v := v >>> (2 &&& 31)) (n := 1024) (by decide) (by decide)) rfl rfl (by decide) ⟨by omega, by omega⟩ (Nat.le_of_ble_eq_true rfl) ?_
    have hy : belN (v >>> (2 &&& 31)) 1024 ≤ 1023 := bel_le rfl
    generalize belN (v >>> (2 &&& 31)) 1024 = y at hy ⊢
    refine G_iload_n dL_law_73 rfl ?_
    refine G_bipush (v := 10) dL_law_74 (by decide) ?_
    refine G_irem dL_law_76 (by decide) ?_
    rw [show nI c - nI c / 10 * 10 = nI (c % 10) from nI_rem (a := c) (b := 10) (by omega) (by decide)]
    refine G_cVi (As := [_, _, _, _]) dL_law_77 kV_X6_addPoint wml_L_26 (sp_X6_addPoint htc (by omega) (okM_nI hx) (okM_nI hy) (nI_pos (by omega)) (nI_lt (a := c % 10) (b := 10) (by omega) (by decide))) rfl cIdx rfl rfl rfl (by decide) ⟨by omega, by omega⟩ (Nat.le_of_ble_eq_true rfl) ?_
    have hB2 := BI_point (tag := nI (c % 10)) hB hc hcz hx hy
    refine G_pop dL_law_80 rfl ?_
    refine G_goto (tgt := 128) dL_law_81 (by decide) ?_
    exact lw128 (kk _ _ _ _ _ hB2)
set_option maxHeartbeats 400000 in
theorem lw22 {z : UInt32} (hu : uc ≤ 600074) (hv : us ≤ 7301550) (k3 : ∀ S X Y W H, BI S X Y W H 24 4 4 → GL K uc us P 134 [(2, .int (nI 24)), (1, .ref 0), (0, .float z)] S) : ∀ m c, c + m = 24 → ∀ S X Y W H, BI S X Y W H c 4 4 → GL K uc us P 22 [(2, .int (nI c)), (1, .ref 0), (0, .float z)] S := by
  intro m
  induction m with
  | zero =>
    intro c hc S X Y W H hB
    have e2 : c = 24 := by omega
    subst e2
    refine G_iload_n dL_law_22 rfl ?_
    refine G_bipush (v := 24) dL_law_23 (by decide) ?_
    refine G_icmp_ge (tgt := 134) dL_law_25 (by decide) (fun c_25 => ?_) (fun c_25 => ?_)
    · exact k3 S X Y W H hB
    · exact absurd (Int32.le_refl _) c_25
  | succ m ih =>
    intro c hc S X Y W H hB
    refine G_iload_n dL_law_22 rfl ?_
    refine G_bipush (v := 24) dL_law_23 (by decide) ?_
    refine G_icmp_ge (tgt := 134) dL_law_25 (by decide) (fun c_25 => ?_) (fun c_25 => ?_)
    · exact absurd (show nI 24 ≤ nI c from c_25) (nI_ge (by omega) (by decide))
    · refine G_aloadS dL_law_28 rfl ?_
      refine G_iload_n dL_law_29 rfl ?_
      refine G_bipush (v := 16) dL_law_30 (by decide) ?_
      refine G_irem dL_law_32 (by decide) ?_
      rw [show nI c - nI c / 16 * 16 = nI (c % 16) from nI_rem (a := c) (b := 16) (by omega) (by decide)]
      refine G_cSi (As := [_, _]) dL_law_33 kT_L_cell wml_L_16 (sp_L_cell (k := c % 16) (by omega)) rfl rfl (by decide) ⟨by omega, by omega⟩ (Nat.le_of_ble_eq_true rfl) ?_
      refine G_iload_n dL_law_36 rfl ?_
      refine G_bipush (v := 16) dL_law_37 (by decide) ?_
      refine G_idiv dL_law_39 (by decide) ?_
      refine G_iconst (v := 3) dL_law_40 (by decide) ?_
      refine G_imul dL_law_41 ?_
      refine G_ishr dL_law_42 ?_
      refine G_bipush (v := 43) dL_law_43 (by decide) ?_
      refine G_iload_n dL_law_45 rfl ?_
      refine G_imul dL_law_46 ?_
      refine G_iadd dL_law_47 ?_
      refine GS_istore_n (L' := [(3, _), (2, _), (1, _), (0, _)]) dL_law_48 (by decide) rfl ?_
      exact lw49 hB (by omega) hu hv (fun S X Y W H hB => ih (c + 1) (by omega) S X Y W H hB)
set_option maxHeartbeats 400000 in
theorem lw134 (hB : BI S X Y W H 24 4 4) (hE : ∀ s, kE K s → Exc K s) {z : UInt32} (hu : uc + 104 ≤ 600074) (hv : us + 624 ≤ 7301550) (hP : ∀ h, P (some (.int 1)) h) : GL K uc us P 134 [(2, .int (nI 24)), (1, .ref 0), (0, .float z)] S := by
  have htc : tc S = nI 24 := hB.1.1
  refine G_aload_n dL_law_134 rfl ?_
  refine G_iconst (v := 0) dL_law_135 (by decide) ?_
  refine G_iconst (v := 1) dL_law_136 (by decide) ?_
  refine G_aloadS dL_law_137 rfl ?_
  refine G_iconst (v := 0) dL_law_138 (by decide) ?_
  refine G_cSi (As := [_, _]) dL_law_139 kT_L_cell wml_L_16 (sp_L_cell (k := 0) (by decide)) rfl rfl (by decide) ⟨by omega, by omega⟩ (Nat.le_of_ble_eq_true rfl) ?_
  refine G_bipush (v := 8) dL_law_142 (by decide) ?_
  refine G_cSi (As := [_, _]) dL_law_144 kT_L_below wml_L_22 (sp_L_below (v := cellV K 0) (n := 8) (by decide) (by decide)) rfl rfl (by decide) ⟨by omega, by omega⟩ (Nat.le_of_ble_eq_true rfl) ?_
  have hx : belN (cellV K 0) 8 ≤ 7 := bel_le rfl
  generalize belN (cellV K 0) 8 = f0 at hx ⊢
  refine G_iadd dL_law_147 ?_
  rw [show (1 : Int32) + nI f0 = nI (1 + f0) from nI_add 1 f0]
  refine G_cVi (As := [_, _]) dL_law_148 kV_X6_setSize wml_L_34 (sp_X6_setSize (lr := 0) htc (by omega) (by decide) (fn := 1 + f0) (by omega) (Or.inr rfl) (by omega)) rfl cIdx rfl rfl rfl (by decide) ⟨by omega, by omega⟩ (Nat.le_of_ble_eq_true rfl) ?_
  refine G_pop dL_law_151 rfl ?_
  refine G_aload_n dL_law_152 rfl ?_
  refine G_iconst (v := 1) dL_law_153 (by decide) ?_
  refine G_iconst (v := 2) dL_law_154 (by decide) ?_
  refine G_aloadS dL_law_155 rfl ?_
  refine G_iconst (v := 1) dL_law_156 (by decide) ?_
  refine G_cSi (As := [_, _]) dL_law_157 kT_L_cell wml_L_16 (sp_L_cell (k := 1) (by decide)) rfl rfl (by decide) ⟨by omega, by omega⟩ (Nat.le_of_ble_eq_true rfl) ?_
  refine G_bipush (v := 7) dL_law_160 (by decide) ?_
  refine G_cSi (As := [_, _]) dL_law_162 kT_L_below wml_L_22 (sp_L_below (v := cellV K 1) (n := 7) (by decide) (by decide)) rfl rfl (by decide) ⟨by omega, by omega⟩ (Nat.le_of_ble_eq_true rfl) ?_
  have hy : belN (cellV K 1) 7 ≤ 6 := bel_le rfl
  generalize belN (cellV K 1) 7 = f1 at hy ⊢
  obtain ⟨S2, S3, N0, N1, L, eS2, eS3, t2, t3, s3, pk, hI, -⟩ := BI_INV (fn0 := 1 + f0) (fn1 := 2 + f1) hB (by omega) (by omega)
  rw [show regS (setI S (49 + 25 * 0) 3 (nI (1 + f0))) 24 0 = S2 from eS2.symm]
  refine G_iadd dL_law_165 ?_
  rw [show (2 : Int32) + nI f1 = nI (2 + f1) from nI_add 2 f1]
  refine G_cVi (As := [_, _]) dL_law_166 kV_X6_setSize wml_L_34 (sp_X6_setSize (lr := 1) t2 (by omega) (by decide) (fn := 2 + f1) (by omega) (Or.inl (by omega)) (by omega)) rfl cIdx rfl rfl rfl (by decide) ⟨by omega, by omega⟩ (Nat.le_of_ble_eq_true rfl) ?_
  rw [show regS (setI S2 (49 + 25 * 1) 3 (nI (2 + f1))) 24 1 = S3 from eS3.symm]
  refine G_pop dL_law_169 rfl ?_
  refine G_aload_n dL_law_170 rfl ?_
  refine G_iconst (v := 1) dL_law_171 (by decide) ?_
  refine G_cVi (As := [_]) dL_law_172 kV_X6_pack wml_L_37 (sp_X6_pack t3 (by omega) (fn := 2 + f1) (by omega) (by omega) s3 pk) rfl cIdx rfl rfl rfl (by decide) ⟨by omega, by omega⟩ (Nat.le_of_ble_eq_true rfl) ?_
  refine G_pop dL_law_175 rfl ?_
  refine G_iconst (v := 0) dL_law_176 (by decide) ?_
  refine GS_istore_n (L' := [(2, _), (1, _), (0, _)]) dL_law_177 (by decide) rfl ?_
  refine G_sub [0, 1, 2] rfl ?_
  exact lw178 hE hu hv hP 4 0 rfl _ _ _ _ hI
end MF
