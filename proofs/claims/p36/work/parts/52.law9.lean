/-! the law, from its entry -/
section MG
variable {K : GK} {P : Option Value → VH → Prop}
set_option maxHeartbeats 400000 in
theorem lw0 (hE : ∀ s, kE K s → Exc K s) {z : UInt32} (hP : ∀ h, P (some (.int 1)) h) : G K ML_law 1300 600074 7301550 0 0 0 [(0, .float z)] [] (true, []) (QcP K P) (XcP K noX) := by
  refine G_newT (l := []) (b := 0) (ci := 6) (fs := fs0_6) dL_law_0 rfl rfl wcl_L_9 wia_X6 wii_X6 hfs_6 ⟨by omega, by omega⟩ ?_
  refine G_dup dL_law_3 rfl ?_
  refine G_cIv (As := []) dL_law_4 kI_X6_init wml_L_11 (sp_X6_init (h0 := []) (a := 0) rfl (fun s h => (hE s h).1)) rfl rfl (by decide) ⟨by omega, by omega⟩ (Nat.le_of_ble_eq_true rfl) ?_
  refine G_heap idx_new ?_
  refine GS_astore_n (L' := [(1, _), (0, _)]) dL_law_7 (by decide) rfl ?_
  refine G_aload_n dL_law_8 rfl ?_
  refine G_iconst (v := 1) dL_law_9 (by decide) ?_
  refine G_callV (As := [_]) dL_law_10 kV_X6_addLayer wml_L_12 (sp_X6_addLayer0 (S := S00) rfl rfl rfl) rfl cIdx rfl rfl rfl (by decide) ⟨by omega, by omega⟩ (Nat.le_of_ble_eq_true rfl) (fun v u q => ?_) (fun _ _ q => q.elim)
  obtain ⟨rfl, rfl⟩ := q
  refine G_pop dL_law_13 rfl ?_
  refine G_aload_n dL_law_14 rfl ?_
  refine G_iconst (v := 0) dL_law_15 (by decide) ?_
  refine G_callV (As := [_]) dL_law_16 kV_X6_addLayer wml_L_12 (sp_X6_addLayer1 (S := lay0S S00) lay0_flag lay0_int) rfl cIdx rfl rfl rfl (by decide) ⟨by omega, by omega⟩ (Nat.le_of_ble_eq_true rfl) (fun v u q => ?_) (fun _ _ q => q.elim)
  obtain ⟨rfl, rfl⟩ := q
  refine G_pop dL_law_19 rfl ?_
  refine G_iconst (v := 0) dL_law_20 (by decide) ?_
  refine GS_istore_n (L' := [(2, _), (1, _), (0, _)]) dL_law_21 (by decide) rfl ?_
  refine G_widen (uc' := 100) (us' := 40000) (by omega) (by omega) ?_
  exact lw22 (by omega) (by omega) (fun S X Y W H hB => lw134 hB hE (by omega) (by omega) hP) 24 0 rfl _ _ _ _ _ BI_0
end MG
