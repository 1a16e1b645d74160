/-! the law: the turns -/
section MC
variable {K : GK} {S0 : St} {X Y W H : Nat → Nat} {cap L N0 N1 lr uc us : Nat} {P : Option Value → VH → Prop}
set_option maxHeartbeats 400000 in
theorem bel_le {x : Int32} {n m : Nat} (h : n = m + 1) : belN x n ≤ m := by
  have := belN_lt (x := x) (n := n) (by omega)
  omega

set_option maxHeartbeats 400000 in
theorem lw903 {x y k tn : Nat} (hx : x ≤ 1023) (hy : y ≤ 1023) (hk : k < 24) (ht : tn < 4) {z : UInt32} (hI : INV S0 X Y W H cap L N0 N1) (hE : ∀ s, kE K s → Exc K s) (hu : uc + 2 ≤ 600074) (hv : us + 12 ≤ 7301550) (k3 : ∀ S X Y N0, INV S X Y W H cap L N0 N1 → GL K (uc + 2) (us + 12) P 178 [(2, .int (nI (tn + 1))), (1, .ref 0), (0, .float z)] S) : GL K uc us P 905 [(10, .int (nI k)), (6, .int (nI y)), (5, .int (nI x)), (2, .int (nI tn)), (1, .ref 0), (0, .float z)] S0 := by
  refine G_aload_n dL_law_905 rfl ?_
  refine G_iload dL_law_906 rfl ?_
  rcases hI.2.2.1 k (by omega) with hg | hg
  · refine G_callG (As := [_, _]) dL_law_908 wml_L_96 (sp_L_isGone_yes (S := S0) (c := 24) (k := k) hE (inv_tc hI) (by omega) (by omega) hg) rfl rfl (by decide) ⟨by omega, by omega⟩ (Nat.le_of_ble_eq_true rfl) (fun v u q => ?_)
    obtain ⟨rfl, rfl⟩ := q
    refine G_if_eq (tgt := 917) dL_law_911 (by decide) (fun c_911 => ?_) (fun c_911 => ?_)
    · exact absurd c_911 (by decide)
    · refine G_goto (tgt := 1008) dL_law_914 (by decide) ?_
      refine G_widen (uc' := uc + 2) (us' := us + 12) (by omega) (by omega) ?_
      refine G_sub [3, 4, 5] rfl ?_
      exact lw1008 (k3 _ _ _ _ (INV_AK hI (AK_off (AK_rf hI))))
  · refine G_callG (As := [_, _]) dL_law_908 wml_L_96 (sp_L_isGone_no (S := S0) (c := 24) (k := k) (lr := k % 2) (Nat.mod_lt _ (by omega)) (inv_tc hI) (by omega) (by omega) hg) rfl rfl (by decide) ⟨by omega, by omega⟩ (Nat.le_of_ble_eq_true rfl) (fun v u q => ?_)
    obtain ⟨rfl, rfl⟩ := q
    refine G_if_eq (tgt := 917) dL_law_911 (by decide) (fun c_911 => ?_) (fun c_911 => ?_)
    · refine G_widen (uc' := uc + 1) (us' := us + 6) (by omega) (by omega) ?_
      have hlr : k % 2 < 2 := Nat.mod_lt _ (by omega)
      refine G_aload_n dL_law_917 rfl ?_
      refine G_aload_n dL_law_918 rfl ?_
      refine G_iload dL_law_919 rfl ?_
      refine G_iconst (v := 0) dL_law_921 (by decide) ?_
      refine G_cVq (As := [_, _]) dL_law_922 kV_X6_of wml_L_57 (q_of hI (AK_rf hI) hlr hk hg (w := 0) (by omega)) rfl cIdx rfl rfl rfl (by decide) ⟨by omega, by omega⟩ (Nat.le_of_ble_eq_true rfl) ?_
      intro S hA
      rw [show ofV S0 (k % 2) k 0 = nI (k % 2) from rfl]
      refine G_cVq (As := [_]) dL_law_925 kV_X6_size wml_L_45 (q_size hI hA hlr) rfl cIdx rfl rfl rfl (by decide) ⟨by omega, by omega⟩ (Nat.le_of_ble_eq_true rfl) ?_
      intro S hA
      refine GS_istore (L' := [(11, _), (10, _), (6, _), (5, _), (2, _), (1, _), (0, _)]) dL_law_928 (by decide) rfl ?_
      refine G_aloadS dL_law_930 rfl ?_
      refine G_bipush (v := 7) dL_law_931 (by decide) ?_
      refine G_iload_n dL_law_933 rfl ?_
      refine G_iadd dL_law_934 ?_
      rw [show (7 : Int32) + nI tn = nI (7 + tn) from nI_add 7 tn]
      refine G_cSi (As := [_, _]) dL_law_935 kT_L_cell wml_L_16 (sp_L_cell (k := 7 + tn) (by omega)) rfl rfl (by decide) ⟨by omega, by omega⟩ (Nat.le_of_ble_eq_true rfl) ?_
      refine G_iconst (v := 3) dL_law_938 (by decide) ?_
      refine G_cSi (As := [_, _]) dL_law_939 kT_L_below wml_L_22 (sp_L_below (v := cellV K (7 + tn)) (n := 3) (by decide) (by decide)) rfl rfl (by decide) ⟨by omega, by omega⟩ (Nat.le_of_ble_eq_true rfl) ?_
      refine G_if_ne (tgt := 969) dL_law_942 (by decide) (fun c_942 => ?_) (fun c_942 => ?_)
      · exact lw969 hx hy hk (INV_AK hI hA) hlr rfl (by rw [hA.1.1 12 (by unfold scr; omega)]; exact hg) (by omega) (by omega) (fun S X Y N0 hI => G_widen (uc' := uc + 2) (us' := us + 12) (by omega) (by omega) (k3 S X Y N0 hI))
      · rw [show mN S0 (k % 2) = mN S (k % 2) by unfold mN; rw [eq_inL hA.1]]
        exact lw945 hk (INV_AK hI hA) hE hlr rfl (by rw [hA.1.1 12 (by unfold scr; omega)]; exact hg) (by omega) (by omega) (fun S X Y N0 hI => k3 S X Y N0 hI)
    · exact absurd rfl c_911
set_option maxHeartbeats 400000 in
theorem lw888 {x y tn : Nat} (hx : x ≤ 1023) (hy : y ≤ 1023) (ht : tn < 4) {z : UInt32} (hI : INV S0 X Y W H cap L N0 N1) (hE : ∀ s, kE K s → Exc K s) (hu : uc + 2 ≤ 600074) (hv : us + 12 ≤ 7301550) (k3 : ∀ S X Y N0, INV S X Y W H cap L N0 N1 → GL K (uc + 2) (us + 12) P 178 [(2, .int (nI (tn + 1))), (1, .ref 0), (0, .float z)] S) (S : St) (hA : AK S0 S) : GL K uc us P 888 [(6, .int (nI y)), (5, .int (nI x)), (2, .int (nI tn)), (1, .ref 0), (0, .float z)] S := by
  refine G_aloadS dL_law_888 rfl ?_
  refine G_bipush (v := 6) dL_law_889 (by decide) ?_
  refine G_iload_n dL_law_891 rfl ?_
  refine G_iadd dL_law_892 ?_
  rw [show (6 : Int32) + nI tn = nI (6 + tn) from nI_add 6 tn]
  refine G_cSi (As := [_, _]) dL_law_893 kT_L_cell wml_L_16 (sp_L_cell (k := 6 + tn) (by omega)) rfl rfl (by decide) ⟨by omega, by omega⟩ (Nat.le_of_ble_eq_true rfl) ?_
  refine G_aload_n dL_law_896 rfl ?_
  refine G_cVq (As := []) dL_law_897 kV_X6_things wml_L_92 (q_things hI hA) rfl cIdx rfl rfl rfl (by decide) ⟨by omega, by omega⟩ (Nat.le_of_ble_eq_true rfl) ?_
  intro S hA
  refine G_cSi (As := [_, _]) dL_law_900 kT_L_below wml_L_22 (sp_L_below (v := cellV K (6 + tn)) (n := 24) (by decide) (by decide)) rfl rfl (by decide) ⟨by omega, by omega⟩ (Nat.le_of_ble_eq_true rfl) ?_
  refine GS_istore (L' := [(10, _), (6, _), (5, _), (2, _), (1, _), (0, _)]) dL_law_903 (by decide) rfl ?_
  refine G_sub [0, 1, 2, 3, 4, 5] rfl ?_
  exact lw903 hx hy (belN_lt (by decide)) ht (INV_AK hI hA) hE hu hv k3
set_option maxHeartbeats 400000 in
theorem lw178 (hE : ∀ s, kE K s → Exc K s) {z : UInt32} (hu : uc + 104 ≤ 600074) (hv : us + 624 ≤ 7301550) (hP : ∀ h, P (some (.int 1)) h) : ∀ m tn, tn + m = 4 → ∀ S X Y N0, INV S X Y W H cap L N0 N1 → GL K (uc + 26 * tn) (us + 156 * tn) P 178 [(2, .int (nI tn)), (1, .ref 0), (0, .float z)] S := by
  intro m
  induction m with
  | zero =>
    intro tn ht S X Y N0 hI
    have e2 : tn = 4 := by omega
    subst e2
    refine G_iload_n dL_law_178 rfl ?_
    refine G_iconst (v := 4) dL_law_179 (by decide) ?_
    refine G_icmp_ge (tgt := 1014) dL_law_180 (by decide) (fun c_180 => ?_) (fun c_180 => ?_)
    · refine G_iconst (v := 1) dL_law_1014 (by decide) ?_
      exact G_iret dL_law_1015 rfl rfl ⟨by omega, by omega⟩ (hP _)
    · exact absurd (Int32.le_refl _) c_180
  | succ m ih =>
    intro tn ht S0 X Y N0 hI
    refine G_iload_n dL_law_178 rfl ?_
    refine G_iconst (v := 4) dL_law_179 (by decide) ?_
    refine G_icmp_ge (tgt := 1014) dL_law_180 (by decide) (fun c_180 => ?_) (fun c_180 => ?_)
    · exact absurd (show nI 4 ≤ nI tn from c_180) (nI_ge (by omega) (by decide))
    · refine G_aload_n dL_law_183 rfl ?_
      refine G_cVlq (As := []) dL_law_184 kV_X6_digest wml_L_41 (q_digest hI S0 (AK_rf hI)) rfl cIdx rfl rfl rfl (by decide) ⟨by omega, by omega⟩ (Nat.le_of_ble_eq_true rfl) ?_
      intro S hA
      refine GS_lstore_n (L' := [(3, _), (2, _), (1, _), (0, _)]) dL_law_187 (by decide) rfl ?_
      refine G_aloadS dL_law_188 rfl ?_
      refine G_iconst (v := 2) dL_law_189 (by decide) ?_
      refine G_iload_n dL_law_190 rfl ?_
      refine G_iadd dL_law_191 ?_
      rw [show (2 : Int32) + nI tn = nI (2 + tn) from nI_add 2 tn]
      refine G_cSi (As := [_, _]) dL_law_192 kT_L_cell wml_L_16 (sp_L_cell (k := 2 + tn) (by omega)) rfl rfl (by decide) ⟨by omega, by omega⟩ (Nat.le_of_ble_eq_true rfl) ?_
      refine G_sipush (v := 1024) dL_law_195 (by decide) ?_
      refine G_cSi (As := [_, _]) dL_law_198 kT_L_below wml_L_22 (sp_L_below (v := cellV K (2 + tn)) (n := 1024) (by decide) (by decide)) rfl rfl (by decide) ⟨by omega, by omega⟩ (Nat.le_of_ble_eq_true rfl) ?_
      have hx : belN (cellV K (2 + tn)) 1024 ≤ 1023 := bel_le rfl
      generalize belN (cellV K (2 + tn)) 1024 = x at hx ⊢
      refine GS_istore (L' := [(5, _), (3, _), (2, _), (1, _), (0, _)]) dL_law_201 (by decide) rfl ?_
      refine G_aloadS dL_law_203 rfl ?_
      refine G_iconst (v := 3) dL_law_204 (by decide) ?_
      refine G_iload_n dL_law_205 rfl ?_
      refine G_iadd dL_law_206 ?_
      rw [show (3 : Int32) + nI tn = nI (3 + tn) from nI_add 3 tn]
      refine G_cSi (As := [_, _]) dL_law_207 kT_L_cell wml_L_16 (sp_L_cell (k := 3 + tn) (by omega)) rfl rfl (by decide) ⟨by omega, by omega⟩ (Nat.le_of_ble_eq_true rfl) ?_
      refine G_sipush (v := 1024) dL_law_210 (by decide) ?_
      refine G_cSi (As := [_, _]) dL_law_213 kT_L_below wml_L_22 (sp_L_below (v := cellV K (3 + tn)) (n := 1024) (by decide) (by decide)) rfl rfl (by decide) ⟨by omega, by omega⟩ (Nat.le_of_ble_eq_true rfl) ?_
      have hy : belN (cellV K (3 + tn)) 1024 ≤ 1023 := bel_le rfl
      generalize belN (cellV K (3 + tn)) 1024 = y at hy ⊢
      refine GS_istore (L' := [(6, _), (5, _), (3, _), (2, _), (1, _), (0, _)]) dL_law_216 (by decide) rfl ?_
      refine G_aloadS dL_law_218 rfl ?_
      refine G_iconst (v := 4) dL_law_219 (by decide) ?_
      refine G_iload_n dL_law_220 rfl ?_
      refine G_iadd dL_law_221 ?_
      rw [show (4 : Int32) + nI tn = nI (4 + tn) from nI_add 4 tn]
      refine G_cSi (As := [_, _]) dL_law_222 kT_L_cell wml_L_16 (sp_L_cell (k := 4 + tn) (by omega)) rfl rfl (by decide) ⟨by omega, by omega⟩ (Nat.le_of_ble_eq_true rfl) ?_
      refine G_sipush (v := 600) dL_law_225 (by decide) ?_
      refine G_cSi (As := [_, _]) dL_law_228 kT_L_below wml_L_22 (sp_L_below (v := cellV K (4 + tn)) (n := 600) (by decide) (by decide)) rfl rfl (by decide) ⟨by omega, by omega⟩ (Nat.le_of_ble_eq_true rfl) ?_
      have hw : belN (cellV K (4 + tn)) 600 ≤ 599 := bel_le rfl
      generalize belN (cellV K (4 + tn)) 600 = w at hw ⊢
      refine GS_istore (L' := [(7, _), (6, _), (5, _), (3, _), (2, _), (1, _), (0, _)]) dL_law_231 (by decide) rfl ?_
      refine G_iconst (v := 0) dL_law_233 (by decide) ?_
      refine GS_istore (L' := [(8, _), (7, _), (6, _), (5, _), (3, _), (2, _), (1, _), (0, _)]) dL_law_234 (by decide) rfl ?_
      refine G_sub [0, 1, 2, 3, 4, 5, 6, 7] rfl ?_
      refine lw236 hI hx hy (by omega) (by omega) (by omega) (fun S hA => ?_) 2 0 rfl S hA
      refine G_iconst (v := 0) dL_law_745 (by decide) ?_
      refine GS_istore (L' := [(8, _), (7, _), (6, _), (5, _), (3, _), (2, _), (1, _), (0, _)]) dL_law_746 (by decide) rfl ?_
      refine G_iconst (v := 0) dL_law_748 (by decide) ?_
      refine GS_istore (L' := [(9, _), (8, _), (7, _), (6, _), (5, _), (3, _), (2, _), (1, _), (0, _)]) dL_law_749 (by decide) rfl ?_
      refine G_sub [0, 1, 2, 3, 4, 5, 6, 7, 8] rfl ?_
      refine lw751 hI hE (uc := uc + 26 * tn) (us := us + 156 * tn) (by omega) (by omega) (fun S hA => ?_) 24 0 rfl S hA
      refine G_iconst (v := 0) dL_law_827 (by decide) ?_
      refine GS_istore (L' := [(9, _), (8, _), (7, _), (6, _), (5, _), (3, _), (2, _), (1, _), (0, _)]) dL_law_828 (by decide) rfl ?_
      refine G_iconst (v := 0) dL_law_830 (by decide) ?_
      refine GS_istore (L' := [(10, _), (9, _), (8, _), (7, _), (6, _), (5, _), (3, _), (2, _), (1, _), (0, _)]) dL_law_831 (by decide) rfl ?_
      refine G_sub [0, 1, 2, 3, 4, 5, 6, 7, 8, 9] rfl ?_
      refine lw833 hI (by omega) (by omega) (fun S hA => ?_) L 0 (Nat.zero_add L) S hA
      refine lw864 hI (by omega) (by omega) (fun S hA => ?_) S hA
      refine lw888 hx hy (by omega) hI hE (by omega) (by omega) (fun S X Y N0 hI => ?_) S hA
      refine G_widen (uc' := uc + 26 * (tn + 1)) (us' := us + 156 * (tn + 1)) (by omega) (by omega) ?_
      exact ih (tn + 1) (by omega) S X Y N0 hI
end MC
