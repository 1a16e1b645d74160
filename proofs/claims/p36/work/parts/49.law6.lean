/-! the law: a turn's end -/
section MB
variable {K : GK} {M : MD} {d mc ms pc : Nat} {LL : List (Nat × Value)} {h : VH} {Qc : Array Value → State → Outcome → State → Prop} {XC : String → State → State → Prop}
variable {S0 : St} {X Y W H : Nat → Nat} {cap L N0 N1 lr uc us : Nat} {P : Option Value → VH → Prop}
set_option maxHeartbeats 400000 in
theorem G_cVlq {M' : MD} {n d' a ci idx : Nat} {r : vw_C} {fs As rest st : List Value} {z : Int64} (hdg : decode M.2.1 pc = .ok (.invokevirtual idx, 3)) (hcv : CV M' n) (hlink : Cond.methodLink M.1.cls idx M'.1 ∈ tbG) (hSp : Sp K M' d' 0 0 (.ref a :: As) h (fun v u => v = some (.long z) ∧ ∃ S', u = hp 2 S' ∧ AK S0 S') noX) (hst : st = As.reverse ++ .ref a :: rest)
    (hc : h.2[a]? = some (.inr (ci, fs))) (hr : gcl[ci]? = some r) (hrc : r.1 = M'.1.cls) (hn : As.length = n) (hd : d' + 1 ≤ d) (hcs : uc ≤ mc ∧ us ≤ ms) (hw : (rest.map fun v => v.category).sum ≤ 8)
    (kk : ∀ S', AK S0 S' → G K M d mc ms uc us (pc + 3) LL (.long z :: rest) (hp 2 S') Qc XC) : G K M d mc ms uc us pc LL st h Qc XC :=
  G_callV hdg hcv hlink hSp hst hc hr hrc hn hd hcs hw (fun v u q => by obtain ⟨rfl, S', rfl, q2⟩ := q; exact kk S' q2) (fun _ _ q => q.elim)
set_option maxHeartbeats 400000 in
theorem t34 {x : Nat} (hx : x ≤ 1023) : nI x * 3 / 4 = nI (x * 3 / 4) := by
  rw [show nI x * 3 = nI (x * 3) from nI_mul x 3]
  exact nI_div (a := x * 3) (b := 4) (by omega) (by decide)
set_option maxHeartbeats 400000 in
theorem AK_rf (hI : INV S0 X Y W H cap L N0 N1) : AK S0 S0 := ⟨EqC.rf _, hI.2.2.2.2.2.2⟩
set_option maxHeartbeats 400000 in
theorem INV_AK (hI : INV S0 X Y W H cap L N0 N1) {S : St} (hA : AK S0 S) : INV S X Y W H cap L N0 N1 := INV_eq hI hA.1 hA.2
set_option maxHeartbeats 400000 in
theorem lw864 (hI : INV S0 X Y W H cap L N0 N1) {x y w : Nat} {tn : Int32} {z : UInt32} {v : Int32} (hu : uc ≤ 600074) (hv : us ≤ 7301550) (k3 : ∀ S, AK S0 S → GL K uc us P 888 [(6, .int (nI y)), (5, .int (nI x)), (2, .int tn), (1, .ref 0), (0, .float z)] S) (S : St) (hA : AK S0 S) : GL K uc us P 864 [(10, .int v), (9, .int (nI (smN (hdC S0 75 24) L))), (8, .int (nI (cnt (looP S0) 24))), (7, .int (nI w)), (6, .int (nI y)), (5, .int (nI x)), (3, .long (dgV S0 X Y N0 N1)), (2, .int tn), (1, .ref 0), (0, .float z)] S := by
  have hs : smN (hdC S0 75 24) L + cnt (looP S0) 24 = mN S0 1 := ck_loose hI
  refine G_iload dL_law_864 rfl ?_
  refine G_iload dL_law_866 rfl ?_
  refine G_iadd dL_law_868 ?_
  rw [nI_add, hs]
  refine G_aload_n dL_law_869 rfl ?_
  refine G_iconst (v := 1) dL_law_870 (by decide) ?_
  refine G_cVq (As := [_]) dL_law_871 kV_X6_size wml_L_45 (q_size hI hA (lr := 1) (by decide)) rfl cIdx rfl rfl rfl (by decide) ⟨by omega, by omega⟩ (Nat.le_of_ble_eq_true rfl) ?_
  intro S hA
  refine G_icmp_ne (tgt := 886) dL_law_874 (by decide) (fun c_874 => ?_) (fun c_874 => ?_)
  · exact absurd rfl c_874
  · refine G_aload_n dL_law_877 rfl ?_
    refine G_cVlq (As := []) dL_law_878 kV_X6_digest wml_L_41 (q_digest hI S hA) rfl cIdx rfl rfl rfl (by decide) ⟨by omega, by omega⟩ (Nat.le_of_ble_eq_true rfl) ?_
    intro S hA
    refine G_lload_n dL_law_881 rfl ?_
    refine G_lcmp dL_law_882 ?_
    refine G_if_eq (tgt := 888) dL_law_883 (by decide) (fun c_883 => ?_) (fun c_883 => ?_)
    · refine G_sub [4, 5, 7, 8, 9] rfl ?_
      exact k3 S hA
    · exact absurd ((lg_cmp_eq _ _).mpr rfl) c_883
set_option maxHeartbeats 400000 in
theorem lw1008 {tn : Nat} {z : UInt32} {S : St} (kk : GL K uc us P 178 [(2, .int (nI (tn + 1))), (1, .ref 0), (0, .float z)] S) : GL K uc us P 1008 [(2, .int (nI tn)), (1, .ref 0), (0, .float z)] S := by
  refine GS_iinc (v := 1) (L' := [(2, _), (1, _), (0, _)]) dL_law_1008 rfl (by decide) (by decide) rfl ?_
  refine G_goto (tgt := 178) dL_law_1011 (by decide) ?_
  refine G_sub [0, 1, 2] rfl ?_
  rw [nI_1]
  exact kk
set_option maxHeartbeats 400000 in
theorem lw969 {S : St} {x y k tn : Nat} (hx : x ≤ 1023) (hy : y ≤ 1023) (hk : k < 24) {z : UInt32} (hI : INV S X Y W H cap L N0 N1) (hlr : lr < 2) (hkl : lr = k % 2) (hl : S.1 12 k = nI lr)  {v : Int32} (hu : uc ≤ 600074) (hv : us ≤ 7301550) (k3 : ∀ S X Y N0, INV S X Y W H cap L N0 N1 → GL K uc us P 178 [(2, .int (nI (tn + 1))), (1, .ref 0), (0, .float z)] S) : GL K uc us P 969 [(11, .int v), (10, .int (nI k)), (6, .int (nI y)), (5, .int (nI x)), (2, .int (nI tn)), (1, .ref 0), (0, .float z)] S := by
  obtain ⟨⟨N2, hI2⟩, m1, m2⟩ := moveI hI hk hkl hl (x := x * 3 / 4) (y := y * 3 / 4) (by omega) (by omega)
  have hT := hI.2.1.1
  have hb := hI.2.1.2 k
  obtain ⟨t1, t2, t3, t4, t5, t6⟩ := hT k hk
  have hf : bfar S 2 80 (nI k) (nI (x * 3 / 4)) (nI (y * 3 / 4)) (S.1 8 k) (S.1 10 k) = nI (farN (X k) (Y k) (W k) (H k) (x * 3 / 4) (y * 3 / 4) (W k) (H k)) := by
    rw [t3, t4]
    exact tr_bfar hT (by omega) hk (by omega) (by omega) (by omega) (by omega)
  have hfl : farN (X k) (Y k) (W k) (H k) (x * 3 / 4) (y * 3 / 4) (W k) (H k) ≤ 2 * (1023 * 1023) := farN_le (by omega) (by omega) (by omega) (by omega)
  refine G_aload_n dL_law_969 rfl ?_
  refine G_iload dL_law_970 rfl ?_
  refine G_iload dL_law_972 rfl ?_
  refine G_iconst (v := 3) dL_law_974 (by decide) ?_
  refine G_imul dL_law_975 ?_
  refine G_iconst (v := 4) dL_law_976 (by decide) ?_
  refine G_idiv dL_law_977 (by decide) ?_
  rw [t34 hx]
  refine G_iload dL_law_978 rfl ?_
  refine G_iconst (v := 3) dL_law_980 (by decide) ?_
  refine G_imul dL_law_981 ?_
  refine G_iconst (v := 4) dL_law_982 (by decide) ?_
  refine G_idiv dL_law_983 (by decide) ?_
  rw [t34 hy]
  refine G_cVi (As := [_, _, _]) dL_law_984 kV_X6_move wml_L_112 (sp_X6_move hlr (inv_tc hI) (by omega) hk hl (okM_nI (by omega)) (okM_nI (by omega)) (by rw [t3, nI_add]; exact okM_nI (by omega)) (by rw [t4, nI_add]; exact okM_nI (by omega))) rfl cIdx rfl rfl rfl (by decide) ⟨by omega, by omega⟩ (Nat.le_of_ble_eq_true rfl) ?_
  rw [hf]
  generalize moveS S 24 lr k (nI (x * 3 / 4)) (nI (y * 3 / 4)) = S2 at hI2 m1 m2 ⊢
  refine G_if_lt (tgt := 1006) dL_law_987 (by decide) (fun c_987 => ?_) (fun c_987 => ?_)
  · first
      | exact absurd rfl c_1003
      | exact absurd c_987 (nI_pos (by omega))
  · refine G_aload_n dL_law_990 rfl ?_
    refine G_iload dL_law_991 rfl ?_
    refine G_iconst (v := 1) dL_law_993 (by decide) ?_
    refine G_cVq (As := [_, _]) dL_law_994 kV_X6_of wml_L_57 (q_of hI2 (AK_rf hI2) hlr hk m2 (w := 1) (by omega)) rfl cIdx rfl rfl rfl (by decide) ⟨by omega, by omega⟩ (Nat.le_of_ble_eq_true rfl) ?_
    intro S hA
    rw [show ofV S2 lr k 1 = nI (x * 3 / 4) from m1]
    refine G_iload dL_law_997 rfl ?_
    refine G_iconst (v := 3) dL_law_999 (by decide) ?_
    refine G_imul dL_law_1000 ?_
    refine G_iconst (v := 4) dL_law_1001 (by decide) ?_
    refine G_idiv dL_law_1002 (by decide) ?_
    rw [t34 hx]
    refine G_icmp_eq (tgt := 1008) dL_law_1003 (by decide) (fun c_1003 => ?_) (fun c_1003 => ?_)
    · refine G_sub [4, 5, 6] rfl ?_
      exact lw1008 (k3 _ _ _ _ (INV_AK hI2 hA))
    · first
        | exact absurd rfl c_1003
        | exact absurd c_987 (nI_pos (by omega))
set_option maxHeartbeats 400000 in
theorem lw945 {S : St} {x y k tn : Nat} (hk : k < 24) {z : UInt32} (hI : INV S X Y W H cap L N0 N1) (hE : ∀ s, kE K s → Exc K s) (hlr : lr < 2) (hkl : lr = k % 2) (hl : S.1 12 k = nI lr) (hu : uc + 1 ≤ 600074) (hv : us + 6 ≤ 7301550) (k3 : ∀ S X Y N0, INV S X Y W H cap L N0 N1 → GL K (uc + 1) (us + 6) P 178 [(2, .int (nI (tn + 1))), (1, .ref 0), (0, .float z)] S) : GL K uc us P 945 [(11, .int (nI (mN S lr))), (10, .int (nI k)), (6, .int (nI y)), (5, .int (nI x)), (2, .int (nI tn)), (1, .ref 0), (0, .float z)] S := by
  obtain ⟨⟨N2, hI2⟩, m1, m2⟩ := removeI hI hk hkl hl
  have m3 : mN S lr = cnt (inL (remS S 24 lr k) (nI lr)) 24 + 1 := m2.symm
  refine G_aload_n dL_law_945 rfl ?_
  refine G_iload dL_law_946 rfl ?_
  refine G_cVi (As := [_]) dL_law_948 kV_X6_remove wml_L_109 (sp_X6_remove hlr (inv_tc hI) (by omega) hk hl) rfl cIdx rfl rfl rfl (by decide) ⟨by omega, by omega⟩ (Nat.le_of_ble_eq_true rfl) ?_
  refine G_iload dL_law_951 rfl ?_
  refine G_iconst (v := 1) dL_law_953 (by decide) ?_
  refine G_isub dL_law_954 ?_
  rw [m3, nI_pred]
  refine G_icmp_ne (tgt := 967) dL_law_955 (by decide) (fun c_955 => ?_) (fun c_955 => ?_)
  · exact absurd rfl c_955
  · refine G_aload_n dL_law_958 rfl ?_
    refine G_iload dL_law_959 rfl ?_
    refine G_callG (As := [_, _]) dL_law_961 wml_L_96 (sp_L_isGone_yes (S := remS S 24 lr k) (c := 24) (k := k) hE (inv_tc hI2) (by omega) (by omega) m1) rfl rfl (by decide) ⟨by omega, by omega⟩ (Nat.le_of_ble_eq_true rfl) (fun v u q => ?_)
    obtain ⟨rfl, rfl⟩ := q
    refine G_if_ne (tgt := 1008) dL_law_964 (by decide) (fun c_964 => ?_) (fun c_964 => ?_)
    · refine G_sub [4, 5, 6] rfl ?_
      exact lw1008 (k3 _ _ _ _ (INV_AK hI2 (AK_off (AK_rf hI2))))
    · exact absurd c_964 (by decide)
end MB
