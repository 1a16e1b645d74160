/-! the law: what is loose; what the leaves hold -/
section MA
variable {K : GK} {S0 : St} {X Y W H : Nat → Nat} {cap L N0 N1 lr uc us : Nat} {P : Option Value → VH → Prop}
def looP (S0 : St) (k : Nat) : Bool := inL S0 (nI 1) k && decide (S0.1 96 k = -1)
set_option maxHeartbeats 400000 in
theorem loose_gone {k : Nat} (h : S0.1 12 k = -1) : cnt (looP S0) (k + 1) = cnt (looP S0) k := by
  have e : looP S0 k = false := by
    unfold looP
    rw [show inL S0 (nI 1) k = false from decide_eq_false (by rw [h]; exact nI_m1 (by decide))]
    rfl
  rw [cnt_succ, e]; rfl
set_option maxHeartbeats 400000 in
theorem loose_step {k : Nat} (hk : k < 24) (hlr : lr < 2) (h : S0.1 12 k = nI lr) : nI (cnt (looP S0) k) + ofV S0 lr k 6 = nI (cnt (looP S0) (k + 1)) := by
  rw [cnt_succ, ← nI_add]
  congr 1
  show looseV S0 lr k = _
  unfold looseV
  rw [rat_nI (show k < 80 by omega) (by decide)]
  rcases (show lr = 0 ∨ lr = 1 by omega) with rfl | rfl
  · rw [if_neg (fun q => absurd q.1 (by decide))]
    have e : looP S0 k = false := by
      unfold looP
      rw [show inL S0 (nI 1) k = false from decide_eq_false (by rw [h]; decide)]
      rfl
    rw [e]; rfl
  · show (if ip 1 = 0 ∧ S0.1 96 k = -1 then (1 : Int32) else 0) = _
    have e1 : inL S0 (nI 1) k = true := decide_eq_true h
    by_cases c : S0.1 96 k = -1
    · have e : looP S0 k = true := by
        unfold looP
        rw [e1, decide_eq_true c]
        rfl
      rw [if_pos ⟨rfl, c⟩, e]; rfl
    · have e : looP S0 k = false := by
        unfold looP
        rw [e1, decide_eq_false c]
        rfl
      rw [if_neg (fun q => c q.2), e]; rfl
set_option maxHeartbeats 400000 in
theorem AK_off {S : St} (h : AK S0 S) : AK S0 (offS S) := h
set_option maxHeartbeats 400000 in
theorem lw821 {x y w : Nat} {tn : Int32} {sum : Int64} {z : UInt32} {k : Nat} {v : Int32} {S : St} (kk : GL K uc us P 751 [(9, .int (nI (k + 1))), (8, .int v), (7, .int (nI w)), (6, .int (nI y)), (5, .int (nI x)), (3, .long sum), (2, .int tn), (1, .ref 0), (0, .float z)] S) : GL K uc us P 821 [(9, .int (nI k)), (8, .int v), (7, .int (nI w)), (6, .int (nI y)), (5, .int (nI x)), (3, .long sum), (2, .int tn), (1, .ref 0), (0, .float z)] S := by
  refine GS_iinc (v := 1) (L' := [(9, _), (8, _), (7, _), (6, _), (5, _), (3, _), (2, _), (1, _), (0, _)]) dL_law_821 rfl (by decide) (by decide) rfl ?_
  refine G_goto (tgt := 751) dL_law_824 (by decide) ?_
  refine G_sub [0, 1, 2, 3, 4, 5, 6, 7, 8] rfl ?_
  rw [nI_1]
  exact kk
set_option maxHeartbeats 400000 in
theorem lw772 (hI : INV S0 X Y W H cap L N0 N1) {k : Nat} (hk : k < 24) (hlr : lr < 2) (hl : S0.1 12 k = nI lr) {x y w : Nat} {tn : Int32} {sum : Int64} {z : UInt32} (hu : uc ≤ 600074) (hv : us ≤ 7301550) (kk : ∀ S, AK S0 S → GL K uc us P 751 [(9, .int (nI (k + 1))), (8, .int (nI (cnt (looP S0) (k + 1)))), (7, .int (nI w)), (6, .int (nI y)), (5, .int (nI x)), (3, .long sum), (2, .int tn), (1, .ref 0), (0, .float z)] S) (S : St) (hA : AK S0 S) : GL K uc us P 772 [(9, .int (nI k)), (8, .int (nI (cnt (looP S0) k))), (7, .int (nI w)), (6, .int (nI y)), (5, .int (nI x)), (3, .long sum), (2, .int tn), (1, .ref 0), (0, .float z)] S := by
  refine G_iload dL_law_772 rfl ?_
  refine G_aload_n dL_law_774 rfl ?_
  refine G_iload dL_law_775 rfl ?_
  refine G_bipush (v := 6) dL_law_777 (by decide) ?_
  refine G_cVq (As := [_, _]) dL_law_779 kV_X6_of wml_L_57 (q_of hI hA hlr hk hl (w := 6) (by omega)) rfl cIdx rfl rfl rfl (by decide) ⟨by omega, by omega⟩ (Nat.le_of_ble_eq_true rfl) ?_
  intro S hA
  refine G_iadd dL_law_782 ?_
  rw [loose_step hk hlr hl]
  refine GS_istore (L' := [(8, _), (9, _), (7, _), (6, _), (5, _), (3, _), (2, _), (1, _), (0, _)]) dL_law_783 (by decide) rfl ?_
  refine G_aload_n dL_law_785 rfl ?_
  refine G_iload dL_law_786 rfl ?_
  refine G_iconst (v := 0) dL_law_788 (by decide) ?_
  refine G_cVq (As := [_, _]) dL_law_789 kV_X6_of wml_L_57 (q_of hI hA hlr hk hl (w := 0) (by omega)) rfl cIdx rfl rfl rfl (by decide) ⟨by omega, by omega⟩ (Nat.le_of_ble_eq_true rfl) ?_
  intro S hA
  rw [show ofV S0 lr k 0 = nI lr from rfl]
  refine G_if_ne (tgt := 821) dL_law_792 (by decide) (fun c_792 => ?_) (fun c_792 => ?_)
  · refine G_sub [1, 0, 2, 3, 4, 5, 6, 7, 8] rfl ?_
    exact lw821 (kk S hA)
  · refine G_aload_n dL_law_795 rfl ?_
    refine G_iconst (v := 0) dL_law_796 (by decide) ?_
    refine G_aload_n dL_law_797 rfl ?_
    refine G_iload dL_law_798 rfl ?_
    refine G_iconst (v := 1) dL_law_800 (by decide) ?_
    refine G_cVq (As := [_, _]) dL_law_801 kV_X6_of wml_L_57 (q_of hI hA hlr hk hl (w := 1) (by omega)) rfl cIdx rfl rfl rfl (by decide) ⟨by omega, by omega⟩ (Nat.le_of_ble_eq_true rfl) ?_
    intro S hA
    rw [show ofV S0 lr k 1 = S0.1 4 k from rfl]
    refine G_aload_n dL_law_804 rfl ?_
    refine G_iload dL_law_805 rfl ?_
    refine G_iconst (v := 2) dL_law_807 (by decide) ?_
    refine G_cVq (As := [_, _]) dL_law_808 kV_X6_of wml_L_57 (q_of hI hA hlr hk hl (w := 2) (by omega)) rfl cIdx rfl rfl rfl (by decide) ⟨by omega, by omega⟩ (Nat.le_of_ble_eq_true rfl) ?_
    intro S hA
    rw [show ofV S0 lr k 2 = S0.1 6 k from rfl]
    have hl0 : S0.1 12 k = nI 0 := by rw [hl]; exact c_792
    obtain ⟨mm, mm1, mm2, hq⟩ := q_leaf hI hA hk hl0
    refine G_iconst (v := 3) dL_law_811 (by decide) ?_
    refine G_cVq (As := [_, _, _, _]) dL_law_812 kV_X6_leaf wml_L_100 hq rfl cIdx rfl rfl rfl (by decide) ⟨by omega, by omega⟩ (Nat.le_of_ble_eq_true rfl) ?_
    intro S hA
    refine G_iconst (v := 1) dL_law_815 (by decide) ?_
    refine G_icmp_ge (tgt := 821) dL_law_816 (by decide) (fun c_816 => ?_) (fun c_816 => ?_)
    · refine G_sub [1, 0, 2, 3, 4, 5, 6, 7, 8] rfl ?_
      exact lw821 (kk S hA)
    · exact absurd (nI_le mm1 (by omega)) c_816
set_option maxHeartbeats 400000 in
theorem lw751 (hI : INV S0 X Y W H cap L N0 N1) (hE : ∀ s, kE K s → Exc K s) {x y w : Nat} {tn : Int32} {sum : Int64} {z : UInt32} (hu : uc + 24 ≤ 600074) (hv : us + 144 ≤ 7301550) (k3 : ∀ S, AK S0 S → GL K (uc + 24) (us + 144) P 827 [(9, .int (nI 24)), (8, .int (nI (cnt (looP S0) 24))), (7, .int (nI w)), (6, .int (nI y)), (5, .int (nI x)), (3, .long sum), (2, .int tn), (1, .ref 0), (0, .float z)] S) : ∀ m k, k + m = 24 → ∀ S, AK S0 S → GL K (uc + k) (us + 6 * k) P 751 [(9, .int (nI k)), (8, .int (nI (cnt (looP S0) k))), (7, .int (nI w)), (6, .int (nI y)), (5, .int (nI x)), (3, .long sum), (2, .int tn), (1, .ref 0), (0, .float z)] S := by
  intro m
  induction m with
  | zero =>
    intro k hk S hA
    have e2 : k = 24 := by omega
    subst e2
    refine G_iload dL_law_751 rfl ?_
    refine G_aload_n dL_law_753 rfl ?_
    refine G_cVq (As := []) dL_law_754 kV_X6_things wml_L_92 (q_things hI hA) rfl cIdx rfl rfl rfl (by decide) ⟨by omega, by omega⟩ (Nat.le_of_ble_eq_true rfl) ?_
    intro S hA
    refine G_icmp_ge (tgt := 827) dL_law_757 (by decide) (fun c_757 => ?_) (fun c_757 => ?_)
    · exact k3 S hA
    · exact absurd (Int32.le_refl _) c_757
  | succ m ih =>
    intro k hk S hA
    refine G_iload dL_law_751 rfl ?_
    refine G_aload_n dL_law_753 rfl ?_
    refine G_cVq (As := []) dL_law_754 kV_X6_things wml_L_92 (q_things hI hA) rfl cIdx rfl rfl rfl (by decide) ⟨by omega, by omega⟩ (Nat.le_of_ble_eq_true rfl) ?_
    intro S hA
    refine G_icmp_ge (tgt := 827) dL_law_757 (by decide) (fun c_757 => ?_) (fun c_757 => ?_)
    · exact absurd c_757 (nI_ge (a := k) (b := 24) (by omega) (by decide))
    · refine G_aload_n dL_law_760 rfl ?_
      refine G_iload dL_law_761 rfl ?_
      rcases hI.2.2.1 k (by omega) with hg | hg
      · refine G_callG (As := [_, _]) dL_law_763 wml_L_96 (sp_L_isGone_yes (S := S) (c := 24) (k := k) hE (inv_tc (INV_eq hI hA.1 hA.2)) (by omega) (by omega) (by rw [hA.1.1 12 (by unfold scr; omega)]; exact hg)) rfl rfl (by decide) ⟨by omega, by omega⟩ (Nat.le_of_ble_eq_true rfl) (fun v u q => ?_)
        obtain ⟨rfl, rfl⟩ := q
        refine G_if_eq (tgt := 772) dL_law_766 (by decide) (fun c_766 => ?_) (fun c_766 => ?_)
        · exact absurd c_766 (by decide)
        · refine G_goto (tgt := 821) dL_law_769 (by decide) ?_
          refine G_widen (uc' := uc + (k + 1)) (us' := us + 6 * (k + 1)) (by omega) (by omega) ?_
          refine lw821 ?_
          rw [← loose_gone hg]
          exact ih (k + 1) (by omega) (offS S) (AK_off hA)
      · refine G_callG (As := [_, _]) dL_law_763 wml_L_96 (sp_L_isGone_no (S := S) (c := 24) (k := k) (lr := k % 2) (Nat.mod_lt _ (by omega)) (inv_tc (INV_eq hI hA.1 hA.2)) (by omega) (by omega) (by rw [hA.1.1 12 (by unfold scr; omega)]; exact hg)) rfl rfl (by decide) ⟨by omega, by omega⟩ (Nat.le_of_ble_eq_true rfl) (fun v u q => ?_)
        obtain ⟨rfl, rfl⟩ := q
        refine G_if_eq (tgt := 772) dL_law_766 (by decide) (fun c_766 => ?_) (fun c_766 => ?_)
        · refine G_widen (uc' := uc + (k + 1)) (us' := us + 6 * (k + 1)) (by omega) (by omega) ?_
          exact lw772 hI (by omega) (Nat.mod_lt _ (by omega)) hg (by omega) (by omega) (fun S hA => ih (k + 1) (by omega) S hA) S hA
        · exact absurd rfl c_766
set_option maxHeartbeats 400000 in
theorem lw833 (hI : INV S0 X Y W H cap L N0 N1) {x y w : Nat} {tn : Int32} {sum : Int64} {z : UInt32} {v : Int32} (hu : uc ≤ 600074) (hv : us ≤ 7301550) (k3 : ∀ S, AK S0 S → GL K uc us P 864 [(10, .int (nI L)), (9, .int (nI (smN (hdC S0 75 24) L))), (8, .int v), (7, .int (nI w)), (6, .int (nI y)), (5, .int (nI x)), (3, .long sum), (2, .int tn), (1, .ref 0), (0, .float z)] S) : ∀ m j, j + m = L → ∀ S, AK S0 S → GL K uc us P 833 [(10, .int (nI j)), (9, .int (nI (smN (hdC S0 75 24) j))), (8, .int v), (7, .int (nI w)), (6, .int (nI y)), (5, .int (nI x)), (3, .long sum), (2, .int tn), (1, .ref 0), (0, .float z)] S := by
  have hLb : L ≤ 1205 := by have := hI.2.2.2.2.1.2.1; omega
  intro m
  induction m with
  | zero =>
    intro j hj S hA
    have e2 : j = L := by omega
    subst e2
    refine G_iload dL_law_833 rfl ?_
    refine G_aload_n dL_law_835 rfl ?_
    refine G_iconst (v := 1) dL_law_836 (by decide) ?_
    refine G_iconst (v := 0) dL_law_837 (by decide) ?_
    refine G_cVq (As := [_, _]) dL_law_838 kV_X6_level wml_L_103 (q_level hI hA) rfl cIdx rfl rfl rfl (by decide) ⟨by omega, by omega⟩ (Nat.le_of_ble_eq_true rfl) ?_
    intro S hA
    refine G_icmp_ge (tgt := 864) dL_law_841 (by decide) (fun c_841 => ?_) (fun c_841 => ?_)
    · exact k3 S hA
    · exact absurd (Int32.le_refl _) c_841
  | succ m ih =>
    intro j hj S hA
    refine G_iload dL_law_833 rfl ?_
    refine G_aload_n dL_law_835 rfl ?_
    refine G_iconst (v := 1) dL_law_836 (by decide) ?_
    refine G_iconst (v := 0) dL_law_837 (by decide) ?_
    refine G_cVq (As := [_, _]) dL_law_838 kV_X6_level wml_L_103 (q_level hI hA) rfl cIdx rfl rfl rfl (by decide) ⟨by omega, by omega⟩ (Nat.le_of_ble_eq_true rfl) ?_
    intro S hA
    refine G_icmp_ge (tgt := 864) dL_law_841 (by decide) (fun c_841 => ?_) (fun c_841 => ?_)
    · exact absurd c_841 (nI_ge (by omega) (by omega))
    · refine G_iload dL_law_844 rfl ?_
      refine G_aload_n dL_law_846 rfl ?_
      refine G_iconst (v := 1) dL_law_847 (by decide) ?_
      refine G_iconst (v := 0) dL_law_848 (by decide) ?_
      refine G_iload dL_law_849 rfl ?_
      refine G_iconst (v := 4) dL_law_851 (by decide) ?_
      refine G_cVq (As := [_, _, _, _]) dL_law_852 kV_X6_node wml_L_106 (q_node hI hA (j := j) (by omega)) rfl cIdx rfl rfl rfl (by decide) ⟨by omega, by omega⟩ (Nat.le_of_ble_eq_true rfl) ?_
      intro S hA
      refine G_iadd dL_law_855 ?_
      rw [nI_add, show smN (hdC S0 75 24) j + hdC S0 75 24 j = smN (hdC S0 75 24) (j + 1) from rfl]
      refine GS_istore (L' := [(9, _), (10, _), (8, _), (7, _), (6, _), (5, _), (3, _), (2, _), (1, _), (0, _)]) dL_law_856 (by decide) rfl ?_
      refine GS_iinc (v := 1) (L' := [(10, _), (9, _), (8, _), (7, _), (6, _), (5, _), (3, _), (2, _), (1, _), (0, _)]) dL_law_858 rfl (by decide) (by decide) rfl ?_
      refine G_goto (tgt := 833) dL_law_861 (by decide) ?_
      refine G_sub [0, 1, 2, 3, 4, 5, 6, 7, 8, 9] rfl ?_
      rw [nI_1]
      exact ih (j + 1) (by omega) S hA
end MA
