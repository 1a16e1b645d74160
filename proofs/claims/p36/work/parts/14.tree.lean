/-! a tree's rows, by where it lies -/
abbrev tN (S : St) (t : Nat) : Int32 := S.2.1 t 8
abbrev tR (S : St) (t : Nat) : Int32 := S.2.1 t 9
abbrev tLv (S : St) (t : Nat) : Nat → Int32 := S.1 (t + 11)
abbrev tHd (S : St) (t : Nat) : Nat → Int32 := S.1 (t + 13)
abbrev tFr (S : St) (t : Nat) : Nat → Int32 := S.1 (t + 15)
abbrev tCt (S : St) (t : Nat) : Nat → Int32 := S.1 (t + 17)
abbrev tBl (S : St) (t : Nat) : Nat → Int32 := S.1 (t + 19)
abbrev tHm (S : St) (t : Nat) : Nat → Int32 := S.1 (t + 21)
abbrev tKy (S : St) (t : Nat) : Nat → Int32 := S.1 (t + 23)
def leafI (S : St) (t : Nat) (i : Int32) : Int32 := if rat (tCt S t) 1205 i = 0 then 1 else 0
def belV (S : St) (t : Nat) (i j : Int32) : Int32 := rat (tBl S t) 1205 (rat (tFr S t) 1205 i + j)
def halfV (S : St) (t : Nat) (i : Int32) : Int32 := (bW S (t + 1) 1205 i + 1) / 2
def qtr (S : St) (t : Nat) (i x y : Int32) : Int32 := (if x < bX S (t + 1) 1205 i + halfV S t i then 0 else 1) + (if y < bY S (t + 1) 1205 i + halfV S t i then 0 else 2)
/-- down to the leaf, so many steps at the most -/
def dsc (S : St) (t : Nat) (x y : Int32) (f : Nat) (a : Int32) : Int32 := match f with
  | 0 => a
  | f + 1 => if leafI S t a = 0 then dsc S t x y f (belV S t a (qtr S t a x y)) else a
def levV (S : St) (t : Nat) : Int32 := if tN S t = 0 then 0 else rat (tLv S t) 1205 (tN S t - 1) + 1
def fellS (S : St) (t : Nat) : St := setR (setI (setI S t 8 0) t 9 0) (t + 21) (rfil (tHm S t) 80 (-1) 0)
def addNS (S : St) (t : Nat) (level : Int32) : St := setI (setR (setR (setR S (t + 11) (rput (tLv S t) 1205 (tN S t) level)) (t + 13) (rput (tHd S t) 1205 (tN S t) 0)) (t + 17) (rput (tCt S t) 1205 (tN S t) 0)) t 8 (tN S t + 1)
def settS (S : St) (t : Nat) (k a : Int32) : St := setR (setR S (t + 21) (rput (tHm S t) 80 k a)) (t + 13) (rput (tHd S t) 1205 a (tHd S t a.toNatClampNeg + 1))
section TR
variable {K : GK} {ly : Nat} {S : St} {t N : Nat}
set_option maxHeartbeats 200000 in
theorem sp_X5_isLeaf (ht : isTree ly t) {i : Int32} : Sp K MX5_isLeaf 6 0 0 [.ref t, .int i] (hp ly S) (fun v u => v = some (.int (leafI S t i)) ∧ u = hp ly S) noX := by
  refine Sp_of (by decide) (Nat.le_of_ble_eq_true rfl) ?_
  refine G_aload_n dX5_isLeaf_0 rfl ?_
  refine G_get (k := 4) dX5_isLeaf_1 (cTree ht) rfl wfl_X5_33 (by decide) rfl ?_
  refine G_iload_n dX5_isLeaf_4 rfl ?_
  refine G_cVi (As := [_]) dX5_isLeaf_5 kV_X3_at wml_X5_48 (sp_X3_at (tCount ht)) rfl (cRow (tCount ht)) rfl rfl rfl (by decide) ⟨Nat.le_refl 0, Nat.le_refl 0⟩ (Nat.le_of_ble_eq_true rfl) ?_
  refine G_if_ne (tgt := 15) dX5_isLeaf_8 (by decide) (fun c_8 => ?_) (fun c_8 => ?_)
  · refine G_iconst (v := 0) dX5_isLeaf_15 (by decide) ?_
    exact G_iret dX5_isLeaf_16 rfl rfl ⟨Nat.le_refl 0, Nat.le_refl 0⟩ ⟨by unfold leafI; first | rw [if_pos c_8] | rw [if_neg c_8], rfl⟩
  · refine G_iconst (v := 1) dX5_isLeaf_11 (by decide) ?_
    refine G_goto (tgt := 16) dX5_isLeaf_12 (by decide) ?_
    exact G_iret dX5_isLeaf_16 rfl rfl ⟨Nat.le_refl 0, Nat.le_refl 0⟩ ⟨by unfold leafI; first | rw [if_pos c_8] | rw [if_neg c_8], rfl⟩
set_option maxHeartbeats 200000 in
theorem sp_X5_belowAt (ht : isTree ly t) {i j : Int32} : Sp K MX5_belowAt 6 0 0 [.ref t, .int i, .int j] (hp ly S) (fun v u => v = some (.int (belV S t i j)) ∧ u = hp ly S) noX := by
  refine Sp_of (by decide) (Nat.le_of_ble_eq_true rfl) ?_
  refine G_aload_n dX5_belowAt_0 rfl ?_
  refine G_get (k := 5) dX5_belowAt_1 (cTree ht) rfl wfl_X5_36 (by decide) rfl ?_
  refine G_aload_n dX5_belowAt_4 rfl ?_
  refine G_get (k := 3) dX5_belowAt_5 (cTree ht) rfl wfl_X5_30 (by decide) rfl ?_
  refine G_iload_n dX5_belowAt_8 rfl ?_
  refine G_cVi (As := [_]) dX5_belowAt_9 kV_X3_at wml_X5_48 (sp_X3_at (tFrom ht)) rfl (cRow (tFrom ht)) rfl rfl rfl (by decide) ⟨Nat.le_refl 0, Nat.le_refl 0⟩ (Nat.le_of_ble_eq_true rfl) ?_
  refine G_iload_n dX5_belowAt_12 rfl ?_
  refine G_iadd dX5_belowAt_13 ?_
  refine G_cVi (As := [_]) dX5_belowAt_14 kV_X3_at wml_X5_48 (sp_X3_at (tBelow ht)) rfl (cRow (tBelow ht)) rfl rfl rfl (by decide) ⟨Nat.le_refl 0, Nat.le_refl 0⟩ (Nat.le_of_ble_eq_true rfl) ?_
  exact G_iret dX5_belowAt_17 rfl rfl ⟨Nat.le_refl 0, Nat.le_refl 0⟩ ⟨rfl, rfl⟩
set_option maxHeartbeats 200000 in
theorem sp_X5_halfSide (ht : isTree ly t) {i : Int32} : Sp K MX5_halfSide 6 0 0 [.ref t, .int i] (hp ly S) (fun v u => v = some (.int (halfV S t i)) ∧ u = hp ly S) noX := by
  refine Sp_of (by decide) (Nat.le_of_ble_eq_true rfl) ?_
  refine G_aload_n dX5_halfSide_0 rfl ?_
  refine G_get (k := 0) dX5_halfSide_1 (cTree ht) rfl wfl_X5_14 (by decide) rfl ?_
  refine G_getN (k := 2) dX5_halfSide_4 (cBox (bTree ht)) rfl wfn_X5_84 (by decide) rfl ?_
  refine G_iload_n dX5_halfSide_7 rfl ?_
  refine G_cVi (As := [_]) dX5_halfSide_8 kV_X3_at wml_X5_48 (sp_X3_at (bTree ht).2.2.2.2.2.1) rfl (cRow (bTree ht).2.2.2.2.2.1) rfl rfl rfl (by decide) ⟨Nat.le_refl 0, Nat.le_refl 0⟩ (Nat.le_of_ble_eq_true rfl) ?_
  refine G_iconst (v := 1) dX5_halfSide_11 (by decide) ?_
  refine G_iadd dX5_halfSide_12 ?_
  refine G_iconst (v := 2) dX5_halfSide_13 (by decide) ?_
  refine G_idiv dX5_halfSide_14 (by decide) ?_
  exact G_iret dX5_halfSide_15 rfl rfl ⟨Nat.le_refl 0, Nat.le_refl 0⟩ ⟨rfl, rfl⟩
set_option maxHeartbeats 200000 in
theorem sp_X5_quarterOf (ht : isTree ly t) {i x y : Int32} : Sp K MX5_quarterOf 8 0 0 [.ref t, .int i, .int x, .int y] (hp ly S) (fun v u => v = some (.int (qtr S t i x y)) ∧ u = hp ly S) noX := by
  refine Sp_of (by decide) (Nat.le_of_ble_eq_true rfl) ?_
  refine G_aload_n dX5_quarterOf_0 rfl ?_
  refine G_iload_n dX5_quarterOf_1 rfl ?_
  refine G_cVi (As := [_]) dX5_quarterOf_2 kV_X5_halfSide wml_X5_75 (sp_X5_halfSide ht) rfl (cTree ht) rfl rfl rfl (by decide) ⟨Nat.le_refl 0, Nat.le_refl 0⟩ (Nat.le_of_ble_eq_true rfl) ?_
  refine GS_istore (L' := [(4, _), (0, _), (1, _), (2, _), (3, _)]) dX5_quarterOf_5 (by decide) rfl ?_
  refine G_iload_n dX5_quarterOf_7 rfl ?_
  refine G_aload_n dX5_quarterOf_8 rfl ?_
  refine G_get (k := 0) dX5_quarterOf_9 (cTree ht) rfl wfl_X5_14 (by decide) rfl ?_
  refine G_getN (k := 0) dX5_quarterOf_12 (cBox (bTree ht)) rfl wfn_X5_78 (by decide) rfl ?_
  refine G_iload_n dX5_quarterOf_15 rfl ?_
  refine G_cVi (As := [_]) dX5_quarterOf_16 kV_X3_at wml_X5_48 (sp_X3_at (bTree ht).2.2.2.1) rfl (cRow (bTree ht).2.2.2.1) rfl rfl rfl (by decide) ⟨Nat.le_refl 0, Nat.le_refl 0⟩ (Nat.le_of_ble_eq_true rfl) ?_
  refine G_iload dX5_quarterOf_19 rfl ?_
  refine G_iadd dX5_quarterOf_21 ?_
  refine G_icmp_lt (tgt := 29) dX5_quarterOf_22 (by decide) (fun c_22 => ?_) (fun c_22 => ?_)
  · refine G_iconst (v := 0) dX5_quarterOf_29 (by decide) ?_
    refine GS_istore (L' := [(5, _), (4, _), (0, _), (1, _), (2, _), (3, _)]) dX5_quarterOf_30 (by decide) rfl ?_
    refine G_iload_n dX5_quarterOf_32 rfl ?_
    refine G_aload_n dX5_quarterOf_33 rfl ?_
    refine G_get (k := 0) dX5_quarterOf_34 (cTree ht) rfl wfl_X5_14 (by decide) rfl ?_
    refine G_getN (k := 1) dX5_quarterOf_37 (cBox (bTree ht)) rfl wfn_X5_81 (by decide) rfl ?_
    refine G_iload_n dX5_quarterOf_40 rfl ?_
    refine G_cVi (As := [_]) dX5_quarterOf_41 kV_X3_at wml_X5_48 (sp_X3_at (bTree ht).2.2.2.2.1) rfl (cRow (bTree ht).2.2.2.2.1) rfl rfl rfl (by decide) ⟨Nat.le_refl 0, Nat.le_refl 0⟩ (Nat.le_of_ble_eq_true rfl) ?_
    refine G_iload dX5_quarterOf_44 rfl ?_
    refine G_iadd dX5_quarterOf_46 ?_
    refine G_icmp_lt (tgt := 54) dX5_quarterOf_47 (by decide) (fun c_47 => ?_) (fun c_47 => ?_)
    · refine G_iconst (v := 0) dX5_quarterOf_54 (by decide) ?_
      refine GS_istore (L' := [(6, _), (5, _), (4, _), (0, _), (1, _), (2, _), (3, _)]) dX5_quarterOf_55 (by decide) rfl ?_
      refine G_iload dX5_quarterOf_57 rfl ?_
      refine G_iload dX5_quarterOf_59 rfl ?_
      refine G_iadd dX5_quarterOf_61 ?_
      exact G_iret dX5_quarterOf_62 rfl rfl ⟨Nat.le_refl 0, Nat.le_refl 0⟩ ⟨by unfold qtr; first | (rw [if_pos c_22, if_pos c_47]) | (rw [if_pos c_22, if_neg c_47]) | (rw [if_neg c_22, if_pos c_47]) | (rw [if_neg c_22, if_neg c_47]), rfl⟩
    · refine G_iconst (v := 2) dX5_quarterOf_50 (by decide) ?_
      refine G_goto (tgt := 55) dX5_quarterOf_51 (by decide) ?_
      refine GS_istore (L' := [(6, _), (5, _), (4, _), (0, _), (1, _), (2, _), (3, _)]) dX5_quarterOf_55 (by decide) rfl ?_
      refine G_iload dX5_quarterOf_57 rfl ?_
      refine G_iload dX5_quarterOf_59 rfl ?_
      refine G_iadd dX5_quarterOf_61 ?_
      exact G_iret dX5_quarterOf_62 rfl rfl ⟨Nat.le_refl 0, Nat.le_refl 0⟩ ⟨by unfold qtr; first | (rw [if_pos c_22, if_pos c_47]) | (rw [if_pos c_22, if_neg c_47]) | (rw [if_neg c_22, if_pos c_47]) | (rw [if_neg c_22, if_neg c_47]), rfl⟩
  · refine G_iconst (v := 1) dX5_quarterOf_25 (by decide) ?_
    refine G_goto (tgt := 30) dX5_quarterOf_26 (by decide) ?_
    refine GS_istore (L' := [(5, _), (4, _), (0, _), (1, _), (2, _), (3, _)]) dX5_quarterOf_30 (by decide) rfl ?_
    refine G_iload_n dX5_quarterOf_32 rfl ?_
    refine G_aload_n dX5_quarterOf_33 rfl ?_
    refine G_get (k := 0) dX5_quarterOf_34 (cTree ht) rfl wfl_X5_14 (by decide) rfl ?_
    refine G_getN (k := 1) dX5_quarterOf_37 (cBox (bTree ht)) rfl wfn_X5_81 (by decide) rfl ?_
    refine G_iload_n dX5_quarterOf_40 rfl ?_
    refine G_cVi (As := [_]) dX5_quarterOf_41 kV_X3_at wml_X5_48 (sp_X3_at (bTree ht).2.2.2.2.1) rfl (cRow (bTree ht).2.2.2.2.1) rfl rfl rfl (by decide) ⟨Nat.le_refl 0, Nat.le_refl 0⟩ (Nat.le_of_ble_eq_true rfl) ?_
    refine G_iload dX5_quarterOf_44 rfl ?_
    refine G_iadd dX5_quarterOf_46 ?_
    refine G_icmp_lt (tgt := 54) dX5_quarterOf_47 (by decide) (fun c_47 => ?_) (fun c_47 => ?_)
    · refine G_iconst (v := 0) dX5_quarterOf_54 (by decide) ?_
      refine GS_istore (L' := [(6, _), (5, _), (4, _), (0, _), (1, _), (2, _), (3, _)]) dX5_quarterOf_55 (by decide) rfl ?_
      refine G_iload dX5_quarterOf_57 rfl ?_
      refine G_iload dX5_quarterOf_59 rfl ?_
      refine G_iadd dX5_quarterOf_61 ?_
      exact G_iret dX5_quarterOf_62 rfl rfl ⟨Nat.le_refl 0, Nat.le_refl 0⟩ ⟨by unfold qtr; first | (rw [if_pos c_22, if_pos c_47]) | (rw [if_pos c_22, if_neg c_47]) | (rw [if_neg c_22, if_pos c_47]) | (rw [if_neg c_22, if_neg c_47]), rfl⟩
    · refine G_iconst (v := 2) dX5_quarterOf_50 (by decide) ?_
      refine G_goto (tgt := 55) dX5_quarterOf_51 (by decide) ?_
      refine GS_istore (L' := [(6, _), (5, _), (4, _), (0, _), (1, _), (2, _), (3, _)]) dX5_quarterOf_55 (by decide) rfl ?_
      refine G_iload dX5_quarterOf_57 rfl ?_
      refine G_iload dX5_quarterOf_59 rfl ?_
      refine G_iadd dX5_quarterOf_61 ?_
      exact G_iret dX5_quarterOf_62 rfl rfl ⟨Nat.le_refl 0, Nat.le_refl 0⟩ ⟨by unfold qtr; first | (rw [if_pos c_22, if_pos c_47]) | (rw [if_pos c_22, if_neg c_47]) | (rw [if_neg c_22, if_pos c_47]) | (rw [if_neg c_22, if_neg c_47]), rfl⟩
set_option maxHeartbeats 200000 in
theorem sp_X5_countLevels (ht : isTree ly t) : Sp K MX5_countLevels 6 0 0 [.ref t] (hp ly S) (fun v u => v = some (.int (levV S t)) ∧ u = hp ly S) noX := by
  refine Sp_of (by decide) (Nat.le_of_ble_eq_true rfl) ?_
  refine G_aload_n dX5_countLevels_0 rfl ?_
  refine G_get (k := 8) dX5_countLevels_1 (cTree ht) rfl wfl_X5_52 (by decide) rfl ?_
  refine G_if_ne (tgt := 11) dX5_countLevels_4 (by decide) (fun c_4 => ?_) (fun c_4 => ?_)
  · refine G_aload_n dX5_countLevels_11 rfl ?_
    refine G_get (k := 1) dX5_countLevels_12 (cTree ht) rfl wfl_X5_23 (by decide) rfl ?_
    refine G_aload_n dX5_countLevels_15 rfl ?_
    refine G_get (k := 8) dX5_countLevels_16 (cTree ht) rfl wfl_X5_52 (by decide) rfl ?_
    refine G_iconst (v := 1) dX5_countLevels_19 (by decide) ?_
    refine G_isub dX5_countLevels_20 ?_
    refine G_cVi (As := [_]) dX5_countLevels_21 kV_X3_at wml_X5_48 (sp_X3_at (tLevel ht)) rfl (cRow (tLevel ht)) rfl rfl rfl (by decide) ⟨Nat.le_refl 0, Nat.le_refl 0⟩ (Nat.le_of_ble_eq_true rfl) ?_
    refine G_iconst (v := 1) dX5_countLevels_24 (by decide) ?_
    refine G_iadd dX5_countLevels_25 ?_
    exact G_iret dX5_countLevels_26 rfl rfl ⟨Nat.le_refl 0, Nat.le_refl 0⟩ ⟨by unfold levV; first | rw [if_pos c_4] | rw [if_neg c_4], rfl⟩
  · refine G_iconst (v := 0) dX5_countLevels_7 (by decide) ?_
    refine G_goto (tgt := 26) dX5_countLevels_8 (by decide) ?_
    exact G_iret dX5_countLevels_26 rfl rfl ⟨Nat.le_refl 0, Nat.le_refl 0⟩ ⟨by unfold levV; first | rw [if_pos c_4] | rw [if_neg c_4], rfl⟩
set_option maxHeartbeats 200000 in
theorem lp_X5_leafAt (ht : isTree ly t) {x y : Int32} {P : Option Value → VH → Prop} : ∀ f j a, j + f = 11 → P (some (.int (dsc S t x y f a))) (hp ly S) → G K MX5_leafAt 12 0 0 0 0 8 [(4, .int (nI j)), (3, .int a), (0, .ref t), (1, .int x), (2, .int y)] [] (hp ly S) (QcP K P) (XcP K noX) := by
  intro f
  induction f with
  | zero =>
    intro j a hj q
    obtain rfl : j = 11 := by omega
    refine G_iload dX5_leafAt_8 rfl ?_
    refine G_bipush (v := 11) dX5_leafAt_10 (by decide) ?_
    refine G_icmp_ge (tgt := 42) dX5_leafAt_12 (by decide) (fun c_12 => ?_) (fun c_12 => ?_)
    · refine G_iload_n dX5_leafAt_42 rfl ?_
      exact G_iret dX5_leafAt_43 rfl rfl ⟨Nat.le_refl 0, Nat.le_refl 0⟩ q
    · exact absurd (by decide) c_12
  | succ f ih =>
    intro j a hj q
    rw [dsc] at q
    refine G_iload dX5_leafAt_8 rfl ?_
    refine G_bipush (v := 11) dX5_leafAt_10 (by decide) ?_
    refine G_icmp_ge (tgt := 42) dX5_leafAt_12 (by decide) (fun c_12 => ?_) (fun c_12 => ?_)
    · exact absurd c_12 (nI_ge (show j < 11 by omega) (by decide))
    · refine G_aload_n dX5_leafAt_15 rfl ?_
      refine G_iload_n dX5_leafAt_16 rfl ?_
      refine G_cVi (As := [_]) dX5_leafAt_17 kV_X5_isLeaf wml_X5_63 (sp_X5_isLeaf ht) rfl (cTree ht) rfl rfl rfl (by decide) ⟨Nat.le_refl 0, Nat.le_refl 0⟩ (Nat.le_of_ble_eq_true rfl) ?_
      refine G_if_ne (tgt := 42) dX5_leafAt_20 (by decide) (fun c_20 => ?_) (fun c_20 => ?_)
      · refine G_iload_n dX5_leafAt_42 rfl ?_
        exact G_iret dX5_leafAt_43 rfl rfl ⟨Nat.le_refl 0, Nat.le_refl 0⟩ (by rw [if_neg c_20] at q; exact q)
      · refine G_aload_n dX5_leafAt_23 rfl ?_
        refine G_iload_n dX5_leafAt_24 rfl ?_
        refine G_aload_n dX5_leafAt_25 rfl ?_
        refine G_iload_n dX5_leafAt_26 rfl ?_
        refine G_iload_n dX5_leafAt_27 rfl ?_
        refine G_iload_n dX5_leafAt_28 rfl ?_
        refine G_cVi (As := [_, _, _]) dX5_leafAt_29 kV_X5_quarterOf wml_X5_67 (sp_X5_quarterOf ht) rfl (cTree ht) rfl rfl rfl (by decide) ⟨Nat.le_refl 0, Nat.le_refl 0⟩ (Nat.le_of_ble_eq_true rfl) ?_
        refine G_cVi (As := [_, _]) dX5_leafAt_32 kV_X5_belowAt wml_X5_71 (sp_X5_belowAt ht) rfl (cTree ht) rfl rfl rfl (by decide) ⟨Nat.le_refl 0, Nat.le_refl 0⟩ (Nat.le_of_ble_eq_true rfl) ?_
        refine GS_istore_n (L' := [(3, _), (4, _), (0, _), (1, _), (2, _)]) dX5_leafAt_35 (by decide) rfl ?_
        refine GS_iinc (v := 1) (L' := [(4, _), (3, _), (0, _), (1, _), (2, _)]) dX5_leafAt_36 rfl (by decide) (by decide) rfl ?_
        refine G_goto (tgt := 8) dX5_leafAt_39 (by decide) ?_
        refine G_sub [0, 1, 2, 3, 4] rfl ?_
        rw [if_pos c_20] at q
        rw [nI_1 j]
        exact ih (j + 1) _ (by omega) q
set_option maxHeartbeats 200000 in
theorem sp_X5_leafAt (ht : isTree ly t) {x y : Int32} : Sp K MX5_leafAt 12 0 0 [.ref t, .int x, .int y] (hp ly S) (fun v u => v = some (.int (dsc S t x y 11 (tR S t))) ∧ u = hp ly S) noX := by
  refine Sp_of (by decide) (Nat.le_of_ble_eq_true rfl) ?_
  refine G_aload_n dX5_leafAt_0 rfl ?_
  refine G_get (k := 9) dX5_leafAt_1 (cTree ht) rfl wfl_X5_60 (by decide) rfl ?_
  refine GS_istore_n (L' := [(3, _), (0, _), (1, _), (2, _)]) dX5_leafAt_4 (by decide) rfl ?_
  refine G_iconst (v := 0) dX5_leafAt_5 (by decide) ?_
  refine GS_istore (L' := [(4, _), (3, _), (0, _), (1, _), (2, _)]) dX5_leafAt_6 (by decide) rfl ?_
  refine G_sub [0, 1, 2, 3, 4] rfl ?_
  exact lp_X5_leafAt ht 11 0 _ rfl ⟨rfl, rfl⟩
def onLv (S : St) (t : Nat) (level : Int32) (k : Nat) : Bool := decide (tLv S t k = level)
def visP (S : St) (t : Nat) (x y w h far : Int32) (k : Nat) : Bool := decide (bfar S (t + 1) 1205 (nI k) x y w h ≤ far)
set_option maxHeartbeats 200000 in
theorem lp_X5_countOnLevel (ht : isTree ly t) (hN : tN S t = nI N) (hN2 : N ≤ 1205) {level : Int32} : ∀ m j, j + m = N → G K MX5_countOnLevel 6 0 0 0 0 4 [(3, .int (nI j)), (2, .int (nI (cnt (onLv S t level) j))), (0, .ref t), (1, .int level)] [] (hp ly S) (QcP K (fun v u => v = some (.int (nI (cnt (onLv S t level) N))) ∧ u = hp ly S)) (XcP K noX) := by
  intro m
  induction m with
  | zero =>
    intro j hj
    obtain rfl : j = N := by omega
    refine G_iload_n dX5_countOnLevel_4 rfl ?_
    refine G_aload_n dX5_countOnLevel_5 rfl ?_
    refine G_get (k := 8) dX5_countOnLevel_6 (cTree ht) rfl wfl_X5_52 (by decide) rfl ?_
    rw [show S.2.1 t 8 = nI j from hN]
    refine G_icmp_ge (tgt := 33) dX5_countOnLevel_9 (by decide) (fun c_9 => ?_) (fun c_9 => ?_)
    · refine G_iload_n dX5_countOnLevel_33 rfl ?_
      exact G_iret dX5_countOnLevel_34 rfl rfl ⟨Nat.le_refl 0, Nat.le_refl 0⟩ ⟨rfl, rfl⟩
    · exact absurd (nI_le (Nat.le_refl _) (by omega)) c_9
  | succ m ih =>
    intro j hj
    have hj8 : j < 1205 := by omega
    have q := ih (j + 1) (by omega)
    refine G_iload_n dX5_countOnLevel_4 rfl ?_
    refine G_aload_n dX5_countOnLevel_5 rfl ?_
    refine G_get (k := 8) dX5_countOnLevel_6 (cTree ht) rfl wfl_X5_52 (by decide) rfl ?_
    rw [show S.2.1 t 8 = nI N from hN]
    refine G_icmp_ge (tgt := 33) dX5_countOnLevel_9 (by decide) (fun c_9 => ?_) (fun c_9 => ?_)
    · exact absurd c_9 (nI_ge (show j < N by omega) (by omega))
    · refine G_aload_n dX5_countOnLevel_12 rfl ?_
      refine G_get (k := 1) dX5_countOnLevel_13 (cTree ht) rfl wfl_X5_23 (by decide) rfl ?_
      refine G_iload_n dX5_countOnLevel_16 rfl ?_
      refine G_cVi (As := [_]) dX5_countOnLevel_17 kV_X3_at wml_X5_48 (sp_X3_at (tLevel ht)) rfl (cRow (tLevel ht)) rfl rfl rfl (by decide) ⟨Nat.le_refl 0, Nat.le_refl 0⟩ (Nat.le_of_ble_eq_true rfl) ?_
      refine G_iload_n dX5_countOnLevel_20 rfl ?_
      refine G_icmp_ne (tgt := 27) dX5_countOnLevel_21 (by decide) (fun c_21 => ?_) (fun c_21 => ?_)
      · refine GS_iinc (v := 1) (L' := [(3, _), (2, _), (0, _), (1, _)]) dX5_countOnLevel_27 rfl (by decide) (by decide) rfl ?_
        refine G_goto (tgt := 4) dX5_countOnLevel_30 (by decide) ?_
        refine G_sub [0, 1, 2, 3] rfl ?_
        rw [nI_1 j]
        first
          | (rw [rat_nI hj8 (by decide)] at c_21; have e : (onLv S t level) j = false := decide_eq_false c_21; rw [cnt_f e] at q; exact q)
          | (rw [rat_nI hj8 (by decide)] at c_21; have e : (onLv S t level) j = true := decide_eq_true c_21; rw [cnt_t e] at q; rw [nI_1]; exact q)
      · refine GS_iinc (v := 1) (L' := [(2, _), (3, _), (0, _), (1, _)]) dX5_countOnLevel_24 rfl (by decide) (by decide) rfl ?_
        refine GS_iinc (v := 1) (L' := [(3, _), (2, _), (0, _), (1, _)]) dX5_countOnLevel_27 rfl (by decide) (by decide) rfl ?_
        refine G_goto (tgt := 4) dX5_countOnLevel_30 (by decide) ?_
        refine G_sub [0, 1, 2, 3] rfl ?_
        rw [nI_1 j]
        first
          | (rw [rat_nI hj8 (by decide)] at c_21; have e : (onLv S t level) j = false := decide_eq_false c_21; rw [cnt_f e] at q; exact q)
          | (rw [rat_nI hj8 (by decide)] at c_21; have e : (onLv S t level) j = true := decide_eq_true c_21; rw [cnt_t e] at q; rw [nI_1]; exact q)
set_option maxHeartbeats 200000 in
theorem sp_X5_countOnLevel (ht : isTree ly t) (hN : tN S t = nI N) (hN2 : N ≤ 1205) {level : Int32} : Sp K MX5_countOnLevel 6 0 0 [.ref t, .int level] (hp ly S) (fun v u => v = some (.int (nI (cnt (onLv S t level) N))) ∧ u = hp ly S) noX := by
  refine Sp_of (by decide) (Nat.le_of_ble_eq_true rfl) ?_
  refine G_iconst (v := 0) dX5_countOnLevel_0 (by decide) ?_
  refine GS_istore_n (L' := [(2, _), (0, _), (1, _)]) dX5_countOnLevel_1 (by decide) rfl ?_
  refine G_iconst (v := 0) dX5_countOnLevel_2 (by decide) ?_
  refine GS_istore_n (L' := [(3, _), (2, _), (0, _), (1, _)]) dX5_countOnLevel_3 (by decide) rfl ?_
  refine G_sub [0, 1, 2, 3] rfl ?_
  exact lp_X5_countOnLevel ht hN hN2 N 0 (by omega)
set_option maxHeartbeats 200000 in
theorem lp_X5_countVisited (ht : isTree ly t) (hN : tN S t = nI N) (hN2 : N ≤ 1205) {x y w h far : Int32} : ∀ m j, j + m = N → G K MX5_countVisited 8 0 0 0 0 6 [(7, .int (nI j)), (6, .int (nI (cnt (visP S t x y w h far) j))), (0, .ref t), (1, .int x), (2, .int y), (3, .int w), (4, .int h), (5, .int far)] [] (hp ly S) (QcP K (fun v u => v = some (.int (nI (cnt (visP S t x y w h far) N))) ∧ u = hp ly S)) (XcP K noX) := by
  intro m
  induction m with
  | zero =>
    intro j hj
    obtain rfl : j = N := by omega
    refine G_iload dX5_countVisited_6 rfl ?_
    refine G_aload_n dX5_countVisited_8 rfl ?_
    refine G_get (k := 8) dX5_countVisited_9 (cTree ht) rfl wfl_X5_52 (by decide) rfl ?_
    rw [show S.2.1 t 8 = nI j from hN]
    refine G_icmp_ge (tgt := 43) dX5_countVisited_12 (by decide) (fun c_12 => ?_) (fun c_12 => ?_)
    · refine G_iload dX5_countVisited_43 rfl ?_
      exact G_iret dX5_countVisited_45 rfl rfl ⟨Nat.le_refl 0, Nat.le_refl 0⟩ ⟨rfl, rfl⟩
    · exact absurd (nI_le (Nat.le_refl _) (by omega)) c_12
  | succ m ih =>
    intro j hj
    have hj8 : j < 1205 := by omega
    have q := ih (j + 1) (by omega)
    refine G_iload dX5_countVisited_6 rfl ?_
    refine G_aload_n dX5_countVisited_8 rfl ?_
    refine G_get (k := 8) dX5_countVisited_9 (cTree ht) rfl wfl_X5_52 (by decide) rfl ?_
    rw [show S.2.1 t 8 = nI N from hN]
    refine G_icmp_ge (tgt := 43) dX5_countVisited_12 (by decide) (fun c_12 => ?_) (fun c_12 => ?_)
    · exact absurd c_12 (nI_ge (show j < N by omega) (by omega))
    · refine G_aload_n dX5_countVisited_15 rfl ?_
      refine G_get (k := 0) dX5_countVisited_16 (cTree ht) rfl wfl_X5_14 (by decide) rfl ?_
      refine G_iload dX5_countVisited_19 rfl ?_
      refine G_iload_n dX5_countVisited_21 rfl ?_
      refine G_iload_n dX5_countVisited_22 rfl ?_
      refine G_iload_n dX5_countVisited_23 rfl ?_
      refine G_iload dX5_countVisited_24 rfl ?_
      refine G_cVi (As := [_, _, _, _, _]) dX5_countVisited_26 kV_X0_farFrom wml_X5_56 (sp_X0_farFrom (bTree ht)) rfl (cBox (bTree ht)) rfl rfl rfl (by decide) ⟨Nat.le_refl 0, Nat.le_refl 0⟩ (Nat.le_of_ble_eq_true rfl) ?_
      refine G_iload dX5_countVisited_29 rfl ?_
      refine G_icmp_gt (tgt := 37) dX5_countVisited_31 (by decide) (fun c_31 => ?_) (fun c_31 => ?_)
      · refine GS_iinc (v := 1) (L' := [(7, _), (6, _), (0, _), (1, _), (2, _), (3, _), (4, _), (5, _)]) dX5_countVisited_37 rfl (by decide) (by decide) rfl ?_
        refine G_goto (tgt := 6) dX5_countVisited_40 (by decide) ?_
        refine G_sub [0, 1, 2, 3, 4, 5, 6, 7] rfl ?_
        rw [nI_1 j]
        first
          | (have e : (visP S t x y w h far) j = false := le_f c_31; rw [cnt_f e] at q; exact q)
          | (have e : (visP S t x y w h far) j = true := le_t c_31; rw [cnt_t e] at q; rw [nI_1]; exact q)
      · refine GS_iinc (v := 1) (L' := [(6, _), (7, _), (0, _), (1, _), (2, _), (3, _), (4, _), (5, _)]) dX5_countVisited_34 rfl (by decide) (by decide) rfl ?_
        refine GS_iinc (v := 1) (L' := [(7, _), (6, _), (0, _), (1, _), (2, _), (3, _), (4, _), (5, _)]) dX5_countVisited_37 rfl (by decide) (by decide) rfl ?_
        refine G_goto (tgt := 6) dX5_countVisited_40 (by decide) ?_
        refine G_sub [0, 1, 2, 3, 4, 5, 6, 7] rfl ?_
        rw [nI_1 j]
        first
          | (have e : (visP S t x y w h far) j = false := le_f c_31; rw [cnt_f e] at q; exact q)
          | (have e : (visP S t x y w h far) j = true := le_t c_31; rw [cnt_t e] at q; rw [nI_1]; exact q)
set_option maxHeartbeats 200000 in
theorem sp_X5_countVisited (ht : isTree ly t) (hN : tN S t = nI N) (hN2 : N ≤ 1205) {x y w h far : Int32} : Sp K MX5_countVisited 8 0 0 [.ref t, .int x, .int y, .int w, .int h, .int far] (hp ly S) (fun v u => v = some (.int (nI (cnt (visP S t x y w h far) N))) ∧ u = hp ly S) noX := by
  refine Sp_of (by decide) (Nat.le_of_ble_eq_true rfl) ?_
  refine G_iconst (v := 0) dX5_countVisited_0 (by decide) ?_
  refine GS_istore (L' := [(6, _), (0, _), (1, _), (2, _), (3, _), (4, _), (5, _)]) dX5_countVisited_1 (by decide) rfl ?_
  refine G_iconst (v := 0) dX5_countVisited_3 (by decide) ?_
  refine GS_istore (L' := [(7, _), (6, _), (0, _), (1, _), (2, _), (3, _), (4, _), (5, _)]) dX5_countVisited_4 (by decide) rfl ?_
  refine G_sub [0, 1, 2, 3, 4, 5, 6, 7] rfl ?_
  exact lp_X5_countVisited ht hN hN2 N 0 (by omega)
set_option maxHeartbeats 200000 in
theorem sp_X5_firstOnLevel (ht : isTree ly t) {level : Int32} (h : tN S t = 0 ∨ level ≤ tLv S t 0) : Sp K MX5_firstOnLevel 6 0 0 [.ref t, .int level] (hp ly S) (fun v u => v = some (.int 0) ∧ u = hp ly S) noX := by
  refine Sp_of (by decide) (Nat.le_of_ble_eq_true rfl) ?_
  refine G_iconst (v := 0) dX5_firstOnLevel_0 (by decide) ?_
  refine GS_istore_n (L' := [(2, _), (0, _), (1, _)]) dX5_firstOnLevel_1 (by decide) rfl ?_
  refine G_iload_n dX5_firstOnLevel_2 rfl ?_
  refine G_aload_n dX5_firstOnLevel_3 rfl ?_
  refine G_get (k := 8) dX5_firstOnLevel_4 (cTree ht) rfl wfl_X5_52 (by decide) rfl ?_
  refine G_icmp_ge (tgt := 28) dX5_firstOnLevel_7 (by decide) (fun c_7 => ?_) (fun c_7 => ?_)
  · refine G_iload_n dX5_firstOnLevel_28 rfl ?_
    exact G_iret dX5_firstOnLevel_29 rfl rfl ⟨Nat.le_refl 0, Nat.le_refl 0⟩ ⟨rfl, rfl⟩
  · refine G_aload_n dX5_firstOnLevel_10 rfl ?_
    refine G_get (k := 1) dX5_firstOnLevel_11 (cTree ht) rfl wfl_X5_23 (by decide) rfl ?_
    refine G_iload_n dX5_firstOnLevel_14 rfl ?_
    refine G_cVi (As := [_]) dX5_firstOnLevel_15 kV_X3_at wml_X5_48 (sp_X3_at (tLevel ht)) rfl (cRow (tLevel ht)) rfl rfl rfl (by decide) ⟨Nat.le_refl 0, Nat.le_refl 0⟩ (Nat.le_of_ble_eq_true rfl) ?_
    refine G_iload_n dX5_firstOnLevel_18 rfl ?_
    refine G_icmp_ge (tgt := 28) dX5_firstOnLevel_19 (by decide) (fun c_19 => ?_) (fun c_19 => ?_)
    · refine G_iload_n dX5_firstOnLevel_28 rfl ?_
      exact G_iret dX5_firstOnLevel_29 rfl rfl ⟨Nat.le_refl 0, Nat.le_refl 0⟩ ⟨rfl, rfl⟩
    · exact absurd (h.resolve_left (fun q => c_7 (by rw [show S.2.1 t 8 = 0 from q]; exact Int32.le_refl 0))) (fun q => c_19 (by rw [show (0 : Int32) = nI 0 from rfl, rat_nI (by decide) (by decide)]; exact q))
set_option maxHeartbeats 200000 in
theorem sp_X5_fell (ht : isTree ly t) : Sp K MX5_fell 6 0 0 [.ref t] (hp ly S) (fun v u => v = none ∧ u = hp ly (fellS S t)) noX := by
  refine Sp_of (by decide) (Nat.le_of_ble_eq_true rfl) ?_
  refine G_aload_n dX5_fell_0 rfl ?_
  refine G_iconst (v := 0) dX5_fell_1 (by decide) ?_
  refine G_setI (k := 8) dX5_fell_2 (sTree ht).1 (sTree ht).2.1 (sTree ht).2.2 rfl rfl wfl_X5_52 (by decide) rfl rfl ?_
  refine G_aload_n dX5_fell_5 rfl ?_
  refine G_iconst (v := 0) dX5_fell_6 (by decide) ?_
  refine G_setI (k := 9) dX5_fell_7 (sTree ht).1 (sTree ht).2.1 (sTree ht).2.2 rfl rfl wfl_X5_60 (by decide) rfl rfl ?_
  refine G_aload_n dX5_fell_10 rfl ?_
  refine G_get (k := 6) dX5_fell_11 (cTree ht) rfl wfl_X5_39 (by decide) rfl ?_
  refine G_iconst (v := (-1)) dX5_fell_14 (by decide) ?_
  refine G_cVv (As := [_]) dX5_fell_15 kV_X3_fill wml_X5_45 (sp_X3_fill (tHome ht)) rfl (cRow (tHome ht)) rfl rfl rfl (by decide) ⟨Nat.le_refl 0, Nat.le_refl 0⟩ (Nat.le_of_ble_eq_true rfl) ?_
  exact G_vret dX5_fell_18 rfl ⟨Nat.le_refl 0, Nat.le_refl 0⟩ ⟨rfl, rfl⟩
set_option maxHeartbeats 200000 in
theorem sp_X5_addNode (ht : isTree ly t) {level : Int32} : Sp K MX5_addNode 6 0 0 [.ref t, .int level] (hp ly S) (fun v u => v = some (.int (tN S t)) ∧ u = hp ly (addNS S t level)) noX := by
  refine Sp_of (by decide) (Nat.le_of_ble_eq_true rfl) ?_
  refine G_aload_n dX5_addNode_0 rfl ?_
  refine G_get (k := 8) dX5_addNode_1 (cTree ht) rfl wfl_X5_52 (by decide) rfl ?_
  refine GS_istore_n (L' := [(2, _), (0, _), (1, _)]) dX5_addNode_4 (by decide) rfl ?_
  refine G_aload_n dX5_addNode_5 rfl ?_
  refine G_get (k := 1) dX5_addNode_6 (cTree ht) rfl wfl_X5_23 (by decide) rfl ?_
  refine G_iload_n dX5_addNode_9 rfl ?_
  refine G_iload_n dX5_addNode_10 rfl ?_
  refine G_cVv (As := [_, _]) dX5_addNode_11 kV_X3_put wml_X5_87 (sp_X3_put (tLevel ht)) rfl (cRow (tLevel ht)) rfl rfl rfl (by decide) ⟨Nat.le_refl 0, Nat.le_refl 0⟩ (Nat.le_of_ble_eq_true rfl) ?_
  refine G_aload_n dX5_addNode_14 rfl ?_
  refine G_get (k := 2) dX5_addNode_15 (cTree ht) rfl wfl_X5_27 (by decide) rfl ?_
  refine G_iload_n dX5_addNode_18 rfl ?_
  refine G_iconst (v := 0) dX5_addNode_19 (by decide) ?_
  refine G_cVv (As := [_, _]) dX5_addNode_20 kV_X3_put wml_X5_87 (sp_X3_put (tHeld ht)) rfl (cRow (tHeld ht)) rfl rfl rfl (by decide) ⟨Nat.le_refl 0, Nat.le_refl 0⟩ (Nat.le_of_ble_eq_true rfl) ?_
  refine G_aload_n dX5_addNode_23 rfl ?_
  refine G_get (k := 4) dX5_addNode_24 (cTree ht) rfl wfl_X5_33 (by decide) rfl ?_
  refine G_iload_n dX5_addNode_27 rfl ?_
  refine G_iconst (v := 0) dX5_addNode_28 (by decide) ?_
  refine G_cVv (As := [_, _]) dX5_addNode_29 kV_X3_put wml_X5_87 (sp_X3_put (tCount ht)) rfl (cRow (tCount ht)) rfl rfl rfl (by decide) ⟨Nat.le_refl 0, Nat.le_refl 0⟩ (Nat.le_of_ble_eq_true rfl) ?_
  refine G_aload_n dX5_addNode_32 rfl ?_
  refine G_dup dX5_addNode_33 rfl ?_
  refine G_get (k := 8) dX5_addNode_34 (cTree ht) rfl wfl_X5_52 (by decide) rfl ?_
  refine G_iconst (v := 1) dX5_addNode_37 (by decide) ?_
  refine G_iadd dX5_addNode_38 ?_
  refine G_setI (k := 8) dX5_addNode_39 (sTree ht).1 (sTree ht).2.1 (sTree ht).2.2 rfl rfl wfl_X5_52 (by decide) rfl rfl ?_
  refine G_iload_n dX5_addNode_42 rfl ?_
  exact G_iret dX5_addNode_43 rfl rfl ⟨Nat.le_refl 0, Nat.le_refl 0⟩ ⟨rfl, by unfold addNS tLv tHd tCt; (simp (disch := omega) only [setR_ne, Nat.add_assoc, Nat.reduceAdd]) <;> rfl⟩
set_option maxHeartbeats 200000 in
theorem sp_X5_settle (ht : isTree ly t) {k a : Int32} : Sp K MX5_settle 6 0 0 [.ref t, .int k, .int a] (hp ly S) (fun v u => v = none ∧ u = hp ly (settS S t k a)) noX := by
  refine Sp_of (by decide) (Nat.le_of_ble_eq_true rfl) ?_
  refine G_aload_n dX5_settle_0 rfl ?_
  refine G_get (k := 6) dX5_settle_1 (cTree ht) rfl wfl_X5_39 (by decide) rfl ?_
  refine G_iload_n dX5_settle_4 rfl ?_
  refine G_iload_n dX5_settle_5 rfl ?_
  refine G_cVv (As := [_, _]) dX5_settle_6 kV_X3_put wml_X5_87 (sp_X3_put (tHome ht)) rfl (cRow (tHome ht)) rfl rfl rfl (by decide) ⟨Nat.le_refl 0, Nat.le_refl 0⟩ (Nat.le_of_ble_eq_true rfl) ?_
  refine G_aload_n dX5_settle_9 rfl ?_
  refine G_get (k := 2) dX5_settle_10 (cTree ht) rfl wfl_X5_27 (by decide) rfl ?_
  refine G_iload_n dX5_settle_13 rfl ?_
  refine G_iconst (v := 1) dX5_settle_14 (by decide) ?_
  refine G_cVv (As := [_, _]) dX5_settle_15 kV_X3_addTo wml_X5_91 (sp_X3_addTo (tHeld ht)) rfl (cRow (tHeld ht)) rfl rfl rfl (by decide) ⟨Nat.le_refl 0, Nat.le_refl 0⟩ (Nat.le_of_ble_eq_true rfl) ?_
  exact G_vret dX5_settle_18 rfl ⟨Nat.le_refl 0, Nat.le_refl 0⟩ ⟨rfl, by unfold settS tHm tHd; (simp (disch := omega) only [setR_ne, Nat.add_assoc, Nat.reduceAdd]) <;> rfl⟩
set_option maxHeartbeats 200000 in
theorem sp_X5_copyBox (ht : isTree ly t) {b n : Nat} (hb : isBoxes ly b n) {i j : Int32} : Sp K MX5_copyBox 6 0 0 [.ref t, .int i, .ref b, .int j] (hp ly S) (fun v u => v = none ∧ u = hp ly (bput S (t + 1) 1205 i (bX S b n j) (bY S b n j) (bW S b n j) (bH S b n j))) noX := by
  refine Sp_of (by decide) (Nat.le_of_ble_eq_true rfl) ?_
  refine G_aload_n dX5_copyBox_0 rfl ?_
  refine G_get (k := 0) dX5_copyBox_1 (cTree ht) rfl wfl_X5_14 (by decide) rfl ?_
  refine G_iload_n dX5_copyBox_4 rfl ?_
  refine G_aload_n dX5_copyBox_5 rfl ?_
  refine G_getN (k := 0) dX5_copyBox_6 (cBox hb) rfl wfn_X5_78 (by decide) rfl ?_
  refine G_iload_n dX5_copyBox_9 rfl ?_
  refine G_cVi (As := [_]) dX5_copyBox_10 kV_X3_at wml_X5_48 (sp_X3_at hb.2.2.2.1) rfl (cRow hb.2.2.2.1) rfl rfl rfl (by decide) ⟨Nat.le_refl 0, Nat.le_refl 0⟩ (Nat.le_of_ble_eq_true rfl) ?_
  refine G_aload_n dX5_copyBox_13 rfl ?_
  refine G_getN (k := 1) dX5_copyBox_14 (cBox hb) rfl wfn_X5_81 (by decide) rfl ?_
  refine G_iload_n dX5_copyBox_17 rfl ?_
  refine G_cVi (As := [_]) dX5_copyBox_18 kV_X3_at wml_X5_48 (sp_X3_at hb.2.2.2.2.1) rfl (cRow hb.2.2.2.2.1) rfl rfl rfl (by decide) ⟨Nat.le_refl 0, Nat.le_refl 0⟩ (Nat.le_of_ble_eq_true rfl) ?_
  refine G_aload_n dX5_copyBox_21 rfl ?_
  refine G_getN (k := 2) dX5_copyBox_22 (cBox hb) rfl wfn_X5_84 (by decide) rfl ?_
  refine G_iload_n dX5_copyBox_25 rfl ?_
  refine G_cVi (As := [_]) dX5_copyBox_26 kV_X3_at wml_X5_48 (sp_X3_at hb.2.2.2.2.2.1) rfl (cRow hb.2.2.2.2.2.1) rfl rfl rfl (by decide) ⟨Nat.le_refl 0, Nat.le_refl 0⟩ (Nat.le_of_ble_eq_true rfl) ?_
  refine G_aload_n dX5_copyBox_29 rfl ?_
  refine G_getN (k := 3) dX5_copyBox_30 (cBox hb) rfl wfn_X5_158 (by decide) rfl ?_
  refine G_iload_n dX5_copyBox_33 rfl ?_
  refine G_cVi (As := [_]) dX5_copyBox_34 kV_X3_at wml_X5_48 (sp_X3_at hb.2.2.2.2.2.2) rfl (cRow hb.2.2.2.2.2.2) rfl rfl rfl (by decide) ⟨Nat.le_refl 0, Nat.le_refl 0⟩ (Nat.le_of_ble_eq_true rfl) ?_
  refine G_cVv (As := [_, _, _, _, _]) dX5_copyBox_37 kV_X0_put wml_X5_100 (sp_X0_put (bTree ht)) rfl (cBox (bTree ht)) rfl rfl rfl (by decide) ⟨Nat.le_refl 0, Nat.le_refl 0⟩ (Nat.le_of_ble_eq_true rfl) ?_
  exact G_vret dX5_copyBox_40 rfl ⟨Nat.le_refl 0, Nat.le_refl 0⟩ ⟨rfl, rfl⟩
def strS (S : St) (b n : Nat) (i : Int32) (b' n' : Nat) (j : Int32) : St :=
  bput S b n i (mn (bX S b n i) (bX S b' n' j)) (mn (bY S b n i) (bY S b' n' j)) (mx (bX S b n i + bW S b n i) (bX S b' n' j + bW S b' n' j) - mn (bX S b n i) (bX S b' n' j)) (mx (bY S b n i + bH S b n i) (bY S b' n' j + bH S b' n' j) - mn (bY S b n i) (bY S b' n' j))
set_option maxHeartbeats 200000 in
theorem sp_X0_stretchOver {b n b' n' : Nat} (hb : isBoxes ly b n) (hb' : isBoxes ly b' n') {i j : Int32} : Sp K MX0_stretchOver 6 0 0 [.ref b, .int i, .ref b', .int j] (hp ly S) (fun v u => v = none ∧ u = hp ly (strS S b n i b' n' j)) noX := by
  refine Sp_of (by decide) (Nat.le_of_ble_eq_true rfl) ?_
  refine G_aload_n dX0_stretchOver_0 rfl ?_
  refine G_get (k := 0) dX0_stretchOver_1 (cBox hb) rfl wfl_X0_12 (by decide) rfl ?_
  refine G_iload_n dX0_stretchOver_4 rfl ?_
  refine G_cVi (As := [_]) dX0_stretchOver_5 kV_X3_at wml_X0_31 (sp_X3_at hb.2.2.2.1) rfl (cRow hb.2.2.2.1) rfl rfl rfl (by decide) ⟨Nat.le_refl 0, Nat.le_refl 0⟩ (Nat.le_of_ble_eq_true rfl) ?_
  refine G_aload_n dX0_stretchOver_8 rfl ?_
  refine G_get (k := 0) dX0_stretchOver_9 (cBox hb') rfl wfl_X0_12 (by decide) rfl ?_
  refine G_iload_n dX0_stretchOver_12 rfl ?_
  refine G_cVi (As := [_]) dX0_stretchOver_13 kV_X3_at wml_X0_31 (sp_X3_at hb'.2.2.2.1) rfl (cRow hb'.2.2.2.1) rfl rfl rfl (by decide) ⟨Nat.le_refl 0, Nat.le_refl 0⟩ (Nat.le_of_ble_eq_true rfl) ?_
  refine G_min dX0_stretchOver_16 wml_X0_49 (by decide) ⟨Nat.le_refl 0, Nat.le_refl 0⟩ (Nat.le_of_ble_eq_true rfl) ?_
  refine GS_istore (L' := [(4, _), (0, _), (1, _), (2, _), (3, _)]) dX0_stretchOver_19 (by decide) rfl ?_
  refine G_aload_n dX0_stretchOver_21 rfl ?_
  refine G_get (k := 1) dX0_stretchOver_22 (cBox hb) rfl wfl_X0_18 (by decide) rfl ?_
  refine G_iload_n dX0_stretchOver_25 rfl ?_
  refine G_cVi (As := [_]) dX0_stretchOver_26 kV_X3_at wml_X0_31 (sp_X3_at hb.2.2.2.2.1) rfl (cRow hb.2.2.2.2.1) rfl rfl rfl (by decide) ⟨Nat.le_refl 0, Nat.le_refl 0⟩ (Nat.le_of_ble_eq_true rfl) ?_
  refine G_aload_n dX0_stretchOver_29 rfl ?_
  refine G_get (k := 1) dX0_stretchOver_30 (cBox hb') rfl wfl_X0_18 (by decide) rfl ?_
  refine G_iload_n dX0_stretchOver_33 rfl ?_
  refine G_cVi (As := [_]) dX0_stretchOver_34 kV_X3_at wml_X0_31 (sp_X3_at hb'.2.2.2.2.1) rfl (cRow hb'.2.2.2.2.1) rfl rfl rfl (by decide) ⟨Nat.le_refl 0, Nat.le_refl 0⟩ (Nat.le_of_ble_eq_true rfl) ?_
  refine G_min dX0_stretchOver_37 wml_X0_49 (by decide) ⟨Nat.le_refl 0, Nat.le_refl 0⟩ (Nat.le_of_ble_eq_true rfl) ?_
  refine GS_istore (L' := [(5, _), (4, _), (0, _), (1, _), (2, _), (3, _)]) dX0_stretchOver_40 (by decide) rfl ?_
  refine G_aload_n dX0_stretchOver_42 rfl ?_
  refine G_get (k := 0) dX0_stretchOver_43 (cBox hb) rfl wfl_X0_12 (by decide) rfl ?_
  refine G_iload_n dX0_stretchOver_46 rfl ?_
  refine G_cVi (As := [_]) dX0_stretchOver_47 kV_X3_at wml_X0_31 (sp_X3_at hb.2.2.2.1) rfl (cRow hb.2.2.2.1) rfl rfl rfl (by decide) ⟨Nat.le_refl 0, Nat.le_refl 0⟩ (Nat.le_of_ble_eq_true rfl) ?_
  refine G_aload_n dX0_stretchOver_50 rfl ?_
  refine G_get (k := 2) dX0_stretchOver_51 (cBox hb) rfl wfl_X0_21 (by decide) rfl ?_
  refine G_iload_n dX0_stretchOver_54 rfl ?_
  refine G_cVi (As := [_]) dX0_stretchOver_55 kV_X3_at wml_X0_31 (sp_X3_at hb.2.2.2.2.2.1) rfl (cRow hb.2.2.2.2.2.1) rfl rfl rfl (by decide) ⟨Nat.le_refl 0, Nat.le_refl 0⟩ (Nat.le_of_ble_eq_true rfl) ?_
  refine G_iadd dX0_stretchOver_58 ?_
  refine G_aload_n dX0_stretchOver_59 rfl ?_
  refine G_get (k := 0) dX0_stretchOver_60 (cBox hb') rfl wfl_X0_12 (by decide) rfl ?_
  refine G_iload_n dX0_stretchOver_63 rfl ?_
  refine G_cVi (As := [_]) dX0_stretchOver_64 kV_X3_at wml_X0_31 (sp_X3_at hb'.2.2.2.1) rfl (cRow hb'.2.2.2.1) rfl rfl rfl (by decide) ⟨Nat.le_refl 0, Nat.le_refl 0⟩ (Nat.le_of_ble_eq_true rfl) ?_
  refine G_aload_n dX0_stretchOver_67 rfl ?_
  refine G_get (k := 2) dX0_stretchOver_68 (cBox hb') rfl wfl_X0_21 (by decide) rfl ?_
  refine G_iload_n dX0_stretchOver_71 rfl ?_
  refine G_cVi (As := [_]) dX0_stretchOver_72 kV_X3_at wml_X0_31 (sp_X3_at hb'.2.2.2.2.2.1) rfl (cRow hb'.2.2.2.2.2.1) rfl rfl rfl (by decide) ⟨Nat.le_refl 0, Nat.le_refl 0⟩ (Nat.le_of_ble_eq_true rfl) ?_
  refine G_iadd dX0_stretchOver_75 ?_
  refine G_max dX0_stretchOver_76 wml_X0_43 (by decide) ⟨Nat.le_refl 0, Nat.le_refl 0⟩ (Nat.le_of_ble_eq_true rfl) ?_
  refine GS_istore (L' := [(6, _), (5, _), (4, _), (0, _), (1, _), (2, _), (3, _)]) dX0_stretchOver_79 (by decide) rfl ?_
  refine G_aload_n dX0_stretchOver_81 rfl ?_
  refine G_get (k := 1) dX0_stretchOver_82 (cBox hb) rfl wfl_X0_18 (by decide) rfl ?_
  refine G_iload_n dX0_stretchOver_85 rfl ?_
  refine G_cVi (As := [_]) dX0_stretchOver_86 kV_X3_at wml_X0_31 (sp_X3_at hb.2.2.2.2.1) rfl (cRow hb.2.2.2.2.1) rfl rfl rfl (by decide) ⟨Nat.le_refl 0, Nat.le_refl 0⟩ (Nat.le_of_ble_eq_true rfl) ?_
  refine G_aload_n dX0_stretchOver_89 rfl ?_
  refine G_get (k := 3) dX0_stretchOver_90 (cBox hb) rfl wfl_X0_24 (by decide) rfl ?_
  refine G_iload_n dX0_stretchOver_93 rfl ?_
  refine G_cVi (As := [_]) dX0_stretchOver_94 kV_X3_at wml_X0_31 (sp_X3_at hb.2.2.2.2.2.2) rfl (cRow hb.2.2.2.2.2.2) rfl rfl rfl (by decide) ⟨Nat.le_refl 0, Nat.le_refl 0⟩ (Nat.le_of_ble_eq_true rfl) ?_
  refine G_iadd dX0_stretchOver_97 ?_
  refine G_aload_n dX0_stretchOver_98 rfl ?_
  refine G_get (k := 1) dX0_stretchOver_99 (cBox hb') rfl wfl_X0_18 (by decide) rfl ?_
  refine G_iload_n dX0_stretchOver_102 rfl ?_
  refine G_cVi (As := [_]) dX0_stretchOver_103 kV_X3_at wml_X0_31 (sp_X3_at hb'.2.2.2.2.1) rfl (cRow hb'.2.2.2.2.1) rfl rfl rfl (by decide) ⟨Nat.le_refl 0, Nat.le_refl 0⟩ (Nat.le_of_ble_eq_true rfl) ?_
  refine G_aload_n dX0_stretchOver_106 rfl ?_
  refine G_get (k := 3) dX0_stretchOver_107 (cBox hb') rfl wfl_X0_24 (by decide) rfl ?_
  refine G_iload_n dX0_stretchOver_110 rfl ?_
  refine G_cVi (As := [_]) dX0_stretchOver_111 kV_X3_at wml_X0_31 (sp_X3_at hb'.2.2.2.2.2.2) rfl (cRow hb'.2.2.2.2.2.2) rfl rfl rfl (by decide) ⟨Nat.le_refl 0, Nat.le_refl 0⟩ (Nat.le_of_ble_eq_true rfl) ?_
  refine G_iadd dX0_stretchOver_114 ?_
  refine G_max dX0_stretchOver_115 wml_X0_43 (by decide) ⟨Nat.le_refl 0, Nat.le_refl 0⟩ (Nat.le_of_ble_eq_true rfl) ?_
  refine GS_istore (L' := [(7, _), (6, _), (5, _), (4, _), (0, _), (1, _), (2, _), (3, _)]) dX0_stretchOver_118 (by decide) rfl ?_
  refine G_aload_n dX0_stretchOver_120 rfl ?_
  refine G_iload_n dX0_stretchOver_121 rfl ?_
  refine G_iload dX0_stretchOver_122 rfl ?_
  refine G_iload dX0_stretchOver_124 rfl ?_
  refine G_iload dX0_stretchOver_126 rfl ?_
  refine G_iload dX0_stretchOver_128 rfl ?_
  refine G_isub dX0_stretchOver_130 ?_
  refine G_iload dX0_stretchOver_131 rfl ?_
  refine G_iload dX0_stretchOver_133 rfl ?_
  refine G_isub dX0_stretchOver_135 ?_
  refine G_cVv (As := [_, _, _, _, _]) dX0_stretchOver_136 kV_X0_put wml_X0_52 (sp_X0_put hb) rfl (cBox hb) rfl rfl rfl (by decide) ⟨Nat.le_refl 0, Nat.le_refl 0⟩ (Nat.le_of_ble_eq_true rfl) ?_
  exact G_vret dX0_stretchOver_139 rfl ⟨Nat.le_refl 0, Nat.le_refl 0⟩ ⟨rfl, rfl⟩
end TR
