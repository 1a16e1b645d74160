/-! quarters: what split and growQuarters do, step by step -/
set_option maxHeartbeats 200000 in
theorem setI_ne {S : St} {a i b j : Nat} {x : Int32} (h : b ≠ a) : (setI S a i x).2.1 b j = S.2.1 b j := by
  show va_up S.2.1 a (va_up (S.2.1 a) i x) b j = _
  unfold va_up
  rw [if_neg h]
set_option maxHeartbeats 200000 in
theorem isTree_ne {ly t : Nat} (h : isTree ly t) : 1 ≠ t ∧ 0 ≠ t ∧ 25 ≤ t ∧ t ≤ 75 := by
  rcases h with rfl | ⟨rfl, h⟩ | ⟨rfl, h⟩ <;> omega
def qStep (S : St) (t : Nat) (q half : Int32) (j : Nat) : St :=
  let S2 := bput (addNS S t (rat (tLv S t) 1205 q + 1)) (t + 1) 1205 (tN S t) (bX S (t + 1) 1205 q + (nI j - nI j / 2 * 2) * half) (bY S (t + 1) 1205 q + nI j / 2 * half) (half - 1) (half - 1)
  setR S2 (t + 19) (rput (tBl S2 t) 1205 (tN S t) (tN S t))
def qRun (S : St) (t : Nat) (q half : Int32) (j : Nat) : St := match j with
  | 0 => S
  | j + 1 => qStep (qRun S t q half j) t q half j
def mStep (S : St) (t : Nat) (q first : Int32) (k : Nat) : St := if rat (tHm S t) 80 (nI k) = q then settS S t (nI k) (first + qtr S t q (bX S 2 80 (nI k)) (bY S 2 80 (nI k))) else S
def mRun (S : St) (t : Nat) (q first : Int32) (k : Nat) : St := match k with
  | 0 => S
  | k + 1 => mStep (mRun S t q first k) t q first k
def splS (S : St) (t : Nat) (q : Int32) (c : Nat) : St :=
  let S1 := qRun (setR S (t + 15) (rput (tFr S t) 1205 q (tN S t))) t q (halfV S t q) 4
  mRun (setR S1 (t + 17) (rput (tCt S1 t) 1205 q 4)) t q (tN S t) c
def rStep (S : St) (t : Nat) (layer : Int32) (k : Nat) : St := if isin S (nI k) layer = 0 then S else settS S t (nI k) (tR S t)
def rRun (S : St) (t : Nat) (layer : Int32) (k : Nat) : St := match k with
  | 0 => S
  | k + 1 => rStep (rRun S t layer k) t layer k
def gStep (S : St) (t c : Nat) (cap : Int32) (sq : Nat) : St := if cap < rat (tHd S t) 1205 (nI sq) ∧ 0 < halfV S t (nI sq) then splS S t (nI sq) c else S
def gRun (S : St) (t c : Nat) (cap : Int32) (f sq : Nat) : St := match f with
  | 0 => S
  | f + 1 => if nI sq < tN S t then gRun (gStep S t c cap sq) t c cap f (sq + 1) else S
def seedS (S : St) (t : Nat) : St := let S2 := setI (addNS (fellS S t) t 0) t 9 (tN (fellS S t) t)
  bput S2 (t + 1) 1205 (tR S2 t) 0 0 1023 1023
def growS (S : St) (t c : Nat) (layer cap : Int32) : St := gRun (rRun (seedS S t) t layer c) t c cap 1205 0
/-- things.count is not touched -/
abbrev tc (S : St) : Int32 := S.2.1 1 5
set_option maxHeartbeats 200000 in
theorem tc_setR {S : St} {a : Nat} {f : Nat → Int32} : tc (setR S a f) = tc S := rfl
set_option maxHeartbeats 200000 in
theorem tc_setI {S : St} {t i : Nat} {x : Int32} (h : 1 ≠ t) : tc (setI S t i x) = tc S := setI_ne h
set_option maxHeartbeats 200000 in
theorem tc_addNS {S : St} {t : Nat} {l : Int32} (h : 1 ≠ t) : tc (addNS S t l) = tc S := setI_ne h
set_option maxHeartbeats 200000 in
theorem tc_qStep {S : St} {t j : Nat} {q half : Int32} (h : 1 ≠ t) : tc (qStep S t q half j) = tc S := tc_addNS h
set_option maxHeartbeats 200000 in
theorem tc_qRun {S : St} {t : Nat} {q half : Int32} (h : 1 ≠ t) : ∀ j, tc (qRun S t q half j) = tc S := by
  intro j
  induction j with
  | zero => rfl
  | succ j ih => rw [qRun, tc_qStep h]; exact ih
set_option maxHeartbeats 200000 in
theorem tc_mRun {S : St} {t : Nat} {q first : Int32} : ∀ k, tc (mRun S t q first k) = tc S := by
  intro k
  induction k with
  | zero => rfl
  | succ k ih =>
    rw [mRun, mStep]
    split
    · exact ih
    · exact ih
set_option maxHeartbeats 200000 in
theorem tc_splS {S : St} {t c : Nat} {q : Int32} (h : 1 ≠ t) : tc (splS S t q c) = tc S := by
  unfold splS
  rw [tc_mRun, tc_setR, tc_qRun h, tc_setR]
set_option maxHeartbeats 200000 in
theorem tc_rRun {S : St} {t : Nat} {layer : Int32} : ∀ k, tc (rRun S t layer k) = tc S := by
  intro k
  induction k with
  | zero => rfl
  | succ k ih =>
    rw [rRun, rStep]
    split
    · exact ih
    · exact ih
set_option maxHeartbeats 200000 in
theorem tc_seedS {S : St} {t : Nat} (h : 1 ≠ t) : tc (seedS S t) = tc S := by
  show (setI (addNS (fellS S t) t 0) t 9 (tN (fellS S t) t)).2.1 1 5 = _
  rw [setI_ne h]
  show tc (addNS (fellS S t) t 0) = tc S
  rw [tc_addNS h]
  show tc (setI (setI S t 8 0) t 9 0) = tc S
  rw [tc_setI h, tc_setI h]
set_option maxHeartbeats 200000 in
theorem tc_gStep {S : St} {t c sq : Nat} {cap : Int32} (h : 1 ≠ t) : tc (gStep S t c cap sq) = tc S := by
  unfold gStep
  split
  · exact tc_splS h
  · rfl
section GQ
variable {K : GK} {ly : Nat} {S : St} {t c : Nat}
set_option maxHeartbeats 200000 in
theorem lp_split4 (ht : isTree ly t) {q half first : Int32} {Qc : Array Value → State → Outcome → State → Prop} {XC : String → State → State → Prop} (kk : G K MX5_split 12 0 0 0 0 123 [(4, .int first), (0, .ref t), (1, .int q), (2, .ref 1)] [] (hp ly (qRun S t q half 4)) Qc XC) : ∀ m j, j + m = 4 → G K MX5_split 12 0 0 0 0 25 [(5, .int (nI j)), (4, .int first), (3, .int half), (0, .ref t), (1, .int q), (2, .ref 1)] [] (hp ly (qRun S t q half j)) Qc XC := by
  intro m
  induction m with
  | zero =>
    intro j hj
    obtain rfl : j = 4 := by omega
    refine G_iload dX5_split_25 rfl ?_
    refine G_iconst (v := 4) dX5_split_27 (by decide) ?_
    refine G_icmp_ge (tgt := 123) dX5_split_28 (by decide) (fun c_28 => ?_) (fun c_28 => ?_)
    · refine G_sub [1, 3, 4, 5] rfl ?_
      exact kk
    · exact absurd (by decide) c_28
  | succ m ih =>
    intro j hj
    have z := ih (j + 1) (by omega)
    rw [qRun] at z
    refine G_iload dX5_split_25 rfl ?_
    refine G_iconst (v := 4) dX5_split_27 (by decide) ?_
    refine G_icmp_ge (tgt := 123) dX5_split_28 (by decide) (fun c_28 => ?_) (fun c_28 => ?_)
    · exact absurd c_28 (nI_ge (show j < 4 by omega) (by decide))
    · refine G_aload_n dX5_split_31 rfl ?_
      refine G_get (k := 0) dX5_split_32 (cTree ht) rfl wfl_X5_14 (by decide) rfl ?_
      refine G_getN (k := 0) dX5_split_35 (cBox (bTree ht)) rfl wfn_X5_78 (by decide) rfl ?_
      refine G_iload_n dX5_split_38 rfl ?_
      refine G_cVi (As := [_]) dX5_split_39 kV_X3_at wml_X5_48 (sp_X3_at (bTree ht).2.2.2.1) rfl (cRow (bTree ht).2.2.2.1) rfl rfl rfl (by decide) ⟨Nat.le_refl 0, Nat.le_refl 0⟩ (Nat.le_of_ble_eq_true rfl) ?_
      refine G_iload dX5_split_42 rfl ?_
      refine G_iconst (v := 2) dX5_split_44 (by decide) ?_
      refine G_irem dX5_split_45 (by decide) ?_
      refine G_iload_n dX5_split_46 rfl ?_
      refine G_imul dX5_split_47 ?_
      refine G_iadd dX5_split_48 ?_
      refine GS_istore (L' := [(6, _), (5, _), (4, _), (3, _), (0, _), (1, _), (2, _)]) dX5_split_49 (by decide) rfl ?_
      refine G_aload_n dX5_split_51 rfl ?_
      refine G_get (k := 0) dX5_split_52 (cTree ht) rfl wfl_X5_14 (by decide) rfl ?_
      refine G_getN (k := 1) dX5_split_55 (cBox (bTree ht)) rfl wfn_X5_81 (by decide) rfl ?_
      refine G_iload_n dX5_split_58 rfl ?_
      refine G_cVi (As := [_]) dX5_split_59 kV_X3_at wml_X5_48 (sp_X3_at (bTree ht).2.2.2.2.1) rfl (cRow (bTree ht).2.2.2.2.1) rfl rfl rfl (by decide) ⟨Nat.le_refl 0, Nat.le_refl 0⟩ (Nat.le_of_ble_eq_true rfl) ?_
      refine G_iload dX5_split_62 rfl ?_
      refine G_iconst (v := 2) dX5_split_64 (by decide) ?_
      refine G_idiv dX5_split_65 (by decide) ?_
      refine G_iload_n dX5_split_66 rfl ?_
      refine G_imul dX5_split_67 ?_
      refine G_iadd dX5_split_68 ?_
      refine GS_istore (L' := [(7, _), (6, _), (5, _), (4, _), (3, _), (0, _), (1, _), (2, _)]) dX5_split_69 (by decide) rfl ?_
      refine G_aload_n dX5_split_71 rfl ?_
      refine G_aload_n dX5_split_72 rfl ?_
      refine G_get (k := 1) dX5_split_73 (cTree ht) rfl wfl_X5_23 (by decide) rfl ?_
      refine G_iload_n dX5_split_76 rfl ?_
      refine G_cVi (As := [_]) dX5_split_77 kV_X3_at wml_X5_48 (sp_X3_at (tLevel ht)) rfl (cRow (tLevel ht)) rfl rfl rfl (by decide) ⟨Nat.le_refl 0, Nat.le_refl 0⟩ (Nat.le_of_ble_eq_true rfl) ?_
      refine G_iconst (v := 1) dX5_split_80 (by decide) ?_
      refine G_iadd dX5_split_81 ?_
      refine G_cVi (As := [_]) dX5_split_82 kV_X5_addNode wml_X5_97 (sp_X5_addNode ht) rfl (cTree ht) rfl rfl rfl (by decide) ⟨Nat.le_refl 0, Nat.le_refl 0⟩ (Nat.le_of_ble_eq_true rfl) ?_
      refine GS_istore (L' := [(8, _), (7, _), (6, _), (5, _), (4, _), (3, _), (0, _), (1, _), (2, _)]) dX5_split_85 (by decide) rfl ?_
      refine G_aload_n dX5_split_87 rfl ?_
      refine G_get (k := 0) dX5_split_88 (cTree ht) rfl wfl_X5_14 (by decide) rfl ?_
      refine G_iload dX5_split_91 rfl ?_
      refine G_iload dX5_split_93 rfl ?_
      refine G_iload dX5_split_95 rfl ?_
      refine G_iload_n dX5_split_97 rfl ?_
      refine G_iconst (v := 1) dX5_split_98 (by decide) ?_
      refine G_isub dX5_split_99 ?_
      refine G_iload_n dX5_split_100 rfl ?_
      refine G_iconst (v := 1) dX5_split_101 (by decide) ?_
      refine G_isub dX5_split_102 ?_
      refine G_cVv (As := [_, _, _, _, _]) dX5_split_103 kV_X0_put wml_X5_100 (sp_X0_put (bTree ht)) rfl (cBox (bTree ht)) rfl rfl rfl (by decide) ⟨Nat.le_refl 0, Nat.le_refl 0⟩ (Nat.le_of_ble_eq_true rfl) ?_
      refine G_aload_n dX5_split_106 rfl ?_
      refine G_get (k := 5) dX5_split_107 (cTree ht) rfl wfl_X5_36 (by decide) rfl ?_
      refine G_iload dX5_split_110 rfl ?_
      refine G_iload dX5_split_112 rfl ?_
      refine G_cVv (As := [_, _]) dX5_split_114 kV_X3_put wml_X5_87 (sp_X3_put (tBelow ht)) rfl (cRow (tBelow ht)) rfl rfl rfl (by decide) ⟨Nat.le_refl 0, Nat.le_refl 0⟩ (Nat.le_of_ble_eq_true rfl) ?_
      refine GS_iinc (v := 1) (L' := [(5, _), (8, _), (7, _), (6, _), (4, _), (3, _), (0, _), (1, _), (2, _)]) dX5_split_117 rfl (by decide) (by decide) rfl ?_
      refine G_goto (tgt := 25) dX5_split_120 (by decide) ?_
      refine G_sub [0, 4, 5, 6, 7, 8] rfl ?_
      rw [nI_1 j]
      exact z
set_option maxHeartbeats 200000 in
theorem lp_splitM (ht : isTree ly t) (hc : tc S = nI c) (h80 : c ≤ 80) {q first : Int32} {P : Option Value → VH → Prop} (hP : P none (hp ly (mRun S t q first c))) : ∀ m j, j + m = c → G K MX5_split 12 0 0 0 0 135 [(5, .int (nI j)), (4, .int first), (0, .ref t), (1, .int q), (2, .ref 1)] [] (hp ly (mRun S t q first j)) (QcP K P) (XcP K noX) := by
  intro m
  induction m with
  | zero =>
    intro j hj
    obtain rfl : j = c := by omega
    refine G_iload dX5_split_135 rfl ?_
    refine G_aload_n dX5_split_137 rfl ?_
    refine G_getN (k := 5) dX5_split_138 cThings rfl wfn_X5_103 (by decide) rfl ?_
    rw [show (mRun S t q first j).2.1 1 5 = nI j from (tc_mRun j).trans hc]
    refine G_icmp_ge (tgt := 201) dX5_split_141 (by decide) (fun c_141 => ?_) (fun c_141 => ?_)
    · exact G_vret dX5_split_201 rfl ⟨Nat.le_refl 0, Nat.le_refl 0⟩ hP
    · exact absurd (nI_le (Nat.le_refl _) (by omega)) c_141
  | succ m ih =>
    intro j hj
    have z := ih (j + 1) (by omega)
    rw [mRun, mStep] at z
    refine G_iload dX5_split_135 rfl ?_
    refine G_aload_n dX5_split_137 rfl ?_
    refine G_getN (k := 5) dX5_split_138 cThings rfl wfn_X5_103 (by decide) rfl ?_
    rw [show (mRun S t q first j).2.1 1 5 = nI c from (tc_mRun j).trans hc]
    refine G_icmp_ge (tgt := 201) dX5_split_141 (by decide) (fun c_141 => ?_) (fun c_141 => ?_)
    · exact absurd c_141 (nI_ge (show j < c by omega) (by omega))
    · refine G_aload_n dX5_split_144 rfl ?_
      refine G_get (k := 6) dX5_split_145 (cTree ht) rfl wfl_X5_39 (by decide) rfl ?_
      refine G_iload dX5_split_148 rfl ?_
      refine G_cVi (As := [_]) dX5_split_150 kV_X3_at wml_X5_48 (sp_X3_at (tHome ht)) rfl (cRow (tHome ht)) rfl rfl rfl (by decide) ⟨Nat.le_refl 0, Nat.le_refl 0⟩ (Nat.le_of_ble_eq_true rfl) ?_
      refine G_iload_n dX5_split_153 rfl ?_
      refine G_icmp_ne (tgt := 195) dX5_split_154 (by decide) (fun c_154 => ?_) (fun c_154 => ?_)
      · refine GS_iinc (v := 1) (L' := [(5, _), (4, _), (0, _), (1, _), (2, _)]) dX5_split_195 rfl (by decide) (by decide) rfl ?_
        refine G_goto (tgt := 135) dX5_split_198 (by decide) ?_
        refine G_sub [0, 1, 2, 3, 4] rfl ?_
        rw [nI_1 j]
        first
          | (rw [if_pos c_154] at z; exact z)
          | (rw [if_neg c_154] at z; exact z)
      · refine G_aload_n dX5_split_157 rfl ?_
        refine G_iload dX5_split_158 rfl ?_
        refine G_iload dX5_split_160 rfl ?_
        refine G_aload_n dX5_split_162 rfl ?_
        refine G_iload_n dX5_split_163 rfl ?_
        refine G_aload_n dX5_split_164 rfl ?_
        refine G_getN (k := 0) dX5_split_165 cThings rfl wfn_X5_119 (by decide) rfl ?_
        refine G_getN (k := 0) dX5_split_168 (cBox bThings) rfl wfn_X5_78 (by decide) rfl ?_
        refine G_iload dX5_split_171 rfl ?_
        refine G_cVi (As := [_]) dX5_split_173 kV_X3_at wml_X5_48 (sp_X3_at bThings.2.2.2.1) rfl (cRow bThings.2.2.2.1) rfl rfl rfl (by decide) ⟨Nat.le_refl 0, Nat.le_refl 0⟩ (Nat.le_of_ble_eq_true rfl) ?_
        refine G_aload_n dX5_split_176 rfl ?_
        refine G_getN (k := 0) dX5_split_177 cThings rfl wfn_X5_119 (by decide) rfl ?_
        refine G_getN (k := 1) dX5_split_180 (cBox bThings) rfl wfn_X5_81 (by decide) rfl ?_
        refine G_iload dX5_split_183 rfl ?_
        refine G_cVi (As := [_]) dX5_split_185 kV_X3_at wml_X5_48 (sp_X3_at bThings.2.2.2.2.1) rfl (cRow bThings.2.2.2.2.1) rfl rfl rfl (by decide) ⟨Nat.le_refl 0, Nat.le_refl 0⟩ (Nat.le_of_ble_eq_true rfl) ?_
        refine G_cVi (As := [_, _, _]) dX5_split_188 kV_X5_quarterOf wml_X5_67 (sp_X5_quarterOf ht) rfl (cTree ht) rfl rfl rfl (by decide) ⟨Nat.le_refl 0, Nat.le_refl 0⟩ (Nat.le_of_ble_eq_true rfl) ?_
        refine G_iadd dX5_split_191 ?_
        refine G_cVv (As := [_, _]) dX5_split_192 kV_X5_settle wml_X5_112 (sp_X5_settle ht) rfl (cTree ht) rfl rfl rfl (by decide) ⟨Nat.le_refl 0, Nat.le_refl 0⟩ (Nat.le_of_ble_eq_true rfl) ?_
        refine GS_iinc (v := 1) (L' := [(5, _), (4, _), (0, _), (1, _), (2, _)]) dX5_split_195 rfl (by decide) (by decide) rfl ?_
        refine G_goto (tgt := 135) dX5_split_198 (by decide) ?_
        refine G_sub [0, 1, 2, 3, 4] rfl ?_
        rw [nI_1 j]
        first
          | (rw [if_pos c_154] at z; exact z)
          | (rw [if_neg c_154] at z; exact z)
set_option maxHeartbeats 200000 in
theorem sp_X5_split (ht : isTree ly t) (hc : tc S = nI c) (h80 : c ≤ 80) {q : Int32} : Sp K MX5_split 12 0 0 [.ref t, .int q, .ref 1] (hp ly S) (fun v u => v = none ∧ u = hp ly (splS S t q c)) noX := by
  refine Sp_of (by decide) (Nat.le_of_ble_eq_true rfl) ?_
  refine G_aload_n dX5_split_0 rfl ?_
  refine G_iload_n dX5_split_1 rfl ?_
  refine G_cVi (As := [_]) dX5_split_2 kV_X5_halfSide wml_X5_75 (sp_X5_halfSide ht) rfl (cTree ht) rfl rfl rfl (by decide) ⟨Nat.le_refl 0, Nat.le_refl 0⟩ (Nat.le_of_ble_eq_true rfl) ?_
  refine GS_istore_n (L' := [(3, _), (0, _), (1, _), (2, _)]) dX5_split_5 (by decide) rfl ?_
  refine G_aload_n dX5_split_6 rfl ?_
  refine G_get (k := 8) dX5_split_7 (cTree ht) rfl wfl_X5_52 (by decide) rfl ?_
  refine GS_istore (L' := [(4, _), (3, _), (0, _), (1, _), (2, _)]) dX5_split_10 (by decide) rfl ?_
  refine G_aload_n dX5_split_12 rfl ?_
  refine G_get (k := 3) dX5_split_13 (cTree ht) rfl wfl_X5_30 (by decide) rfl ?_
  refine G_iload_n dX5_split_16 rfl ?_
  refine G_iload dX5_split_17 rfl ?_
  refine G_cVv (As := [_, _]) dX5_split_19 kV_X3_put wml_X5_87 (sp_X3_put (tFrom ht)) rfl (cRow (tFrom ht)) rfl rfl rfl (by decide) ⟨Nat.le_refl 0, Nat.le_refl 0⟩ (Nat.le_of_ble_eq_true rfl) ?_
  refine G_iconst (v := 0) dX5_split_22 (by decide) ?_
  refine GS_istore (L' := [(5, _), (4, _), (3, _), (0, _), (1, _), (2, _)]) dX5_split_23 (by decide) rfl ?_
  refine G_sub [0, 1, 2, 3, 4, 5] rfl ?_
  refine lp_split4 (S := setR S (t + 15) (rput (tFr S t) 1205 q (tN S t))) ht ?_ 4 0 (by omega)
  refine G_aload_n dX5_split_123 rfl ?_
  refine G_get (k := 4) dX5_split_124 (cTree ht) rfl wfl_X5_33 (by decide) rfl ?_
  refine G_iload_n dX5_split_127 rfl ?_
  refine G_iconst (v := 4) dX5_split_128 (by decide) ?_
  refine G_cVv (As := [_, _]) dX5_split_129 kV_X3_put wml_X5_87 (sp_X3_put (tCount ht)) rfl (cRow (tCount ht)) rfl rfl rfl (by decide) ⟨Nat.le_refl 0, Nat.le_refl 0⟩ (Nat.le_of_ble_eq_true rfl) ?_
  refine G_iconst (v := 0) dX5_split_132 (by decide) ?_
  refine GS_istore (L' := [(5, _), (4, _), (0, _), (1, _), (2, _)]) dX5_split_133 (by decide) rfl ?_
  refine G_sub [0, 1, 2, 3, 4] rfl ?_
  have z := lp_splitM (K := K) (ly := ly) (c := c) (S := setR (qRun (setR S (t + 15) (rput (tFr S t) 1205 q (tN S t))) t q (halfV S t q) 4) (t + 17) (rput (tCt (qRun (setR S (t + 15) (rput (tFr S t) 1205 q (tN S t))) t q (halfV S t q) 4) t) 1205 q 4)) ht (by rw [tc_setR, tc_qRun (isTree_ne ht).1, tc_setR]; exact hc) h80 (q := q) (first := tN S t) (P := fun v u => v = none ∧ u = hp ly (splS S t q c)) ⟨rfl, rfl⟩ c 0 (by omega)
  exact z
set_option maxHeartbeats 200000 in
theorem lp_growR (ht : isTree ly t) (hc : tc S = nI c) (h80 : c ≤ 80) {layer cap : Int32} {Qc : Array Value → State → Outcome → State → Prop} {XC : String → State → State → Prop} (kk : G K MX5_growQuarters 14 0 0 0 0 70 [(0, .ref t), (1, .ref 1), (2, .int layer), (3, .int cap)] [] (hp ly (rRun S t layer c)) Qc XC) : ∀ m j, j + m = c → G K MX5_growQuarters 14 0 0 0 0 35 [(4, .int (nI j)), (0, .ref t), (1, .ref 1), (2, .int layer), (3, .int cap)] [] (hp ly (rRun S t layer j)) Qc XC := by
  intro m
  induction m with
  | zero =>
    intro j hj
    obtain rfl : j = c := by omega
    refine G_iload dX5_growQuarters_35 rfl ?_
    refine G_aload_n dX5_growQuarters_37 rfl ?_
    refine G_getN (k := 5) dX5_growQuarters_38 cThings rfl wfn_X5_103 (by decide) rfl ?_
    rw [show (rRun S t layer j).2.1 1 5 = nI j from (tc_rRun j).trans hc]
    refine G_icmp_ge (tgt := 70) dX5_growQuarters_41 (by decide) (fun c_41 => ?_) (fun c_41 => ?_)
    · refine G_sub [1, 2, 3, 4] rfl ?_
      exact kk
    · exact absurd (nI_le (Nat.le_refl _) (by omega)) c_41
  | succ m ih =>
    intro j hj
    have z := ih (j + 1) (by omega)
    rw [rRun, rStep] at z
    refine G_iload dX5_growQuarters_35 rfl ?_
    refine G_aload_n dX5_growQuarters_37 rfl ?_
    refine G_getN (k := 5) dX5_growQuarters_38 cThings rfl wfn_X5_103 (by decide) rfl ?_
    rw [show (rRun S t layer j).2.1 1 5 = nI c from (tc_rRun j).trans hc]
    refine G_icmp_ge (tgt := 70) dX5_growQuarters_41 (by decide) (fun c_41 => ?_) (fun c_41 => ?_)
    · exact absurd c_41 (nI_ge (show j < c by omega) (by omega))
    · refine G_aload_n dX5_growQuarters_44 rfl ?_
      refine G_iload dX5_growQuarters_45 rfl ?_
      refine G_iload_n dX5_growQuarters_47 rfl ?_
      refine G_cVi (As := [_, _]) dX5_growQuarters_48 kV_X4_isIn wml_X5_108 sp_X4_isIn rfl cThings rfl rfl rfl (by decide) ⟨Nat.le_refl 0, Nat.le_refl 0⟩ (Nat.le_of_ble_eq_true rfl) ?_
      refine G_if_eq (tgt := 64) dX5_growQuarters_51 (by decide) (fun c_51 => ?_) (fun c_51 => ?_)
      · refine GS_iinc (v := 1) (L' := [(4, _), (0, _), (1, _), (2, _), (3, _)]) dX5_growQuarters_64 rfl (by decide) (by decide) rfl ?_
        refine G_goto (tgt := 35) dX5_growQuarters_67 (by decide) ?_
        refine G_sub [0, 1, 2, 3, 4] rfl ?_
        rw [nI_1 j]
        first
          | (rw [if_pos c_51] at z; exact z)
          | (rw [if_neg c_51] at z; exact z)
      · refine G_aload_n dX5_growQuarters_54 rfl ?_
        refine G_iload dX5_growQuarters_55 rfl ?_
        refine G_aload_n dX5_growQuarters_57 rfl ?_
        refine G_get (k := 9) dX5_growQuarters_58 (cTree ht) rfl wfl_X5_60 (by decide) rfl ?_
        refine G_cVv (As := [_, _]) dX5_growQuarters_61 kV_X5_settle wml_X5_112 (sp_X5_settle ht) rfl (cTree ht) rfl rfl rfl (by decide) ⟨Nat.le_refl 0, Nat.le_refl 0⟩ (Nat.le_of_ble_eq_true rfl) ?_
        refine GS_iinc (v := 1) (L' := [(4, _), (0, _), (1, _), (2, _), (3, _)]) dX5_growQuarters_64 rfl (by decide) (by decide) rfl ?_
        refine G_goto (tgt := 35) dX5_growQuarters_67 (by decide) ?_
        refine G_sub [0, 1, 2, 3, 4] rfl ?_
        rw [nI_1 j]
        first
          | (rw [if_pos c_51] at z; exact z)
          | (rw [if_neg c_51] at z; exact z)
set_option maxHeartbeats 200000 in
theorem lp_growG (ht : isTree ly t) (h80 : c ≤ 80) {layer cap : Int32} {P : Option Value → VH → Prop} : ∀ f sq (S : St), sq + f = 1205 → tc S = nI c → P none (hp ly (gRun S t c cap f sq)) → G K MX5_growQuarters 14 0 0 0 0 73 [(4, .int (nI sq)), (0, .ref t), (1, .ref 1), (2, .int layer), (3, .int cap)] [] (hp ly S) (QcP K P) (XcP K noX) := by
  intro f
  induction f with
  | zero =>
    intro j S hj hc hP
    obtain rfl : j = 1205 := by omega
    refine G_iload dX5_growQuarters_73 rfl ?_
    refine G_sipush (v := 1205) dX5_growQuarters_75 (by decide) ?_
    refine G_icmp_ge (tgt := 125) dX5_growQuarters_78 (by decide) (fun c_78 => ?_) (fun c_78 => ?_)
    · exact G_vret dX5_growQuarters_125 rfl ⟨Nat.le_refl 0, Nat.le_refl 0⟩ hP
    · exact absurd (by decide) c_78
  | succ f ih =>
    intro j S hj hc hP
    rw [gRun] at hP
    refine G_iload dX5_growQuarters_73 rfl ?_
    refine G_sipush (v := 1205) dX5_growQuarters_75 (by decide) ?_
    refine G_icmp_ge (tgt := 125) dX5_growQuarters_78 (by decide) (fun c_78 => ?_) (fun c_78 => ?_)
    · exact absurd c_78 (nI_ge (show j < 1205 by omega) (by decide))
    · refine G_iload dX5_growQuarters_81 rfl ?_
      refine G_aload_n dX5_growQuarters_83 rfl ?_
      refine G_get (k := 8) dX5_growQuarters_84 (cTree ht) rfl wfl_X5_52 (by decide) rfl ?_
      refine G_icmp_ge (tgt := 125) dX5_growQuarters_87 (by decide) (fun c_87 => ?_) (fun c_87 => ?_)
      · exact G_vret dX5_growQuarters_125 rfl ⟨Nat.le_refl 0, Nat.le_refl 0⟩ (by rw [if_neg (fun z => absurd (Int32.lt_of_lt_of_le z c_87) Int32.lt_irrefl)] at hP; exact hP)
      · refine G_aload_n dX5_growQuarters_90 rfl ?_
        refine G_get (k := 2) dX5_growQuarters_91 (cTree ht) rfl wfl_X5_27 (by decide) rfl ?_
        refine G_iload dX5_growQuarters_94 rfl ?_
        refine G_cVi (As := [_]) dX5_growQuarters_96 kV_X3_at wml_X5_48 (sp_X3_at (tHeld ht)) rfl (cRow (tHeld ht)) rfl rfl rfl (by decide) ⟨Nat.le_refl 0, Nat.le_refl 0⟩ (Nat.le_of_ble_eq_true rfl) ?_
        refine G_iload_n dX5_growQuarters_99 rfl ?_
        refine G_icmp_le (tgt := 119) dX5_growQuarters_100 (by decide) (fun c_100 => ?_) (fun c_100 => ?_)
        · refine GS_iinc (v := 1) (L' := [(4, _), (0, _), (1, _), (2, _), (3, _)]) dX5_growQuarters_119 rfl (by decide) (by decide) rfl ?_
          refine G_goto (tgt := 73) dX5_growQuarters_122 (by decide) ?_
          refine G_sub [0, 1, 2, 3, 4] rfl ?_
          rw [nI_1 j]
          rw [if_pos (i32_nle c_87)] at hP
          first
            | (have e : gStep S t c cap j = S := by (unfold gStep; rw [if_neg (fun z => absurd (Int32.lt_of_lt_of_le z.1 c_100) Int32.lt_irrefl)])
               rw [e] at hP
               exact ih (j + 1) _ (by omega) hc hP)
            | (have e : gStep S t c cap j = S := by (unfold gStep; rw [if_neg (fun z => absurd (Int32.lt_of_lt_of_le z.2 c_109) Int32.lt_irrefl)])
               rw [e] at hP
               exact ih (j + 1) _ (by omega) hc hP)
            | (have e : gStep S t c cap j = splS S t (nI j) c := by (unfold gStep; rw [if_pos ⟨i32_nle c_100, i32_nle c_109⟩])
               rw [e] at hP
               exact ih (j + 1) _ (by omega) ((tc_splS (isTree_ne ht).1).trans hc) hP)
        · refine G_aload_n dX5_growQuarters_103 rfl ?_
          refine G_iload dX5_growQuarters_104 rfl ?_
          refine G_cVi (As := [_]) dX5_growQuarters_106 kV_X5_halfSide wml_X5_75 (sp_X5_halfSide ht) rfl (cTree ht) rfl rfl rfl (by decide) ⟨Nat.le_refl 0, Nat.le_refl 0⟩ (Nat.le_of_ble_eq_true rfl) ?_
          refine G_if_le (tgt := 119) dX5_growQuarters_109 (by decide) (fun c_109 => ?_) (fun c_109 => ?_)
          · refine GS_iinc (v := 1) (L' := [(4, _), (0, _), (1, _), (2, _), (3, _)]) dX5_growQuarters_119 rfl (by decide) (by decide) rfl ?_
            refine G_goto (tgt := 73) dX5_growQuarters_122 (by decide) ?_
            refine G_sub [0, 1, 2, 3, 4] rfl ?_
            rw [nI_1 j]
            rw [if_pos (i32_nle c_87)] at hP
            first
              | (have e : gStep S t c cap j = S := by (unfold gStep; rw [if_neg (fun z => absurd (Int32.lt_of_lt_of_le z.1 c_100) Int32.lt_irrefl)])
                 rw [e] at hP
                 exact ih (j + 1) _ (by omega) hc hP)
              | (have e : gStep S t c cap j = S := by (unfold gStep; rw [if_neg (fun z => absurd (Int32.lt_of_lt_of_le z.2 c_109) Int32.lt_irrefl)])
                 rw [e] at hP
                 exact ih (j + 1) _ (by omega) hc hP)
              | (have e : gStep S t c cap j = splS S t (nI j) c := by (unfold gStep; rw [if_pos ⟨i32_nle c_100, i32_nle c_109⟩])
                 rw [e] at hP
                 exact ih (j + 1) _ (by omega) ((tc_splS (isTree_ne ht).1).trans hc) hP)
          · refine G_aload_n dX5_growQuarters_112 rfl ?_
            refine G_iload dX5_growQuarters_113 rfl ?_
            refine G_aload_n dX5_growQuarters_115 rfl ?_
            refine G_cVv (As := [_, _]) dX5_growQuarters_116 kV_X5_split wml_X5_115 (sp_X5_split ht hc h80) rfl (cTree ht) rfl rfl rfl (by decide) ⟨Nat.le_refl 0, Nat.le_refl 0⟩ (Nat.le_of_ble_eq_true rfl) ?_
            refine GS_iinc (v := 1) (L' := [(4, _), (0, _), (1, _), (2, _), (3, _)]) dX5_growQuarters_119 rfl (by decide) (by decide) rfl ?_
            refine G_goto (tgt := 73) dX5_growQuarters_122 (by decide) ?_
            refine G_sub [0, 1, 2, 3, 4] rfl ?_
            rw [nI_1 j]
            rw [if_pos (i32_nle c_87)] at hP
            first
              | (have e : gStep S t c cap j = S := by (unfold gStep; rw [if_neg (fun z => absurd (Int32.lt_of_lt_of_le z.1 c_100) Int32.lt_irrefl)])
                 rw [e] at hP
                 exact ih (j + 1) _ (by omega) hc hP)
              | (have e : gStep S t c cap j = S := by (unfold gStep; rw [if_neg (fun z => absurd (Int32.lt_of_lt_of_le z.2 c_109) Int32.lt_irrefl)])
                 rw [e] at hP
                 exact ih (j + 1) _ (by omega) hc hP)
              | (have e : gStep S t c cap j = splS S t (nI j) c := by (unfold gStep; rw [if_pos ⟨i32_nle c_100, i32_nle c_109⟩])
                 rw [e] at hP
                 exact ih (j + 1) _ (by omega) ((tc_splS (isTree_ne ht).1).trans hc) hP)
set_option maxHeartbeats 200000 in
theorem sp_X5_growQuarters (ht : isTree ly t) (hc : tc S = nI c) (h80 : c ≤ 80) {layer cap : Int32} : Sp K MX5_growQuarters 14 0 0 [.ref t, .ref 1, .int layer, .int cap] (hp ly S) (fun v u => v = none ∧ u = hp ly (growS S t c layer cap)) noX := by
  refine Sp_of (by decide) (Nat.le_of_ble_eq_true rfl) ?_
  refine G_aload_n dX5_growQuarters_0 rfl ?_
  refine G_cVv (As := []) dX5_growQuarters_1 kV_X5_fell wml_X5_94 (sp_X5_fell ht) rfl (cTree ht) rfl rfl rfl (by decide) ⟨Nat.le_refl 0, Nat.le_refl 0⟩ (Nat.le_of_ble_eq_true rfl) ?_
  refine G_aload_n dX5_growQuarters_4 rfl ?_
  refine G_aload_n dX5_growQuarters_5 rfl ?_
  refine G_iconst (v := 0) dX5_growQuarters_6 (by decide) ?_
  refine G_cVi (As := [_]) dX5_growQuarters_7 kV_X5_addNode wml_X5_97 (sp_X5_addNode ht) rfl (cTree ht) rfl rfl rfl (by decide) ⟨Nat.le_refl 0, Nat.le_refl 0⟩ (Nat.le_of_ble_eq_true rfl) ?_
  refine G_setI (k := 9) dX5_growQuarters_10 (sTree ht).1 (sTree ht).2.1 (sTree ht).2.2 rfl rfl wfl_X5_60 (by decide) rfl rfl ?_
  refine G_aload_n dX5_growQuarters_13 rfl ?_
  refine G_get (k := 0) dX5_growQuarters_14 (cTree ht) rfl wfl_X5_14 (by decide) rfl ?_
  refine G_aload_n dX5_growQuarters_17 rfl ?_
  refine G_get (k := 9) dX5_growQuarters_18 (cTree ht) rfl wfl_X5_60 (by decide) rfl ?_
  refine G_iconst (v := 0) dX5_growQuarters_21 (by decide) ?_
  refine G_iconst (v := 0) dX5_growQuarters_22 (by decide) ?_
  refine G_sipush (v := 1023) dX5_growQuarters_23 (by decide) ?_
  refine G_sipush (v := 1023) dX5_growQuarters_26 (by decide) ?_
  refine G_cVv (As := [_, _, _, _, _]) dX5_growQuarters_29 kV_X0_put wml_X5_100 (sp_X0_put (bTree ht)) rfl (cBox (bTree ht)) rfl rfl rfl (by decide) ⟨Nat.le_refl 0, Nat.le_refl 0⟩ (Nat.le_of_ble_eq_true rfl) ?_
  refine G_iconst (v := 0) dX5_growQuarters_32 (by decide) ?_
  refine GS_istore (L' := [(4, _), (0, _), (1, _), (2, _), (3, _)]) dX5_growQuarters_33 (by decide) rfl ?_
  refine G_sub [0, 1, 2, 3, 4] rfl ?_
  refine lp_growR (S := seedS S t) ht ((tc_seedS (isTree_ne ht).1).trans hc) h80 ?_ c 0 (by omega)
  refine G_iconst (v := 0) dX5_growQuarters_70 (by decide) ?_
  refine GS_istore (L' := [(4, _), (0, _), (1, _), (2, _), (3, _)]) dX5_growQuarters_71 (by decide) rfl ?_
  refine G_sub [0, 1, 2, 3, 4] rfl ?_
  exact lp_growG ht h80 1205 0 _ (by omega) ((tc_rRun c).trans ((tc_seedS (isTree_ne ht).1).trans hc)) ⟨rfl, rfl⟩
end GQ
