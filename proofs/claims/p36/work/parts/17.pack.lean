def boxAs (S : St) (t : Nat) (a : Int32) (b n : Nat) (z : Int32) : St := bput S (t + 1) 1205 a (bX S b n z) (bY S b n z) (bW S b n z) (bH S b n z)
def clStep (t b n : Nat) (fan : Int32) (p : St × Int32) (i : Nat) : St × Int32 :=
  if p.2 = -1 ∨ fan ≤ rat (tHd p.1 t) 1205 p.2 then
    (settS (strS (boxAs (addNS p.1 t 0) t (tN p.1 t) b n (rat (tKy p.1 t) 80 (nI i))) (t + 1) 1205 (tN p.1 t) b n (rat (tKy p.1 t) 80 (nI i))) t (rat (tKy p.1 t) 80 (nI i)) (tN p.1 t), tN p.1 t)
  else (settS (strS p.1 (t + 1) 1205 p.2 b n (rat (tKy p.1 t) 80 (nI i))) t (rat (tKy p.1 t) 80 (nI i)) p.2, p.2)
def clRun (S : St) (t b n : Nat) (fan : Int32) (i : Nat) : St × Int32 := match i with
  | 0 => (S, -1)
  | i + 1 => clStep t b n fan (clRun S t b n fan i) i
def cnEnd (S : St) (t : Nat) (i a z : Int32) : St :=
  let S4 := strS S (t + 1) 1205 a (t + 1) 1205 z
  let S5 := setR S4 (t + 19) (rput (tBl S4 t) 1205 i z)
  setR S5 (t + 17) (rput (tCt S5 t) 1205 a (tCt S5 t a.toNatClampNeg + 1))
def cnNew (S : St) (t : Nat) (level i z : Int32) : St :=
  let S2 := boxAs (addNS S t level) t (tN S t) (t + 1) 1205 z
  setR S2 (t + 15) (rput (tFr S2 t) 1205 (tN S t) i)
def cnStep (t s : Nat) (fan level : Int32) (p : St × Int32) (j : Nat) : St × Int32 :=
  if p.2 = -1 ∨ fan ≤ rat (tCt p.1 t) 1205 p.2 then (cnEnd (cnNew p.1 t level (nI (s + j)) (rat (tKy p.1 t) 80 (nI j))) t (nI (s + j)) (tN p.1 t) (rat (tKy p.1 t) 80 (nI j)), tN p.1 t)
  else (cnEnd p.1 t (nI (s + j)) p.2 (rat (tKy p.1 t) 80 (nI j)), p.2)
def cnRun (S : St) (t s : Nat) (fan level : Int32) (j : Nat) : St × Int32 := match j with
  | 0 => (S, -1)
  | j + 1 => cnStep t s fan level (cnRun S t s fan level j) j
def filN (s : Nat) (g : Nat → Int32) (j : Nat) : Nat → Int32 := fun k => if k < j then nI (s + k) else g k
set_option maxHeartbeats 200000 in
theorem filN_s {s : Nat} {g : Nat → Int32} {j : Nat} : filN s g (j + 1) = upd (filN s g j) j (nI (s + j)) := by
  funext k
  unfold filN upd
  by_cases hk : k = j
  · subst hk
    rw [if_pos (by omega), if_pos rfl]
  · rw [if_neg hk]
    show (if k < j + 1 then nI (s + k) else g k) = if k < j then nI (s + k) else g k
    by_cases q : k < j
    · rw [if_pos q, if_pos (by omega)]
    · rw [if_neg q, if_neg (by omega)]
set_option maxHeartbeats 200000 in
theorem filN_0 {s : Nat} {g : Nat → Int32} : filN s g 0 = g := by funext k; unfold filN; rw [if_neg (by omega)]
def gpPre (S : St) (t fn s N : Nat) : St :=
  let S1 := setR S (t + 23) (filN s (tKy S t) (N - s))
  setR S1 (t + 23) (otp S1 (t + 1) 1205 (N - s) fn (tKy S1 t))
def gpStep (S : St) (t fn s N level : Nat) : St := (cnRun (gpPre S t fn s N) t s (nI fn) (nI level) (N - s)).1
def nN (S : St) (t : Nat) : Nat := (tN S t).toNatClampNeg
def gpR (S : St) (t fn f s level : Nat) : St := match f with
  | 0 => S
  | f + 1 => if 1 < nN S t - s then gpR (gpStep S t fn s (nN S t) level) t fn f (nN S t) (level + 1) else S
def gpOk (S : St) (t fn f s level : Nat) : Prop := match f with
  | 0 => True
  | f + 1 => tN S t = nI (nN S t) ∧ s ≤ nN S t ∧ nN S t ≤ s + 80 ∧ nN S t ≤ 1205 ∧ (1 < nN S t - s → gpOk (gpStep S t fn s (nN S t) level) t fn f (nN S t) (level + 1))
def pk1 (S : St) (t c : Nat) (layer : Int32) : St := setR (fellS S t) (t + 23) (kfil (tKy (fellS S t) t) (inL (fellS S t) layer) nI c)
def pk3 (S : St) (t c fn : Nat) (layer : Int32) : St := (clRun (setR (pk1 S t c layer) (t + 23) (otp (pk1 S t c layer) 2 80 (cnt (inL (fellS S t) layer) c) fn (tKy (pk1 S t c layer) t))) t 2 80 (nI fn) (cnt (inL (fellS S t) layer) c)).1
def growP (S : St) (t c fn : Nat) (layer : Int32) : St := if cnt (inL (fellS S t) layer) c = 0 then pk1 S t c layer else setI (gpR (pk3 S t c fn layer) t fn 10 0 1) t 9 (tN (gpR (pk3 S t c fn layer) t fn 10 0 1) t - 1)
section PL
variable {K : GK} {ly : Nat} {S : St} {t c b n m fn : Nat}
set_option maxHeartbeats 200000 in
theorem lp_cutLeaves (ht : isTree ly t) (hb : isBoxes ly b n) (hm : m ≤ 80) {fan : Int32} {P : Option Value → VH → Prop} (hP : P none (hp ly (clRun S t b n fan m).1)) : ∀ d j, j + d = m → G K MX5_cutLeaves 10 0 0 0 0 6 [(5, .int (nI j)), (4, .int (clRun S t b n fan j).2), (0, .ref t), (1, .ref b), (2, .int (nI m)), (3, .int fan)] [] (hp ly (clRun S t b n fan j).1) (QcP K P) (XcP K noX) := by
  intro d
  induction d with
  | zero =>
    intro j hj
    obtain rfl : j = m := by omega
    refine G_iload dX5_cutLeaves_6 rfl ?_
    refine G_iload_n dX5_cutLeaves_8 rfl ?_
    refine G_icmp_ge (tgt := 84) dX5_cutLeaves_9 (by decide) (fun c_9 => ?_) (fun c_9 => ?_)
    · exact G_vret dX5_cutLeaves_84 rfl ⟨Nat.le_refl 0, Nat.le_refl 0⟩ hP
    · exact absurd (nI_le (Nat.le_refl _) (by omega)) c_9
  | succ d ih =>
    intro j hj
    have z := ih (j + 1) (by omega)
    rw [clRun, clStep] at z
    refine G_iload dX5_cutLeaves_6 rfl ?_
    refine G_iload_n dX5_cutLeaves_8 rfl ?_
    refine G_icmp_ge (tgt := 84) dX5_cutLeaves_9 (by decide) (fun c_9 => ?_) (fun c_9 => ?_)
    · exact absurd c_9 (nI_ge (show j < m by omega) (by omega))
    · refine G_aload_n dX5_cutLeaves_12 rfl ?_
      refine G_get (k := 7) dX5_cutLeaves_13 (cTree ht) rfl wfl_X5_42 (by decide) rfl ?_
      refine G_iload dX5_cutLeaves_16 rfl ?_
      refine G_cVi (As := [_]) dX5_cutLeaves_18 kV_X3_at wml_X5_48 (sp_X3_at (tKeys ht)) rfl (cRow (tKeys ht)) rfl rfl rfl (by decide) ⟨Nat.le_refl 0, Nat.le_refl 0⟩ (Nat.le_of_ble_eq_true rfl) ?_
      refine GS_istore (L' := [(6, _), (5, _), (4, _), (0, _), (1, _), (2, _), (3, _)]) dX5_cutLeaves_21 (by decide) rfl ?_
      refine G_iload dX5_cutLeaves_23 rfl ?_
      refine G_iconst (v := (-1)) dX5_cutLeaves_25 (by decide) ?_
      refine G_icmp_eq (tgt := 42) dX5_cutLeaves_26 (by decide) (fun c_26 => ?_) (fun c_26 => ?_)
      · refine G_aload_n dX5_cutLeaves_42 rfl ?_
        refine G_iconst (v := 0) dX5_cutLeaves_43 (by decide) ?_
        refine G_cVi (As := [_]) dX5_cutLeaves_44 kV_X5_addNode wml_X5_97 (sp_X5_addNode ht) rfl (cTree ht) rfl rfl rfl (by decide) ⟨Nat.le_refl 0, Nat.le_refl 0⟩ (Nat.le_of_ble_eq_true rfl) ?_
        refine GS_istore (L' := [(4, _), (6, _), (5, _), (0, _), (1, _), (2, _), (3, _)]) dX5_cutLeaves_47 (by decide) rfl ?_
        refine G_aload_n dX5_cutLeaves_49 rfl ?_
        refine G_iload dX5_cutLeaves_50 rfl ?_
        refine G_aload_n dX5_cutLeaves_52 rfl ?_
        refine G_iload dX5_cutLeaves_53 rfl ?_
        refine G_cVv (As := [_, _, _]) dX5_cutLeaves_55 kV_X5_copyBox wml_X5_151 (sp_X5_copyBox ht hb) rfl (cTree ht) rfl rfl rfl (by decide) ⟨Nat.le_refl 0, Nat.le_refl 0⟩ (Nat.le_of_ble_eq_true rfl) ?_
        refine G_aload_n dX5_cutLeaves_58 rfl ?_
        refine G_get (k := 0) dX5_cutLeaves_59 (cTree ht) rfl wfl_X5_14 (by decide) rfl ?_
        refine G_iload dX5_cutLeaves_62 rfl ?_
        refine G_aload_n dX5_cutLeaves_64 rfl ?_
        refine G_iload dX5_cutLeaves_65 rfl ?_
        refine G_cVv (As := [_, _, _]) dX5_cutLeaves_67 kV_X0_stretchOver wml_X5_155 (sp_X0_stretchOver (bTree ht) hb) rfl (cBox (bTree ht)) rfl rfl rfl (by decide) ⟨Nat.le_refl 0, Nat.le_refl 0⟩ (Nat.le_of_ble_eq_true rfl) ?_
        refine G_aload_n dX5_cutLeaves_70 rfl ?_
        refine G_iload dX5_cutLeaves_71 rfl ?_
        refine G_iload dX5_cutLeaves_73 rfl ?_
        refine G_cVv (As := [_, _]) dX5_cutLeaves_75 kV_X5_settle wml_X5_112 (sp_X5_settle ht) rfl (cTree ht) rfl rfl rfl (by decide) ⟨Nat.le_refl 0, Nat.le_refl 0⟩ (Nat.le_of_ble_eq_true rfl) ?_
        refine GS_iinc (v := 1) (L' := [(5, _), (4, _), (6, _), (0, _), (1, _), (2, _), (3, _)]) dX5_cutLeaves_78 rfl (by decide) (by decide) rfl ?_
        refine G_goto (tgt := 6) dX5_cutLeaves_81 (by decide) ?_
        refine G_sub [0, 1, 3, 4, 5, 6] rfl ?_
        rw [nI_1 j]
        first
          | (rw [if_pos (Or.inl c_26)] at z; exact z)
          | (rw [if_pos (Or.inr (i32_nlt c_39))] at z; exact z)
          | (rw [if_neg (fun q => q.elim c_26 (fun q => absurd (Int32.lt_of_lt_of_le c_39 q) Int32.lt_irrefl))] at z; exact z)
      · refine G_aload_n dX5_cutLeaves_29 rfl ?_
        refine G_get (k := 2) dX5_cutLeaves_30 (cTree ht) rfl wfl_X5_27 (by decide) rfl ?_
        refine G_iload dX5_cutLeaves_33 rfl ?_
        refine G_cVi (As := [_]) dX5_cutLeaves_35 kV_X3_at wml_X5_48 (sp_X3_at (tHeld ht)) rfl (cRow (tHeld ht)) rfl rfl rfl (by decide) ⟨Nat.le_refl 0, Nat.le_refl 0⟩ (Nat.le_of_ble_eq_true rfl) ?_
        refine G_iload_n dX5_cutLeaves_38 rfl ?_
        refine G_icmp_lt (tgt := 58) dX5_cutLeaves_39 (by decide) (fun c_39 => ?_) (fun c_39 => ?_)
        · refine G_aload_n dX5_cutLeaves_58 rfl ?_
          refine G_get (k := 0) dX5_cutLeaves_59 (cTree ht) rfl wfl_X5_14 (by decide) rfl ?_
          refine G_iload dX5_cutLeaves_62 rfl ?_
          refine G_aload_n dX5_cutLeaves_64 rfl ?_
          refine G_iload dX5_cutLeaves_65 rfl ?_
          refine G_cVv (As := [_, _, _]) dX5_cutLeaves_67 kV_X0_stretchOver wml_X5_155 (sp_X0_stretchOver (bTree ht) hb) rfl (cBox (bTree ht)) rfl rfl rfl (by decide) ⟨Nat.le_refl 0, Nat.le_refl 0⟩ (Nat.le_of_ble_eq_true rfl) ?_
          refine G_aload_n dX5_cutLeaves_70 rfl ?_
          refine G_iload dX5_cutLeaves_71 rfl ?_
          refine G_iload dX5_cutLeaves_73 rfl ?_
          refine G_cVv (As := [_, _]) dX5_cutLeaves_75 kV_X5_settle wml_X5_112 (sp_X5_settle ht) rfl (cTree ht) rfl rfl rfl (by decide) ⟨Nat.le_refl 0, Nat.le_refl 0⟩ (Nat.le_of_ble_eq_true rfl) ?_
          refine GS_iinc (v := 1) (L' := [(5, _), (6, _), (4, _), (0, _), (1, _), (2, _), (3, _)]) dX5_cutLeaves_78 rfl (by decide) (by decide) rfl ?_
          refine G_goto (tgt := 6) dX5_cutLeaves_81 (by decide) ?_
          refine G_sub [0, 2, 3, 4, 5, 6] rfl ?_
          rw [nI_1 j]
          first
            | (rw [if_pos (Or.inl c_26)] at z; exact z)
            | (rw [if_pos (Or.inr (i32_nlt c_39))] at z; exact z)
            | (rw [if_neg (fun q => q.elim c_26 (fun q => absurd (Int32.lt_of_lt_of_le c_39 q) Int32.lt_irrefl))] at z; exact z)
        · refine G_aload_n dX5_cutLeaves_42 rfl ?_
          refine G_iconst (v := 0) dX5_cutLeaves_43 (by decide) ?_
          refine G_cVi (As := [_]) dX5_cutLeaves_44 kV_X5_addNode wml_X5_97 (sp_X5_addNode ht) rfl (cTree ht) rfl rfl rfl (by decide) ⟨Nat.le_refl 0, Nat.le_refl 0⟩ (Nat.le_of_ble_eq_true rfl) ?_
          refine GS_istore (L' := [(4, _), (6, _), (5, _), (0, _), (1, _), (2, _), (3, _)]) dX5_cutLeaves_47 (by decide) rfl ?_
          refine G_aload_n dX5_cutLeaves_49 rfl ?_
          refine G_iload dX5_cutLeaves_50 rfl ?_
          refine G_aload_n dX5_cutLeaves_52 rfl ?_
          refine G_iload dX5_cutLeaves_53 rfl ?_
          refine G_cVv (As := [_, _, _]) dX5_cutLeaves_55 kV_X5_copyBox wml_X5_151 (sp_X5_copyBox ht hb) rfl (cTree ht) rfl rfl rfl (by decide) ⟨Nat.le_refl 0, Nat.le_refl 0⟩ (Nat.le_of_ble_eq_true rfl) ?_
          refine G_aload_n dX5_cutLeaves_58 rfl ?_
          refine G_get (k := 0) dX5_cutLeaves_59 (cTree ht) rfl wfl_X5_14 (by decide) rfl ?_
          refine G_iload dX5_cutLeaves_62 rfl ?_
          refine G_aload_n dX5_cutLeaves_64 rfl ?_
          refine G_iload dX5_cutLeaves_65 rfl ?_
          refine G_cVv (As := [_, _, _]) dX5_cutLeaves_67 kV_X0_stretchOver wml_X5_155 (sp_X0_stretchOver (bTree ht) hb) rfl (cBox (bTree ht)) rfl rfl rfl (by decide) ⟨Nat.le_refl 0, Nat.le_refl 0⟩ (Nat.le_of_ble_eq_true rfl) ?_
          refine G_aload_n dX5_cutLeaves_70 rfl ?_
          refine G_iload dX5_cutLeaves_71 rfl ?_
          refine G_iload dX5_cutLeaves_73 rfl ?_
          refine G_cVv (As := [_, _]) dX5_cutLeaves_75 kV_X5_settle wml_X5_112 (sp_X5_settle ht) rfl (cTree ht) rfl rfl rfl (by decide) ⟨Nat.le_refl 0, Nat.le_refl 0⟩ (Nat.le_of_ble_eq_true rfl) ?_
          refine GS_iinc (v := 1) (L' := [(5, _), (4, _), (6, _), (0, _), (1, _), (2, _), (3, _)]) dX5_cutLeaves_78 rfl (by decide) (by decide) rfl ?_
          refine G_goto (tgt := 6) dX5_cutLeaves_81 (by decide) ?_
          refine G_sub [0, 1, 3, 4, 5, 6] rfl ?_
          rw [nI_1 j]
          first
            | (rw [if_pos (Or.inl c_26)] at z; exact z)
            | (rw [if_pos (Or.inr (i32_nlt c_39))] at z; exact z)
            | (rw [if_neg (fun q => q.elim c_26 (fun q => absurd (Int32.lt_of_lt_of_le c_39 q) Int32.lt_irrefl))] at z; exact z)
set_option maxHeartbeats 200000 in
theorem sp_X5_cutLeaves (ht : isTree ly t) (hb : isBoxes ly b n) (hm : m ≤ 80) {fan : Int32} : Sp K MX5_cutLeaves 10 0 0 [.ref t, .ref b, .int (nI m), .int fan] (hp ly S) (fun v u => v = none ∧ u = hp ly (clRun S t b n fan m).1) noX := by
  refine Sp_of (by decide) (Nat.le_of_ble_eq_true rfl) ?_
  refine G_iconst (v := (-1)) dX5_cutLeaves_0 (by decide) ?_
  refine GS_istore (L' := [(4, _), (0, _), (1, _), (2, _), (3, _)]) dX5_cutLeaves_1 (by decide) rfl ?_
  refine G_iconst (v := 0) dX5_cutLeaves_3 (by decide) ?_
  refine GS_istore (L' := [(5, _), (4, _), (0, _), (1, _), (2, _), (3, _)]) dX5_cutLeaves_4 (by decide) rfl ?_
  refine G_sub [0, 1, 2, 3, 4, 5] rfl ?_
  exact lp_cutLeaves (S := S) ht hb hm ⟨rfl, rfl⟩ m 0 (by omega)
set_option maxHeartbeats 200000 in
theorem lp_cutNodes (ht : isTree ly t) {s : Nat} (hm : s + m ≤ 1205) {fan level : Int32} {P : Option Value → VH → Prop} (hP : P none (hp ly (cnRun S t s fan level m).1)) : ∀ d j, j + d = m → G K MX5_cutNodes 10 0 0 0 0 6 [(6, .int (nI (s + j))), (5, .int (cnRun S t s fan level j).2), (0, .ref t), (1, .int (nI s)), (2, .int (nI (s + m))), (3, .int fan), (4, .int level)] [] (hp ly (cnRun S t s fan level j).1) (QcP K P) (XcP K noX) := by
  intro d
  induction d with
  | zero =>
    intro j hj
    obtain rfl : j = m := by omega
    refine G_iload dX5_cutNodes_6 rfl ?_
    refine G_iload_n dX5_cutNodes_8 rfl ?_
    refine G_icmp_ge (tgt := 117) dX5_cutNodes_9 (by decide) (fun c_9 => ?_) (fun c_9 => ?_)
    · exact G_vret dX5_cutNodes_117 rfl ⟨Nat.le_refl 0, Nat.le_refl 0⟩ hP
    · exact absurd (nI_le (Nat.le_refl _) (by omega)) c_9
  | succ d ih =>
    intro j hj
    have z := ih (j + 1) (by omega)
    rw [cnRun, cnStep] at z
    have esub : nI (s + j) - nI s = nI j := by rw [pk_sub (by omega), Nat.add_sub_cancel_left]
    refine G_iload dX5_cutNodes_6 rfl ?_
    refine G_iload_n dX5_cutNodes_8 rfl ?_
    refine G_icmp_ge (tgt := 117) dX5_cutNodes_9 (by decide) (fun c_9 => ?_) (fun c_9 => ?_)
    · exact absurd c_9 (nI_ge (show s + j < s + m by omega) (by omega))
    · refine G_aload_n dX5_cutNodes_12 rfl ?_
      refine G_get (k := 7) dX5_cutNodes_13 (cTree ht) rfl wfl_X5_42 (by decide) rfl ?_
      refine G_iload dX5_cutNodes_16 rfl ?_
      refine G_iload_n dX5_cutNodes_18 rfl ?_
      refine G_isub dX5_cutNodes_19 ?_
      rw [esub]
      refine G_cVi (As := [_]) dX5_cutNodes_20 kV_X3_at wml_X5_48 (sp_X3_at (tKeys ht)) rfl (cRow (tKeys ht)) rfl rfl rfl (by decide) ⟨Nat.le_refl 0, Nat.le_refl 0⟩ (Nat.le_of_ble_eq_true rfl) ?_
      refine GS_istore (L' := [(7, _), (6, _), (5, _), (0, _), (1, _), (2, _), (3, _), (4, _)]) dX5_cutNodes_23 (by decide) rfl ?_
      refine G_iload dX5_cutNodes_25 rfl ?_
      refine G_iconst (v := (-1)) dX5_cutNodes_27 (by decide) ?_
      refine G_icmp_eq (tgt := 44) dX5_cutNodes_28 (by decide) (fun c_28 => ?_) (fun c_28 => ?_)
      · refine G_aload_n dX5_cutNodes_44 rfl ?_
        refine G_iload dX5_cutNodes_45 rfl ?_
        refine G_cVi (As := [_]) dX5_cutNodes_47 kV_X5_addNode wml_X5_97 (sp_X5_addNode ht) rfl (cTree ht) rfl rfl rfl (by decide) ⟨Nat.le_refl 0, Nat.le_refl 0⟩ (Nat.le_of_ble_eq_true rfl) ?_
        refine GS_istore (L' := [(5, _), (7, _), (6, _), (0, _), (1, _), (2, _), (3, _), (4, _)]) dX5_cutNodes_50 (by decide) rfl ?_
        refine G_aload_n dX5_cutNodes_52 rfl ?_
        refine G_iload dX5_cutNodes_53 rfl ?_
        refine G_aload_n dX5_cutNodes_55 rfl ?_
        refine G_get (k := 0) dX5_cutNodes_56 (cTree ht) rfl wfl_X5_14 (by decide) rfl ?_
        refine G_iload dX5_cutNodes_59 rfl ?_
        refine G_cVv (As := [_, _, _]) dX5_cutNodes_61 kV_X5_copyBox wml_X5_151 (sp_X5_copyBox ht (bTree ht)) rfl (cTree ht) rfl rfl rfl (by decide) ⟨Nat.le_refl 0, Nat.le_refl 0⟩ (Nat.le_of_ble_eq_true rfl) ?_
        refine G_aload_n dX5_cutNodes_64 rfl ?_
        refine G_get (k := 3) dX5_cutNodes_65 (cTree ht) rfl wfl_X5_30 (by decide) rfl ?_
        refine G_iload dX5_cutNodes_68 rfl ?_
        refine G_iload dX5_cutNodes_70 rfl ?_
        refine G_cVv (As := [_, _]) dX5_cutNodes_72 kV_X3_put wml_X5_87 (sp_X3_put (tFrom ht)) rfl (cRow (tFrom ht)) rfl rfl rfl (by decide) ⟨Nat.le_refl 0, Nat.le_refl 0⟩ (Nat.le_of_ble_eq_true rfl) ?_
        refine G_aload_n dX5_cutNodes_75 rfl ?_
        refine G_get (k := 0) dX5_cutNodes_76 (cTree ht) rfl wfl_X5_14 (by decide) rfl ?_
        refine G_iload dX5_cutNodes_79 rfl ?_
        refine G_aload_n dX5_cutNodes_81 rfl ?_
        refine G_get (k := 0) dX5_cutNodes_82 (cTree ht) rfl wfl_X5_14 (by decide) rfl ?_
        refine G_iload dX5_cutNodes_85 rfl ?_
        refine G_cVv (As := [_, _, _]) dX5_cutNodes_87 kV_X0_stretchOver wml_X5_155 (sp_X0_stretchOver (bTree ht) (bTree ht)) rfl (cBox (bTree ht)) rfl rfl rfl (by decide) ⟨Nat.le_refl 0, Nat.le_refl 0⟩ (Nat.le_of_ble_eq_true rfl) ?_
        refine G_aload_n dX5_cutNodes_90 rfl ?_
        refine G_get (k := 5) dX5_cutNodes_91 (cTree ht) rfl wfl_X5_36 (by decide) rfl ?_
        refine G_iload dX5_cutNodes_94 rfl ?_
        refine G_iload dX5_cutNodes_96 rfl ?_
        refine G_cVv (As := [_, _]) dX5_cutNodes_98 kV_X3_put wml_X5_87 (sp_X3_put (tBelow ht)) rfl (cRow (tBelow ht)) rfl rfl rfl (by decide) ⟨Nat.le_refl 0, Nat.le_refl 0⟩ (Nat.le_of_ble_eq_true rfl) ?_
        refine G_aload_n dX5_cutNodes_101 rfl ?_
        refine G_get (k := 4) dX5_cutNodes_102 (cTree ht) rfl wfl_X5_33 (by decide) rfl ?_
        refine G_iload dX5_cutNodes_105 rfl ?_
        refine G_iconst (v := 1) dX5_cutNodes_107 (by decide) ?_
        refine G_cVv (As := [_, _]) dX5_cutNodes_108 kV_X3_addTo wml_X5_91 (sp_X3_addTo (tCount ht)) rfl (cRow (tCount ht)) rfl rfl rfl (by decide) ⟨Nat.le_refl 0, Nat.le_refl 0⟩ (Nat.le_of_ble_eq_true rfl) ?_
        refine GS_iinc (v := 1) (L' := [(6, _), (5, _), (7, _), (0, _), (1, _), (2, _), (3, _), (4, _)]) dX5_cutNodes_111 rfl (by decide) (by decide) rfl ?_
        refine G_goto (tgt := 6) dX5_cutNodes_114 (by decide) ?_
        refine G_sub [0, 1, 3, 4, 5, 6, 7] rfl ?_
        rw [nI_1 (s + j)]
        first
          | (rw [if_pos (Or.inl c_28)] at z; exact z)
          | (rw [if_pos (Or.inr (i32_nlt c_41))] at z; exact z)
          | (rw [if_neg (fun q => q.elim c_28 (fun q => absurd (Int32.lt_of_lt_of_le c_41 q) Int32.lt_irrefl))] at z; exact z)
      · refine G_aload_n dX5_cutNodes_31 rfl ?_
        refine G_get (k := 4) dX5_cutNodes_32 (cTree ht) rfl wfl_X5_33 (by decide) rfl ?_
        refine G_iload dX5_cutNodes_35 rfl ?_
        refine G_cVi (As := [_]) dX5_cutNodes_37 kV_X3_at wml_X5_48 (sp_X3_at (tCount ht)) rfl (cRow (tCount ht)) rfl rfl rfl (by decide) ⟨Nat.le_refl 0, Nat.le_refl 0⟩ (Nat.le_of_ble_eq_true rfl) ?_
        refine G_iload_n dX5_cutNodes_40 rfl ?_
        refine G_icmp_lt (tgt := 75) dX5_cutNodes_41 (by decide) (fun c_41 => ?_) (fun c_41 => ?_)
        · refine G_aload_n dX5_cutNodes_75 rfl ?_
          refine G_get (k := 0) dX5_cutNodes_76 (cTree ht) rfl wfl_X5_14 (by decide) rfl ?_
          refine G_iload dX5_cutNodes_79 rfl ?_
          refine G_aload_n dX5_cutNodes_81 rfl ?_
          refine G_get (k := 0) dX5_cutNodes_82 (cTree ht) rfl wfl_X5_14 (by decide) rfl ?_
          refine G_iload dX5_cutNodes_85 rfl ?_
          refine G_cVv (As := [_, _, _]) dX5_cutNodes_87 kV_X0_stretchOver wml_X5_155 (sp_X0_stretchOver (bTree ht) (bTree ht)) rfl (cBox (bTree ht)) rfl rfl rfl (by decide) ⟨Nat.le_refl 0, Nat.le_refl 0⟩ (Nat.le_of_ble_eq_true rfl) ?_
          refine G_aload_n dX5_cutNodes_90 rfl ?_
          refine G_get (k := 5) dX5_cutNodes_91 (cTree ht) rfl wfl_X5_36 (by decide) rfl ?_
          refine G_iload dX5_cutNodes_94 rfl ?_
          refine G_iload dX5_cutNodes_96 rfl ?_
          refine G_cVv (As := [_, _]) dX5_cutNodes_98 kV_X3_put wml_X5_87 (sp_X3_put (tBelow ht)) rfl (cRow (tBelow ht)) rfl rfl rfl (by decide) ⟨Nat.le_refl 0, Nat.le_refl 0⟩ (Nat.le_of_ble_eq_true rfl) ?_
          refine G_aload_n dX5_cutNodes_101 rfl ?_
          refine G_get (k := 4) dX5_cutNodes_102 (cTree ht) rfl wfl_X5_33 (by decide) rfl ?_
          refine G_iload dX5_cutNodes_105 rfl ?_
          refine G_iconst (v := 1) dX5_cutNodes_107 (by decide) ?_
          refine G_cVv (As := [_, _]) dX5_cutNodes_108 kV_X3_addTo wml_X5_91 (sp_X3_addTo (tCount ht)) rfl (cRow (tCount ht)) rfl rfl rfl (by decide) ⟨Nat.le_refl 0, Nat.le_refl 0⟩ (Nat.le_of_ble_eq_true rfl) ?_
          refine GS_iinc (v := 1) (L' := [(6, _), (7, _), (5, _), (0, _), (1, _), (2, _), (3, _), (4, _)]) dX5_cutNodes_111 rfl (by decide) (by decide) rfl ?_
          refine G_goto (tgt := 6) dX5_cutNodes_114 (by decide) ?_
          refine G_sub [0, 2, 3, 4, 5, 6, 7] rfl ?_
          rw [nI_1 (s + j)]
          first
            | (rw [if_pos (Or.inl c_28)] at z; exact z)
            | (rw [if_pos (Or.inr (i32_nlt c_41))] at z; exact z)
            | (rw [if_neg (fun q => q.elim c_28 (fun q => absurd (Int32.lt_of_lt_of_le c_41 q) Int32.lt_irrefl))] at z; exact z)
        · refine G_aload_n dX5_cutNodes_44 rfl ?_
          refine G_iload dX5_cutNodes_45 rfl ?_
          refine G_cVi (As := [_]) dX5_cutNodes_47 kV_X5_addNode wml_X5_97 (sp_X5_addNode ht) rfl (cTree ht) rfl rfl rfl (by decide) ⟨Nat.le_refl 0, Nat.le_refl 0⟩ (Nat.le_of_ble_eq_true rfl) ?_
          refine GS_istore (L' := [(5, _), (7, _), (6, _), (0, _), (1, _), (2, _), (3, _), (4, _)]) dX5_cutNodes_50 (by decide) rfl ?_
          refine G_aload_n dX5_cutNodes_52 rfl ?_
          refine G_iload dX5_cutNodes_53 rfl ?_
          refine G_aload_n dX5_cutNodes_55 rfl ?_
          refine G_get (k := 0) dX5_cutNodes_56 (cTree ht) rfl wfl_X5_14 (by decide) rfl ?_
          refine G_iload dX5_cutNodes_59 rfl ?_
          refine G_cVv (As := [_, _, _]) dX5_cutNodes_61 kV_X5_copyBox wml_X5_151 (sp_X5_copyBox ht (bTree ht)) rfl (cTree ht) rfl rfl rfl (by decide) ⟨Nat.le_refl 0, Nat.le_refl 0⟩ (Nat.le_of_ble_eq_true rfl) ?_
          refine G_aload_n dX5_cutNodes_64 rfl ?_
          refine G_get (k := 3) dX5_cutNodes_65 (cTree ht) rfl wfl_X5_30 (by decide) rfl ?_
          refine G_iload dX5_cutNodes_68 rfl ?_
          refine G_iload dX5_cutNodes_70 rfl ?_
          refine G_cVv (As := [_, _]) dX5_cutNodes_72 kV_X3_put wml_X5_87 (sp_X3_put (tFrom ht)) rfl (cRow (tFrom ht)) rfl rfl rfl (by decide) ⟨Nat.le_refl 0, Nat.le_refl 0⟩ (Nat.le_of_ble_eq_true rfl) ?_
          refine G_aload_n dX5_cutNodes_75 rfl ?_
          refine G_get (k := 0) dX5_cutNodes_76 (cTree ht) rfl wfl_X5_14 (by decide) rfl ?_
          refine G_iload dX5_cutNodes_79 rfl ?_
          refine G_aload_n dX5_cutNodes_81 rfl ?_
          refine G_get (k := 0) dX5_cutNodes_82 (cTree ht) rfl wfl_X5_14 (by decide) rfl ?_
          refine G_iload dX5_cutNodes_85 rfl ?_
          refine G_cVv (As := [_, _, _]) dX5_cutNodes_87 kV_X0_stretchOver wml_X5_155 (sp_X0_stretchOver (bTree ht) (bTree ht)) rfl (cBox (bTree ht)) rfl rfl rfl (by decide) ⟨Nat.le_refl 0, Nat.le_refl 0⟩ (Nat.le_of_ble_eq_true rfl) ?_
          refine G_aload_n dX5_cutNodes_90 rfl ?_
          refine G_get (k := 5) dX5_cutNodes_91 (cTree ht) rfl wfl_X5_36 (by decide) rfl ?_
          refine G_iload dX5_cutNodes_94 rfl ?_
          refine G_iload dX5_cutNodes_96 rfl ?_
          refine G_cVv (As := [_, _]) dX5_cutNodes_98 kV_X3_put wml_X5_87 (sp_X3_put (tBelow ht)) rfl (cRow (tBelow ht)) rfl rfl rfl (by decide) ⟨Nat.le_refl 0, Nat.le_refl 0⟩ (Nat.le_of_ble_eq_true rfl) ?_
          refine G_aload_n dX5_cutNodes_101 rfl ?_
          refine G_get (k := 4) dX5_cutNodes_102 (cTree ht) rfl wfl_X5_33 (by decide) rfl ?_
          refine G_iload dX5_cutNodes_105 rfl ?_
          refine G_iconst (v := 1) dX5_cutNodes_107 (by decide) ?_
          refine G_cVv (As := [_, _]) dX5_cutNodes_108 kV_X3_addTo wml_X5_91 (sp_X3_addTo (tCount ht)) rfl (cRow (tCount ht)) rfl rfl rfl (by decide) ⟨Nat.le_refl 0, Nat.le_refl 0⟩ (Nat.le_of_ble_eq_true rfl) ?_
          refine GS_iinc (v := 1) (L' := [(6, _), (5, _), (7, _), (0, _), (1, _), (2, _), (3, _), (4, _)]) dX5_cutNodes_111 rfl (by decide) (by decide) rfl ?_
          refine G_goto (tgt := 6) dX5_cutNodes_114 (by decide) ?_
          refine G_sub [0, 1, 3, 4, 5, 6, 7] rfl ?_
          rw [nI_1 (s + j)]
          first
            | (rw [if_pos (Or.inl c_28)] at z; exact z)
            | (rw [if_pos (Or.inr (i32_nlt c_41))] at z; exact z)
            | (rw [if_neg (fun q => q.elim c_28 (fun q => absurd (Int32.lt_of_lt_of_le c_41 q) Int32.lt_irrefl))] at z; exact z)
set_option maxHeartbeats 200000 in
theorem sp_X5_cutNodes (ht : isTree ly t) {s : Nat} (hm : s + m ≤ 1205) {fan level : Int32} : Sp K MX5_cutNodes 10 0 0 [.ref t, .int (nI s), .int (nI (s + m)), .int fan, .int level] (hp ly S) (fun v u => v = none ∧ u = hp ly (cnRun S t s fan level m).1) noX := by
  refine Sp_of (by decide) (Nat.le_of_ble_eq_true rfl) ?_
  refine G_iconst (v := (-1)) dX5_cutNodes_0 (by decide) ?_
  refine GS_istore (L' := [(5, _), (0, _), (1, _), (2, _), (3, _), (4, _)]) dX5_cutNodes_1 (by decide) rfl ?_
  refine G_iload_n dX5_cutNodes_3 rfl ?_
  refine GS_istore (L' := [(6, _), (5, _), (0, _), (1, _), (2, _), (3, _), (4, _)]) dX5_cutNodes_4 (by decide) rfl ?_
  refine G_sub [0, 1, 2, 3, 4, 5, 6] rfl ?_
  exact lp_cutNodes (S := S) ht hm ⟨rfl, rfl⟩ m 0 (by omega)
set_option maxHeartbeats 200000 in
theorem lp_growPf (ht : isTree ly t) (hc : tc S = nI c) (h80 : c ≤ 80) {layer fan : Int32} {Qc : Array Value → State → Outcome → State → Prop} {XC : String → State → State → Prop} (kk : G K MX5_growPacked 14 0 0 0 0 49 [(4, .int (nI (cnt (inL S layer) c))), (0, .ref t), (1, .ref 1), (2, .int layer), (3, .int fan)] [] (hp ly (setR S (t + 23) (kfil (tKy S t) (inL S layer) nI c))) Qc XC) : ∀ d j, j + d = c → G K MX5_growPacked 14 0 0 0 0 10 [(5, .int (nI j)), (4, .int (nI (cnt (inL S layer) j))), (0, .ref t), (1, .ref 1), (2, .int layer), (3, .int fan)] [] (hp ly (setR S (t + 23) (kfil (tKy S t) (inL S layer) nI j))) Qc XC := by
  intro d
  have h12 : 12 ≠ t + 23 := by have := (isTree_ne ht).2.2.1; omega
  induction d with
  | zero =>
    intro j hj
    obtain rfl : j = c := by omega
    refine G_iload dX5_growPacked_10 rfl ?_
    refine G_aload_n dX5_growPacked_12 rfl ?_
    refine G_getN (k := 5) dX5_growPacked_13 cThings rfl wfn_X5_103 (by decide) rfl ?_
    rw [show (setR S (t + 23) (kfil (tKy S t) (inL S layer) nI j)).2.1 1 5 = nI j from hc]
    refine G_icmp_ge (tgt := 49) dX5_growPacked_16 (by decide) (fun c_16 => ?_) (fun c_16 => ?_)
    · refine G_sub [1, 2, 3, 4, 5] rfl ?_
      exact kk
    · exact absurd (nI_le (Nat.le_refl _) (by omega)) c_16
  | succ d ih =>
    intro j hj
    have hj8 : j < 80 := by omega
    have hm := cnt_le (inL S layer) j
    have z := ih (j + 1) (by omega)
    have hin : isin (setR S (t + 23) (kfil (tKy S t) (inL S layer) nI j)) (nI j) layer = isin S (nI j) layer := by show (if rat ((setR S (t + 23) _).1 12) 80 (nI j) = layer then (1 : Int32) else 0) = _; rw [setR_ne h12]; rfl
    refine G_iload dX5_growPacked_10 rfl ?_
    refine G_aload_n dX5_growPacked_12 rfl ?_
    refine G_getN (k := 5) dX5_growPacked_13 cThings rfl wfn_X5_103 (by decide) rfl ?_
    rw [show (setR S (t + 23) (kfil (tKy S t) (inL S layer) nI j)).2.1 1 5 = nI c from hc]
    refine G_icmp_ge (tgt := 49) dX5_growPacked_16 (by decide) (fun c_16 => ?_) (fun c_16 => ?_)
    · exact absurd c_16 (nI_ge (show j < c by omega) (by omega))
    · refine G_aload_n dX5_growPacked_19 rfl ?_
      refine G_iload dX5_growPacked_20 rfl ?_
      refine G_iload_n dX5_growPacked_22 rfl ?_
      refine G_cVi (As := [_, _]) dX5_growPacked_23 kV_X4_isIn wml_X5_108 sp_X4_isIn rfl cThings rfl rfl rfl (by decide) ⟨Nat.le_refl 0, Nat.le_refl 0⟩ (Nat.le_of_ble_eq_true rfl) ?_
      refine G_if_eq (tgt := 43) dX5_growPacked_26 (by decide) (fun c_26 => ?_) (fun c_26 => ?_)
      · refine GS_iinc (v := 1) (L' := [(5, _), (4, _), (0, _), (1, _), (2, _), (3, _)]) dX5_growPacked_43 rfl (by decide) (by decide) rfl ?_
        refine G_goto (tgt := 10) dX5_growPacked_46 (by decide) ?_
        refine G_sub [0, 1, 2, 3, 4, 5] rfl ?_
        rw [hin] at c_26
        rw [nI_1 j]
        first
          | (have e : inL S layer j = false := isin_f (S := S) hj8 c_26; rw [cnt_f e, kfil_f e] at z; exact z)
          | (have e : inL S layer j = true := isin_t (S := S) hj8 c_26; rw [cnt_t e, kfil_t e] at z; rw [nI_1, setR_twice, rput_nI (show cnt (inL S layer) j < 80 by omega) (by decide), setR_eq]; exact z)
      · refine G_aload_n dX5_growPacked_29 rfl ?_
        refine G_get (k := 7) dX5_growPacked_30 (cTree ht) rfl wfl_X5_42 (by decide) rfl ?_
        refine G_iload dX5_growPacked_33 rfl ?_
        refine G_iload dX5_growPacked_35 rfl ?_
        refine G_cVv (As := [_, _]) dX5_growPacked_37 kV_X3_put wml_X5_87 (sp_X3_put (tKeys ht)) rfl (cRow (tKeys ht)) rfl rfl rfl (by decide) ⟨Nat.le_refl 0, Nat.le_refl 0⟩ (Nat.le_of_ble_eq_true rfl) ?_
        refine GS_iinc (v := 1) (L' := [(4, _), (5, _), (0, _), (1, _), (2, _), (3, _)]) dX5_growPacked_40 rfl (by decide) (by decide) rfl ?_
        refine GS_iinc (v := 1) (L' := [(5, _), (4, _), (0, _), (1, _), (2, _), (3, _)]) dX5_growPacked_43 rfl (by decide) (by decide) rfl ?_
        refine G_goto (tgt := 10) dX5_growPacked_46 (by decide) ?_
        refine G_sub [0, 1, 2, 3, 4, 5] rfl ?_
        rw [hin] at c_26
        rw [nI_1 j]
        first
          | (have e : inL S layer j = false := isin_f (S := S) hj8 c_26; rw [cnt_f e, kfil_f e] at z; exact z)
          | (have e : inL S layer j = true := isin_t (S := S) hj8 c_26; rw [cnt_t e, kfil_t e] at z; rw [nI_1, setR_twice, rput_nI (show cnt (inL S layer) j < 80 by omega) (by decide), setR_eq]; exact z)
set_option maxHeartbeats 200000 in
theorem lp_growPn (ht : isTree ly t) {s : Nat} (hs : s + m ≤ 1205) (hm : m ≤ 80) {level fan : Int32} {Qc : Array Value → State → Outcome → State → Prop} {XC : String → State → State → Prop} (kk : G K MX5_growPacked 14 0 0 0 0 143 [(7, .int (nI (s + m))), (6, .int level), (5, .int (nI s)), (0, .ref t), (3, .int fan)] [] (hp ly (setR S (t + 23) (filN s (tKy S t) m))) Qc XC) : ∀ d j, j + d = m → G K MX5_growPacked 14 0 0 0 0 116 [(8, .int (nI (s + j))), (7, .int (nI (s + m))), (6, .int level), (5, .int (nI s)), (0, .ref t), (3, .int fan)] [] (hp ly (setR S (t + 23) (filN s (tKy S t) j))) Qc XC := by
  intro d
  induction d with
  | zero =>
    intro j hj
    obtain rfl : j = m := by omega
    refine G_iload dX5_growPacked_116 rfl ?_
    refine G_iload dX5_growPacked_118 rfl ?_
    refine G_icmp_ge (tgt := 143) dX5_growPacked_120 (by decide) (fun c_120 => ?_) (fun c_120 => ?_)
    · refine G_sub [1, 2, 3, 4, 5] rfl ?_
      exact kk
    · exact absurd (nI_le (Nat.le_refl _) (by omega)) c_120
  | succ d ih =>
    intro j hj
    have z := ih (j + 1) (by omega)
    rw [filN_s] at z
    have esub : nI (s + j) - nI s = nI j := by rw [pk_sub (by omega), Nat.add_sub_cancel_left]
    refine G_iload dX5_growPacked_116 rfl ?_
    refine G_iload dX5_growPacked_118 rfl ?_
    refine G_icmp_ge (tgt := 143) dX5_growPacked_120 (by decide) (fun c_120 => ?_) (fun c_120 => ?_)
    · exact absurd c_120 (nI_ge (show s + j < s + m by omega) (by omega))
    · refine G_aload_n dX5_growPacked_123 rfl ?_
      refine G_get (k := 7) dX5_growPacked_124 (cTree ht) rfl wfl_X5_42 (by decide) rfl ?_
      refine G_iload dX5_growPacked_127 rfl ?_
      refine G_iload dX5_growPacked_129 rfl ?_
      refine G_isub dX5_growPacked_131 ?_
      rw [esub]
      refine G_iload dX5_growPacked_132 rfl ?_
      refine G_cVv (As := [_, _]) dX5_growPacked_134 kV_X3_put wml_X5_87 (sp_X3_put (tKeys ht)) rfl (cRow (tKeys ht)) rfl rfl rfl (by decide) ⟨Nat.le_refl 0, Nat.le_refl 0⟩ (Nat.le_of_ble_eq_true rfl) ?_
      refine GS_iinc (v := 1) (L' := [(8, _), (7, _), (6, _), (5, _), (0, _), (3, _)]) dX5_growPacked_137 rfl (by decide) (by decide) rfl ?_
      refine G_goto (tgt := 116) dX5_growPacked_140 (by decide) ?_
      refine G_sub [0, 1, 2, 3, 4, 5] rfl ?_
      rw [nI_1 (s + j), setR_twice, rput_nI (show j < 80 by omega) (by decide), setR_eq]
      exact z
set_option maxHeartbeats 200000 in
theorem lp_growPl (ht : isTree ly t) (hf : fn ≤ 8) {P : Option Value → VH → Prop} : ∀ f level s (S : St), level + f = 11 → gpOk S t fn f s level → P none (hp ly (setI (gpR S t fn f s level) t 9 (tN (gpR S t fn f s level) t - 1))) → G K MX5_growPacked 14 0 0 0 0 88 [(6, .int (nI level)), (5, .int (nI s)), (0, .ref t), (3, .int (nI fn))] [] (hp ly S) (QcP K P) (XcP K noX) := by
  intro f
  induction f with
  | zero =>
    intro level s S hl hok hP
    obtain rfl : level = 11 := by omega
    refine G_iload dX5_growPacked_88 rfl ?_
    refine G_bipush (v := 11) dX5_growPacked_90 (by decide) ?_
    refine G_icmp_ge (tgt := 178) dX5_growPacked_92 (by decide) (fun c_92 => ?_) (fun c_92 => ?_)
    · refine G_aload_n dX5_growPacked_178 rfl ?_
      refine G_aload_n dX5_growPacked_179 rfl ?_
      refine G_get (k := 8) dX5_growPacked_180 (cTree ht) rfl wfl_X5_52 (by decide) rfl ?_
      refine G_iconst (v := 1) dX5_growPacked_183 (by decide) ?_
      refine G_isub dX5_growPacked_184 ?_
      refine G_setI (k := 9) dX5_growPacked_185 (sTree ht).1 (sTree ht).2.1 (sTree ht).2.2 rfl rfl wfl_X5_60 (by decide) rfl rfl ?_
      exact G_vret dX5_growPacked_188 rfl ⟨Nat.le_refl 0, Nat.le_refl 0⟩ hP
    · exact absurd (by decide) c_92
  | succ f ih =>
    intro level s S hl hok hP
    obtain ⟨hN, h1, h2, h3, h4⟩ := hok
    rw [gpR] at hP
    generalize nN S t = N at hN h1 h2 h3 h4 hP
    have esub : nI N - nI s = nI (N - s) := pk_sub h1
    have hsN : s + (N - s) = N := by omega
    refine G_iload dX5_growPacked_88 rfl ?_
    refine G_bipush (v := 11) dX5_growPacked_90 (by decide) ?_
    refine G_icmp_ge (tgt := 178) dX5_growPacked_92 (by decide) (fun c_92 => ?_) (fun c_92 => ?_)
    · exact absurd c_92 (nI_ge (show level < 11 by omega) (by decide))
    · refine G_aload_n dX5_growPacked_95 rfl ?_
      refine G_get (k := 8) dX5_growPacked_96 (cTree ht) rfl wfl_X5_52 (by decide) rfl ?_
      refine G_iload dX5_growPacked_99 rfl ?_
      rw [show S.2.1 t 8 = nI N from hN]
      refine G_isub dX5_growPacked_101 ?_
      rw [esub]
      refine G_iconst (v := 1) dX5_growPacked_102 (by decide) ?_
      refine G_icmp_le (tgt := 178) dX5_growPacked_103 (by decide) (fun c_103 => ?_) (fun c_103 => ?_)
      · refine G_aload_n dX5_growPacked_178 rfl ?_
        refine G_aload_n dX5_growPacked_179 rfl ?_
        refine G_get (k := 8) dX5_growPacked_180 (cTree ht) rfl wfl_X5_52 (by decide) rfl ?_
        refine G_iconst (v := 1) dX5_growPacked_183 (by decide) ?_
        refine G_isub dX5_growPacked_184 ?_
        refine G_setI (k := 9) dX5_growPacked_185 (sTree ht).1 (sTree ht).2.1 (sTree ht).2.2 rfl rfl wfl_X5_60 (by decide) rfl rfl ?_
        exact G_vret dX5_growPacked_188 rfl ⟨Nat.le_refl 0, Nat.le_refl 0⟩ (by rw [if_neg (fun q => absurd c_103 (nI_ge (a := 1) q (by omega)))] at hP; exact hP)
      · refine G_aload_n dX5_growPacked_106 rfl ?_
        refine G_get (k := 8) dX5_growPacked_107 (cTree ht) rfl wfl_X5_52 (by decide) rfl ?_
        rw [show S.2.1 t 8 = nI N from hN]
        refine GS_istore (L' := [(7, _), (6, _), (5, _), (0, _), (3, _)]) dX5_growPacked_110 (by decide) rfl ?_
        refine G_iload dX5_growPacked_112 rfl ?_
        refine GS_istore (L' := [(8, _), (7, _), (6, _), (5, _), (0, _), (3, _)]) dX5_growPacked_114 (by decide) rfl ?_
        refine G_sub [0, 1, 2, 3, 4, 5] rfl ?_
        have hlt : 1 < N - s := by
          rcases Nat.lt_or_ge 1 (N - s) with q | q
          · exact q
          · exact absurd (show nI (N - s) ≤ nI 1 from nI_le q (by omega)) c_103
        rw [if_pos hlt] at hP
        have z := lp_growPn (K := K) (ly := ly) (S := S) (t := t) ht (s := s) (m := N - s) (by omega) (by omega) (level := nI level) (fan := nI fn) (Qc := QcP K P) (XC := XcP K noX) (by
          rw [hsN]
          refine G_aload_n dX5_growPacked_143 rfl ?_
          refine G_aload_n dX5_growPacked_144 rfl ?_
          refine G_get (k := 0) dX5_growPacked_145 (cTree ht) rfl wfl_X5_14 (by decide) rfl ?_
          refine G_iload dX5_growPacked_148 rfl ?_
          refine G_iload dX5_growPacked_150 rfl ?_
          refine G_isub dX5_growPacked_152 ?_
          rw [esub]
          refine G_iload_n dX5_growPacked_153 rfl ?_
          refine G_cVv (As := [_, _, _]) dX5_growPacked_154 kV_X5_orderToPack wml_X5_120 (sp_X5_orderToPack (m := N - s) ht (bTree ht) ⟨by omega, by omega, by omega, by omega⟩ (by omega) hf) rfl (cTree ht) rfl rfl rfl (by decide) ⟨Nat.le_refl 0, Nat.le_refl 0⟩ (Nat.le_of_ble_eq_true rfl) ?_
          refine G_aload_n dX5_growPacked_157 rfl ?_
          refine G_iload dX5_growPacked_158 rfl ?_
          refine G_iload dX5_growPacked_160 rfl ?_
          refine G_iload_n dX5_growPacked_162 rfl ?_
          refine G_iload dX5_growPacked_163 rfl ?_
          refine G_cVv (As := [_, _, _, _]) dX5_growPacked_165 kV_X5_cutNodes wml_X5_127 (by have q := sp_X5_cutNodes (K := K) (ly := ly) (S := gpPre S t fn s N) (m := N - s) (s := s) (fan := nI fn) (level := nI level) ht (by omega); rw [hsN] at q; exact q) rfl (cTree ht) rfl rfl rfl (by decide) ⟨Nat.le_refl 0, Nat.le_refl 0⟩ (Nat.le_of_ble_eq_true rfl) ?_
          refine G_iload dX5_growPacked_168 rfl ?_
          refine GS_istore (L' := [(5, _), (7, _), (6, _), (0, _), (3, _)]) dX5_growPacked_170 (by decide) rfl ?_
          refine GS_iinc (v := 1) (L' := [(6, _), (5, _), (7, _), (0, _), (3, _)]) dX5_growPacked_172 rfl (by decide) (by decide) rfl ?_
          refine G_goto (tgt := 88) dX5_growPacked_175 (by decide) ?_
          refine G_sub [0, 1, 3, 4] rfl ?_
          rw [nI_1 level]
          exact ih (level + 1) N _ (by omega) (h4 hlt) hP) (N - s) 0 (by omega)
        rw [filN_0, show setR S (t + 23) (tKy S t) = S from setR_self, hsN] at z
        exact z
set_option maxHeartbeats 200000 in
theorem sp_X5_growPacked (ht : isTree ly t) (hc : tc S = nI c) (h80 : c ≤ 80) (hf2 : 2 ≤ fn) (hf : fn ≤ 8) {layer : Int32} (hok : ¬ cnt (inL (fellS S t) layer) c = 0 → gpOk (pk3 S t c fn layer) t fn 10 0 1) : Sp K MX5_growPacked 14 0 0 [.ref t, .ref 1, .int layer, .int (nI fn)] (hp ly S) (fun v u => v = none ∧ u = hp ly (growP S t c fn layer)) noX := by
  refine Sp_of (by decide) (Nat.le_of_ble_eq_true rfl) ?_
  have hne := isTree_ne ht
  have hcf : tc (fellS S t) = nI c := by
    show tc (setI (setI S t 8 0) t 9 0) = _
    rw [tc_setI hne.1, tc_setI hne.1]; exact hc
  have hm := cnt_le (inL (fellS S t) layer) c
  refine G_aload_n dX5_growPacked_0 rfl ?_
  refine G_cVv (As := []) dX5_growPacked_1 kV_X5_fell wml_X5_94 (sp_X5_fell ht) rfl (cTree ht) rfl rfl rfl (by decide) ⟨Nat.le_refl 0, Nat.le_refl 0⟩ (Nat.le_of_ble_eq_true rfl) ?_
  refine G_iconst (v := 0) dX5_growPacked_4 (by decide) ?_
  refine GS_istore (L' := [(4, _), (0, _), (1, _), (2, _), (3, _)]) dX5_growPacked_5 (by decide) rfl ?_
  refine G_iconst (v := 0) dX5_growPacked_7 (by decide) ?_
  refine GS_istore (L' := [(5, _), (4, _), (0, _), (1, _), (2, _), (3, _)]) dX5_growPacked_8 (by decide) rfl ?_
  refine G_sub [0, 1, 2, 3, 4, 5] rfl ?_
  have z := lp_growPf (K := K) (ly := ly) (S := fellS S t) (t := t) (c := c) ht hcf h80 (layer := layer) (fan := nI fn) (Qc := QcP K (fun v u => v = none ∧ u = hp ly (growP S t c fn layer))) (XC := XcP K noX) (by
    refine G_iload dX5_growPacked_49 rfl ?_
    refine G_if_eq (tgt := 59) dX5_growPacked_51 (by decide) (fun c_51 => ?_) (fun c_51 => ?_)
    · have h0 : cnt (inL (fellS S t) layer) c = 0 := by
        rcases Nat.eq_zero_or_pos (cnt (inL (fellS S t) layer) c) with q | q
        · exact q
        · exact absurd c_51 (nI_ne0 q (by omega))
      exact G_vret dX5_growPacked_59 rfl ⟨Nat.le_refl 0, Nat.le_refl 0⟩ ⟨rfl, by unfold growP; rw [if_pos h0]; rfl⟩
    · have h0 : ¬ cnt (inL (fellS S t) layer) c = 0 := fun q => c_51 (by rw [q]; rfl)
      refine G_iload_n dX5_growPacked_54 rfl ?_
      refine G_iconst (v := 2) dX5_growPacked_55 (by decide) ?_
      refine G_icmp_ge (tgt := 60) dX5_growPacked_56 (by decide) (fun c_56 => ?_) (fun c_56 => ?_)
      · refine G_aload_n dX5_growPacked_60 rfl ?_
        refine G_aload_n dX5_growPacked_61 rfl ?_
        refine G_getN (k := 0) dX5_growPacked_62 cThings rfl wfn_X5_119 (by decide) rfl ?_
        refine G_iload dX5_growPacked_65 rfl ?_
        refine G_iload_n dX5_growPacked_67 rfl ?_
        refine G_cVv (As := [_, _, _]) dX5_growPacked_68 kV_X5_orderToPack wml_X5_120 (sp_X5_orderToPack (m := cnt (inL (fellS S t) layer) c) ht bThings ⟨by omega, by omega, by omega, by omega⟩ (by omega) hf) rfl (cTree ht) rfl rfl rfl (by decide) ⟨Nat.le_refl 0, Nat.le_refl 0⟩ (Nat.le_of_ble_eq_true rfl) ?_
        refine G_aload_n dX5_growPacked_71 rfl ?_
        refine G_aload_n dX5_growPacked_72 rfl ?_
        refine G_getN (k := 0) dX5_growPacked_73 cThings rfl wfn_X5_119 (by decide) rfl ?_
        refine G_iload dX5_growPacked_76 rfl ?_
        refine G_iload_n dX5_growPacked_78 rfl ?_
        refine G_cVv (As := [_, _, _]) dX5_growPacked_79 kV_X5_cutLeaves wml_X5_124 (sp_X5_cutLeaves ht bThings (by omega)) rfl (cTree ht) rfl rfl rfl (by decide) ⟨Nat.le_refl 0, Nat.le_refl 0⟩ (Nat.le_of_ble_eq_true rfl) ?_
        refine G_iconst (v := 0) dX5_growPacked_82 (by decide) ?_
        refine GS_istore (L' := [(5, _), (4, _), (0, _), (1, _), (2, _), (3, _)]) dX5_growPacked_83 (by decide) rfl ?_
        refine G_iconst (v := 1) dX5_growPacked_85 (by decide) ?_
        refine GS_istore (L' := [(6, _), (5, _), (4, _), (0, _), (1, _), (2, _), (3, _)]) dX5_growPacked_86 (by decide) rfl ?_
        refine G_sub [0, 1, 3, 6] rfl ?_
        exact lp_growPl ht hf 10 1 0 _ (by omega) (hok h0) ⟨rfl, by unfold growP; rw [if_neg h0]; rfl⟩
      · exact absurd (show nI 2 ≤ nI fn from nI_le hf2 (by omega)) c_56) c 0 (by omega)
  rw [kfil, setR_self] at z
  exact z
end PL
