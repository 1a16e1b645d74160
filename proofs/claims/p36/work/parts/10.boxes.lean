theorem setR_ne {S : St} {a c : Nat} {f : Nat → Int32} (h : c ≠ a) : (setR S a f).1 c = S.1 c := if_neg h
theorem setR_eq {S : St} {a : Nat} {f : Nat → Int32} : (setR S a f).1 a = f := if_pos rfl
theorem setR_I {S : St} {a : Nat} {f : Nat → Int32} : (setR S a f).2 = S.2 := rfl
def mx (x y : Int32) : Int32 := if x < y then y else x
def mn (x y : Int32) : Int32 := if y < x then y else x
def gapf (a la b lb : Int32) : Int32 := mx 0 (mx (a - b - lb) (b - a - la))
/-- how far two boxes are -/
def ffar (x y w h x' y' w' h' : Int32) : Int32 := gapf x w x' w' * gapf x w x' w' + gapf y h y' h' * gapf y h y' h'
/-- a box of the row of boxes at b: x, y, w, h -/
abbrev bX (S : St) (b n : Nat) (i : Int32) : Int32 := rat (S.1 (b + 2)) n i
abbrev bY (S : St) (b n : Nat) (i : Int32) : Int32 := rat (S.1 (b + 4)) n i
abbrev bW (S : St) (b n : Nat) (i : Int32) : Int32 := rat (S.1 (b + 6)) n i
abbrev bH (S : St) (b n : Nat) (i : Int32) : Int32 := rat (S.1 (b + 8)) n i
def bfar (S : St) (b n : Nat) (i x y w h : Int32) : Int32 := ffar (bX S b n i) (bY S b n i) (bW S b n i) (bH S b n i) x y w h
def bput (S : St) (b n : Nat) (i x y w h : Int32) : St := setR (setR (setR (setR S (b + 2) (rput (S.1 (b + 2)) n i x)) (b + 4) (rput (S.1 (b + 4)) n i y)) (b + 6) (rput (S.1 (b + 6)) n i w)) (b + 8) (rput (S.1 (b + 8)) n i h)
section BX
variable {K : GK} {ly : Nat} {S : St} {b b' n n' : Nat}
theorem sp_X0_gap {h : VH} {x w x' w' : Int32} : Sp K MX0_gap 2 0 0 [.int x, .int w, .int x', .int w'] h (fun v u => v = some (.int (gapf x w x' w')) ∧ u = h) noX := by
  refine Sp_of (by decide) (Nat.le_of_ble_eq_true rfl) ?_
  refine G_iconst (v := 0) dX0_gap_0 (by decide) ?_
  refine G_iload_n dX0_gap_1 rfl ?_
  refine G_iload_n dX0_gap_2 rfl ?_
  refine G_isub dX0_gap_3 ?_
  refine G_iload_n dX0_gap_4 rfl ?_
  refine G_isub dX0_gap_5 ?_
  refine G_iload_n dX0_gap_6 rfl ?_
  refine G_iload_n dX0_gap_7 rfl ?_
  refine G_isub dX0_gap_8 ?_
  refine G_iload_n dX0_gap_9 rfl ?_
  refine G_isub dX0_gap_10 ?_
  refine G_max dX0_gap_11 wml_X0_43 (by decide) ⟨Nat.le_refl 0, Nat.le_refl 0⟩ (Nat.le_of_ble_eq_true rfl) ?_
  refine G_max dX0_gap_14 wml_X0_43 (by decide) ⟨Nat.le_refl 0, Nat.le_refl 0⟩ (Nat.le_of_ble_eq_true rfl) ?_
  exact G_iret dX0_gap_17 rfl rfl ⟨Nat.le_refl 0, Nat.le_refl 0⟩ ⟨rfl, rfl⟩
theorem sp_X0_twiceMiddleX (hb : isBoxes ly b n) {i : Int32} : Sp K MX0_twiceMiddleX 4 0 0 [.ref b, .int i] (hp ly S) (fun v u => v = some (.int (2 * bX S b n i + bW S b n i)) ∧ u = hp ly S) noX := by
  refine Sp_of (by decide) (Nat.le_of_ble_eq_true rfl) ?_
  refine G_iconst (v := 2) dX0_twiceMiddleX_0 (by decide) ?_
  refine G_aload_n dX0_twiceMiddleX_1 rfl ?_
  refine G_get (k := 0) dX0_twiceMiddleX_2 (cBox hb) rfl wfl_X0_12 (by decide) rfl ?_
  refine G_iload_n dX0_twiceMiddleX_5 rfl ?_
  refine G_cVi (As := [_]) dX0_twiceMiddleX_6 kV_X3_at wml_X0_31 (sp_X3_at hb.2.2.2.1) rfl (cRow hb.2.2.2.1) rfl rfl rfl (by decide) ⟨Nat.le_refl 0, Nat.le_refl 0⟩ (Nat.le_of_ble_eq_true rfl) ?_
  refine G_imul dX0_twiceMiddleX_9 ?_
  refine G_aload_n dX0_twiceMiddleX_10 rfl ?_
  refine G_get (k := 2) dX0_twiceMiddleX_11 (cBox hb) rfl wfl_X0_21 (by decide) rfl ?_
  refine G_iload_n dX0_twiceMiddleX_14 rfl ?_
  refine G_cVi (As := [_]) dX0_twiceMiddleX_15 kV_X3_at wml_X0_31 (sp_X3_at hb.2.2.2.2.2.1) rfl (cRow hb.2.2.2.2.2.1) rfl rfl rfl (by decide) ⟨Nat.le_refl 0, Nat.le_refl 0⟩ (Nat.le_of_ble_eq_true rfl) ?_
  refine G_iadd dX0_twiceMiddleX_18 ?_
  exact G_iret dX0_twiceMiddleX_19 rfl rfl ⟨Nat.le_refl 0, Nat.le_refl 0⟩ ⟨rfl, rfl⟩
theorem sp_X0_twiceMiddleY (hb : isBoxes ly b n) {i : Int32} : Sp K MX0_twiceMiddleY 4 0 0 [.ref b, .int i] (hp ly S) (fun v u => v = some (.int (2 * bY S b n i + bH S b n i)) ∧ u = hp ly S) noX := by
  refine Sp_of (by decide) (Nat.le_of_ble_eq_true rfl) ?_
  refine G_iconst (v := 2) dX0_twiceMiddleY_0 (by decide) ?_
  refine G_aload_n dX0_twiceMiddleY_1 rfl ?_
  refine G_get (k := 1) dX0_twiceMiddleY_2 (cBox hb) rfl wfl_X0_18 (by decide) rfl ?_
  refine G_iload_n dX0_twiceMiddleY_5 rfl ?_
  refine G_cVi (As := [_]) dX0_twiceMiddleY_6 kV_X3_at wml_X0_31 (sp_X3_at hb.2.2.2.2.1) rfl (cRow hb.2.2.2.2.1) rfl rfl rfl (by decide) ⟨Nat.le_refl 0, Nat.le_refl 0⟩ (Nat.le_of_ble_eq_true rfl) ?_
  refine G_imul dX0_twiceMiddleY_9 ?_
  refine G_aload_n dX0_twiceMiddleY_10 rfl ?_
  refine G_get (k := 3) dX0_twiceMiddleY_11 (cBox hb) rfl wfl_X0_24 (by decide) rfl ?_
  refine G_iload_n dX0_twiceMiddleY_14 rfl ?_
  refine G_cVi (As := [_]) dX0_twiceMiddleY_15 kV_X3_at wml_X0_31 (sp_X3_at hb.2.2.2.2.2.2) rfl (cRow hb.2.2.2.2.2.2) rfl rfl rfl (by decide) ⟨Nat.le_refl 0, Nat.le_refl 0⟩ (Nat.le_of_ble_eq_true rfl) ?_
  refine G_iadd dX0_twiceMiddleY_18 ?_
  exact G_iret dX0_twiceMiddleY_19 rfl rfl ⟨Nat.le_refl 0, Nat.le_refl 0⟩ ⟨rfl, rfl⟩
theorem sp_X0_farFrom (hb : isBoxes ly b n) {i x y w h : Int32} : Sp K MX0_farFrom 4 0 0 [.ref b, .int i, .int x, .int y, .int w, .int h] (hp ly S) (fun v u => v = some (.int (bfar S b n i x y w h)) ∧ u = hp ly S) noX := by
  refine Sp_of (by decide) (Nat.le_of_ble_eq_true rfl) ?_
  refine G_aload_n dX0_farFrom_0 rfl ?_
  refine G_get (k := 0) dX0_farFrom_1 (cBox hb) rfl wfl_X0_12 (by decide) rfl ?_
  refine G_iload_n dX0_farFrom_4 rfl ?_
  refine G_cVi (As := [_]) dX0_farFrom_5 kV_X3_at wml_X0_31 (sp_X3_at hb.2.2.2.1) rfl (cRow hb.2.2.2.1) rfl rfl rfl (by decide) ⟨Nat.le_refl 0, Nat.le_refl 0⟩ (Nat.le_of_ble_eq_true rfl) ?_
  refine G_aload_n dX0_farFrom_8 rfl ?_
  refine G_get (k := 2) dX0_farFrom_9 (cBox hb) rfl wfl_X0_21 (by decide) rfl ?_
  refine G_iload_n dX0_farFrom_12 rfl ?_
  refine G_cVi (As := [_]) dX0_farFrom_13 kV_X3_at wml_X0_31 (sp_X3_at hb.2.2.2.2.2.1) rfl (cRow hb.2.2.2.2.2.1) rfl rfl rfl (by decide) ⟨Nat.le_refl 0, Nat.le_refl 0⟩ (Nat.le_of_ble_eq_true rfl) ?_
  refine G_iload_n dX0_farFrom_16 rfl ?_
  refine G_iload dX0_farFrom_17 rfl ?_
  refine G_cSi (As := [_, _, _, _]) dX0_farFrom_19 kT_X0_gap wml_X0_35 sp_X0_gap rfl rfl (by decide) ⟨Nat.le_refl 0, Nat.le_refl 0⟩ (Nat.le_of_ble_eq_true rfl) ?_
  refine GS_istore (L' := [(6, _), (0, _), (1, _), (2, _), (3, _), (4, _), (5, _)]) dX0_farFrom_22 (by decide) rfl ?_
  refine G_aload_n dX0_farFrom_24 rfl ?_
  refine G_get (k := 1) dX0_farFrom_25 (cBox hb) rfl wfl_X0_18 (by decide) rfl ?_
  refine G_iload_n dX0_farFrom_28 rfl ?_
  refine G_cVi (As := [_]) dX0_farFrom_29 kV_X3_at wml_X0_31 (sp_X3_at hb.2.2.2.2.1) rfl (cRow hb.2.2.2.2.1) rfl rfl rfl (by decide) ⟨Nat.le_refl 0, Nat.le_refl 0⟩ (Nat.le_of_ble_eq_true rfl) ?_
  refine G_aload_n dX0_farFrom_32 rfl ?_
  refine G_get (k := 3) dX0_farFrom_33 (cBox hb) rfl wfl_X0_24 (by decide) rfl ?_
  refine G_iload_n dX0_farFrom_36 rfl ?_
  refine G_cVi (As := [_]) dX0_farFrom_37 kV_X3_at wml_X0_31 (sp_X3_at hb.2.2.2.2.2.2) rfl (cRow hb.2.2.2.2.2.2) rfl rfl rfl (by decide) ⟨Nat.le_refl 0, Nat.le_refl 0⟩ (Nat.le_of_ble_eq_true rfl) ?_
  refine G_iload_n dX0_farFrom_40 rfl ?_
  refine G_iload dX0_farFrom_41 rfl ?_
  refine G_cSi (As := [_, _, _, _]) dX0_farFrom_43 kT_X0_gap wml_X0_35 sp_X0_gap rfl rfl (by decide) ⟨Nat.le_refl 0, Nat.le_refl 0⟩ (Nat.le_of_ble_eq_true rfl) ?_
  refine GS_istore (L' := [(7, _), (6, _), (0, _), (1, _), (2, _), (3, _), (4, _), (5, _)]) dX0_farFrom_46 (by decide) rfl ?_
  refine G_iload dX0_farFrom_48 rfl ?_
  refine G_iload dX0_farFrom_50 rfl ?_
  refine G_imul dX0_farFrom_52 ?_
  refine G_iload dX0_farFrom_53 rfl ?_
  refine G_iload dX0_farFrom_55 rfl ?_
  refine G_imul dX0_farFrom_57 ?_
  refine G_iadd dX0_farFrom_58 ?_
  exact G_iret dX0_farFrom_59 rfl rfl ⟨Nat.le_refl 0, Nat.le_refl 0⟩ ⟨rfl, rfl⟩
theorem sp_X0_farBetween (hb : isBoxes ly b n) (hb' : isBoxes ly b' n') {i j : Int32} : Sp K MX0_farBetween 5 0 0 [.ref b, .int i, .ref b', .int j] (hp ly S) (fun v u => v = some (.int (bfar S b n i (bX S b' n' j) (bY S b' n' j) (bW S b' n' j) (bH S b' n' j))) ∧ u = hp ly S) noX := by
  refine Sp_of (by decide) (Nat.le_of_ble_eq_true rfl) ?_
  refine G_aload_n dX0_farBetween_0 rfl ?_
  refine G_iload_n dX0_farBetween_1 rfl ?_
  refine G_aload_n dX0_farBetween_2 rfl ?_
  refine G_get (k := 0) dX0_farBetween_3 (cBox hb') rfl wfl_X0_12 (by decide) rfl ?_
  refine G_iload_n dX0_farBetween_6 rfl ?_
  refine G_cVi (As := [_]) dX0_farBetween_7 kV_X3_at wml_X0_31 (sp_X3_at hb'.2.2.2.1) rfl (cRow hb'.2.2.2.1) rfl rfl rfl (by decide) ⟨Nat.le_refl 0, Nat.le_refl 0⟩ (Nat.le_of_ble_eq_true rfl) ?_
  refine G_aload_n dX0_farBetween_10 rfl ?_
  refine G_get (k := 1) dX0_farBetween_11 (cBox hb') rfl wfl_X0_18 (by decide) rfl ?_
  refine G_iload_n dX0_farBetween_14 rfl ?_
  refine G_cVi (As := [_]) dX0_farBetween_15 kV_X3_at wml_X0_31 (sp_X3_at hb'.2.2.2.2.1) rfl (cRow hb'.2.2.2.2.1) rfl rfl rfl (by decide) ⟨Nat.le_refl 0, Nat.le_refl 0⟩ (Nat.le_of_ble_eq_true rfl) ?_
  refine G_aload_n dX0_farBetween_18 rfl ?_
  refine G_get (k := 2) dX0_farBetween_19 (cBox hb') rfl wfl_X0_21 (by decide) rfl ?_
  refine G_iload_n dX0_farBetween_22 rfl ?_
  refine G_cVi (As := [_]) dX0_farBetween_23 kV_X3_at wml_X0_31 (sp_X3_at hb'.2.2.2.2.2.1) rfl (cRow hb'.2.2.2.2.2.1) rfl rfl rfl (by decide) ⟨Nat.le_refl 0, Nat.le_refl 0⟩ (Nat.le_of_ble_eq_true rfl) ?_
  refine G_aload_n dX0_farBetween_26 rfl ?_
  refine G_get (k := 3) dX0_farBetween_27 (cBox hb') rfl wfl_X0_24 (by decide) rfl ?_
  refine G_iload_n dX0_farBetween_30 rfl ?_
  refine G_cVi (As := [_]) dX0_farBetween_31 kV_X3_at wml_X0_31 (sp_X3_at hb'.2.2.2.2.2.2) rfl (cRow hb'.2.2.2.2.2.2) rfl rfl rfl (by decide) ⟨Nat.le_refl 0, Nat.le_refl 0⟩ (Nat.le_of_ble_eq_true rfl) ?_
  refine G_cVi (As := [_, _, _, _, _]) dX0_farBetween_34 kV_X0_farFrom wml_X0_39 (sp_X0_farFrom hb) rfl (cBox hb) rfl rfl rfl (by decide) ⟨Nat.le_refl 0, Nat.le_refl 0⟩ (Nat.le_of_ble_eq_true rfl) ?_
  exact G_iret dX0_farBetween_37 rfl rfl ⟨Nat.le_refl 0, Nat.le_refl 0⟩ ⟨rfl, rfl⟩
theorem sp_X0_put (hb : isBoxes ly b n) {i x y w h : Int32} : Sp K MX0_put 4 0 0 [.ref b, .int i, .int x, .int y, .int w, .int h] (hp ly S) (fun v u => v = none ∧ u = hp ly (bput S b n i x y w h)) noX := by
  refine Sp_of (by decide) (Nat.le_of_ble_eq_true rfl) ?_
  refine G_aload_n dX0_put_0 rfl ?_
  refine G_get (k := 0) dX0_put_1 (cBox hb) rfl wfl_X0_12 (by decide) rfl ?_
  refine G_iload_n dX0_put_4 rfl ?_
  refine G_iload_n dX0_put_5 rfl ?_
  refine G_cVv (As := [_, _]) dX0_put_6 kV_X3_put wml_X0_27 (sp_X3_put hb.2.2.2.1) rfl (cRow hb.2.2.2.1) rfl rfl rfl (by decide) ⟨Nat.le_refl 0, Nat.le_refl 0⟩ (Nat.le_of_ble_eq_true rfl) ?_
  refine G_aload_n dX0_put_9 rfl ?_
  refine G_get (k := 1) dX0_put_10 (cBox hb) rfl wfl_X0_18 (by decide) rfl ?_
  refine G_iload_n dX0_put_13 rfl ?_
  refine G_iload_n dX0_put_14 rfl ?_
  refine G_cVv (As := [_, _]) dX0_put_15 kV_X3_put wml_X0_27 (sp_X3_put hb.2.2.2.2.1) rfl (cRow hb.2.2.2.2.1) rfl rfl rfl (by decide) ⟨Nat.le_refl 0, Nat.le_refl 0⟩ (Nat.le_of_ble_eq_true rfl) ?_
  refine G_aload_n dX0_put_18 rfl ?_
  refine G_get (k := 2) dX0_put_19 (cBox hb) rfl wfl_X0_21 (by decide) rfl ?_
  refine G_iload_n dX0_put_22 rfl ?_
  refine G_iload dX0_put_23 rfl ?_
  refine G_cVv (As := [_, _]) dX0_put_25 kV_X3_put wml_X0_27 (sp_X3_put hb.2.2.2.2.2.1) rfl (cRow hb.2.2.2.2.2.1) rfl rfl rfl (by decide) ⟨Nat.le_refl 0, Nat.le_refl 0⟩ (Nat.le_of_ble_eq_true rfl) ?_
  refine G_aload_n dX0_put_28 rfl ?_
  refine G_get (k := 3) dX0_put_29 (cBox hb) rfl wfl_X0_24 (by decide) rfl ?_
  refine G_iload_n dX0_put_32 rfl ?_
  refine G_iload dX0_put_33 rfl ?_
  refine G_cVv (As := [_, _]) dX0_put_35 kV_X3_put wml_X0_27 (sp_X3_put hb.2.2.2.2.2.2) rfl (cRow hb.2.2.2.2.2.2) rfl rfl rfl (by decide) ⟨Nat.le_refl 0, Nat.le_refl 0⟩ (Nat.le_of_ble_eq_true rfl) ?_
  exact G_vret dX0_put_38 rfl ⟨Nat.le_refl 0, Nat.le_refl 0⟩ ⟨rfl, by unfold bput; (simp (disch := omega) only [setR_ne, Nat.add_assoc, Nat.reduceAdd]) <;> rfl⟩
end BX
