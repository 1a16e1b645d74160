/-! packing: what orderToPack, cutLeaves, cutNodes and growPacked do, step by step -/
def mapA (φ : Int32 → Int32) (g : Nat → Int32) (j : Nat) : Nat → Int32 := fun k => if k < j then φ (g k) else g k
set_option maxHeartbeats 200000 in
theorem mapA_s {φ : Int32 → Int32} {g : Nat → Int32} {j : Nat} : mapA φ g (j + 1) = upd (mapA φ g j) j (φ (g j)) := by
  funext k
  unfold mapA upd
  by_cases hk : k = j
  · subst hk
    rw [if_pos (by omega), if_pos rfl]
  · rw [if_neg hk]
    show (if k < j + 1 then φ (g k) else g k) = if k < j then φ (g k) else g k
    by_cases q : k < j
    · rw [if_pos q, if_pos (by omega)]
    · rw [if_neg q, if_neg (by omega)]
set_option maxHeartbeats 200000 in
theorem mapA_0 {φ : Int32 → Int32} {g : Nat → Int32} : mapA φ g 0 = g := by funext k; unfold mapA; rw [if_neg (by omega)]
set_option maxHeartbeats 200000 in
theorem mapA_at {φ : Int32 → Int32} {g : Nat → Int32} {j : Nat} : mapA φ g j j = g j := by unfold mapA; rw [if_neg (by omega)]
def fX (S : St) (b n : Nat) (z : Int32) : Int32 := (2 * bX S b n z + bW S b n z) * 128 + z
def fY0 (S : St) (b n : Nat) (z : Int32) : Int32 := (2 * bY S b n z + bH S b n z) * 128 + z
def rem128 (z : Int32) : Int32 := z - z / 128 * 128
def fY (S : St) (b n : Nat) (z : Int32) : Int32 := fY0 S b n (rem128 z)
/-- how many slices, looked for from s on -/
def slN (count fan : Int32) (f s : Nat) : Nat := match f with
  | 0 => s
  | f + 1 => if nI s * nI s * fan < count then slN count fan f (s + 1) else s
set_option maxHeartbeats 200000 in
theorem slN_le {count fan : Int32} : ∀ f s, slN count fan f s ≤ s + f := by
  intro f
  induction f with
  | zero => intro s; exact Nat.le_refl s
  | succ f ih =>
    intro s
    rw [slN]
    split
    · have := ih (s + 1); omega
    · omega
def lenN (m fn : Nat) : Nat := if 1 < slN (nI m) (nI fn) 80 0 * fn then slN (nI m) (nI fn) 80 0 * fn else 1
def soR (f : Nat → Int32) (len n k a : Nat) : Nat → Int32 := match k with
  | 0 => f
  | k + 1 => if a < n then soR (srtA f a a ((if a + len < n then a + len else n) - a)) len n k (a + len) else f
def otp (S : St) (b n m fn : Nat) (g : Nat → Int32) : Nat → Int32 :=
  mapA rem128 (soR (mapA (fY S b n) (srtA (mapA (fX S b n) g m) 0 0 m) m) (lenN m fn) m (m + 1) 0) m
abbrev oS (S : St) (t : Nat) (g : Nat → Int32) : St := setR S (t + 23) g
/-- boxes that the keys are not among -/
def offK (t b : Nat) : Prop := b + 2 ≠ t + 23 ∧ b + 4 ≠ t + 23 ∧ b + 6 ≠ t + 23 ∧ b + 8 ≠ t + 23
set_option maxHeartbeats 200000 in
theorem bX_o {S : St} {t b n : Nat} {g : Nat → Int32} {z : Int32} (h : offK t b) : bX (oS S t g) b n z = bX S b n z := by show rat ((setR S (t + 23) g).1 (b + 2)) n z = _; rw [setR_ne h.1]
set_option maxHeartbeats 200000 in
theorem bY_o {S : St} {t b n : Nat} {g : Nat → Int32} {z : Int32} (h : offK t b) : bY (oS S t g) b n z = bY S b n z := by show rat ((setR S (t + 23) g).1 (b + 4)) n z = _; rw [setR_ne h.2.1]
set_option maxHeartbeats 200000 in
theorem bW_o {S : St} {t b n : Nat} {g : Nat → Int32} {z : Int32} (h : offK t b) : bW (oS S t g) b n z = bW S b n z := by show rat ((setR S (t + 23) g).1 (b + 6)) n z = _; rw [setR_ne h.2.2.1]
set_option maxHeartbeats 200000 in
theorem bH_o {S : St} {t b n : Nat} {g : Nat → Int32} {z : Int32} (h : offK t b) : bH (oS S t g) b n z = bH S b n z := by show rat ((setR S (t + 23) g).1 (b + 8)) n z = _; rw [setR_ne h.2.2.2]
set_option maxHeartbeats 200000 in
theorem ky_o {S : St} {t : Nat} {g : Nat → Int32} : (oS S t g).1 (t + 23) = g := setR_eq
section PK
variable {K : GK} {ly : Nat} {S : St} {t c b n m fn : Nat}

set_option maxHeartbeats 200000 in
theorem lp_slice {h : VH} {count fan : Int32} {P : Option Value → VH → Prop} : ∀ f s, s + f = 80 → P (some (.int (nI (slN count fan f s) * fan))) h → G K MX5_sliceLength 2 0 0 0 0 2 [(2, .int (nI s)), (0, .int count), (1, .int fan)] [] h (QcP K P) (XcP K noX) := by
  intro f
  induction f with
  | zero =>
    intro s hs q
    obtain rfl : s = 80 := by omega
    refine G_iload_n dX5_sliceLength_2 rfl ?_
    refine G_bipush (v := 80) dX5_sliceLength_3 (by decide) ?_
    refine G_icmp_ge (tgt := 23) dX5_sliceLength_5 (by decide) (fun c_5 => ?_) (fun c_5 => ?_)
    · refine G_iload_n dX5_sliceLength_23 rfl ?_
      refine G_iload_n dX5_sliceLength_24 rfl ?_
      refine G_imul dX5_sliceLength_25 ?_
      exact G_iret dX5_sliceLength_26 rfl rfl ⟨Nat.le_refl 0, Nat.le_refl 0⟩ q
    · exact absurd (by decide) c_5
  | succ f ih =>
    intro s hs q
    rw [slN] at q
    refine G_iload_n dX5_sliceLength_2 rfl ?_
    refine G_bipush (v := 80) dX5_sliceLength_3 (by decide) ?_
    refine G_icmp_ge (tgt := 23) dX5_sliceLength_5 (by decide) (fun c_5 => ?_) (fun c_5 => ?_)
    · exact absurd c_5 (nI_ge (show s < 80 by omega) (by decide))
    · refine G_iload_n dX5_sliceLength_8 rfl ?_
      refine G_iload_n dX5_sliceLength_9 rfl ?_
      refine G_imul dX5_sliceLength_10 ?_
      refine G_iload_n dX5_sliceLength_11 rfl ?_
      refine G_imul dX5_sliceLength_12 ?_
      refine G_iload_n dX5_sliceLength_13 rfl ?_
      refine G_icmp_ge (tgt := 23) dX5_sliceLength_14 (by decide) (fun c_14 => ?_) (fun c_14 => ?_)
      · refine G_iload_n dX5_sliceLength_23 rfl ?_
        refine G_iload_n dX5_sliceLength_24 rfl ?_
        refine G_imul dX5_sliceLength_25 ?_
        exact G_iret dX5_sliceLength_26 rfl rfl ⟨Nat.le_refl 0, Nat.le_refl 0⟩ (by rw [if_neg (fun z => absurd (Int32.lt_of_lt_of_le z c_14) Int32.lt_irrefl)] at q; exact q)
      · refine GS_iinc (v := 1) (L' := [(2, _), (0, _), (1, _)]) dX5_sliceLength_17 rfl (by decide) (by decide) rfl ?_
        refine G_goto (tgt := 2) dX5_sliceLength_20 (by decide) ?_
        refine G_sub [0, 1, 2] rfl ?_
        rw [nI_1 s]
        rw [if_pos (i32_nle c_14)] at q
        exact ih (s + 1) (by omega) q
set_option maxHeartbeats 200000 in
theorem sp_X5_sliceLength {h : VH} {count fan : Int32} : Sp K MX5_sliceLength 2 0 0 [.int count, .int fan] h (fun v u => v = some (.int (nI (slN count fan 80 0) * fan)) ∧ u = h) noX := by
  refine Sp_of (by decide) (Nat.le_of_ble_eq_true rfl) ?_
  refine G_iconst (v := 0) dX5_sliceLength_0 (by decide) ?_
  refine GS_istore_n (L' := [(2, _), (0, _), (1, _)]) dX5_sliceLength_1 (by decide) rfl ?_
  refine G_sub [0, 1, 2] rfl ?_
  exact lp_slice 80 0 rfl ⟨rfl, rfl⟩
set_option maxHeartbeats 200000 in
theorem lp_otp1 (ht : isTree ly t) (hb : isBoxes ly b n) (ho : offK t b) (hm : m ≤ 80) {g : Nat → Int32} {Qc : Array Value → State → Outcome → State → Prop} {XC : String → State → State → Prop} (kk : G K MX5_orderToPack 8 0 0 0 0 48 [(0, .ref t), (1, .ref b), (2, .int (nI m)), (3, .int (nI fn))] [] (hp ly (oS S t (mapA (fX S b n) g m))) Qc XC) : ∀ d j, j + d = m → G K MX5_orderToPack 8 0 0 0 0 3 [(4, .int (nI j)), (0, .ref t), (1, .ref b), (2, .int (nI m)), (3, .int (nI fn))] [] (hp ly (oS S t (mapA (fX S b n) g j))) Qc XC := by
  intro d
  induction d with
  | zero =>
    intro j hj
    obtain rfl : j = m := by omega
    refine G_iload dX5_orderToPack_3 rfl ?_
    refine G_iload_n dX5_orderToPack_5 rfl ?_
    refine G_icmp_ge (tgt := 48) dX5_orderToPack_6 (by decide) (fun c_6 => ?_) (fun c_6 => ?_)
    · refine G_sub [1, 2, 3, 4] rfl ?_
      exact kk
    · exact absurd (nI_le (Nat.le_refl _) (by omega)) c_6
  | succ d ih =>
    intro j hj
    have hj8 : j < 80 := by omega
    have z := ih (j + 1) (by omega)
    rw [mapA_s] at z
    have e0 : rat ((oS S t (mapA (fX S b n) g j)).1 (t + 23)) 80 (nI j) = g j := by rw [rat_nI hj8 (by decide), ky_o, mapA_at]
    refine G_iload dX5_orderToPack_3 rfl ?_
    refine G_iload_n dX5_orderToPack_5 rfl ?_
    refine G_icmp_ge (tgt := 48) dX5_orderToPack_6 (by decide) (fun c_6 => ?_) (fun c_6 => ?_)
    · exact absurd c_6 (nI_ge (show j < m by omega) (by omega))
    · refine G_aload_n dX5_orderToPack_9 rfl ?_
      refine G_get (k := 7) dX5_orderToPack_10 (cTree ht) rfl wfl_X5_42 (by decide) rfl ?_
      refine G_iload dX5_orderToPack_13 rfl ?_
      refine G_cVi (As := [_]) dX5_orderToPack_15 kV_X3_at wml_X5_48 (sp_X3_at (tKeys ht)) rfl (cRow (tKeys ht)) rfl rfl rfl (by decide) ⟨Nat.le_refl 0, Nat.le_refl 0⟩ (Nat.le_of_ble_eq_true rfl) ?_
      refine GS_istore (L' := [(5, _), (4, _), (0, _), (1, _), (2, _), (3, _)]) dX5_orderToPack_18 (by decide) rfl ?_
      refine G_aload_n dX5_orderToPack_20 rfl ?_
      refine G_get (k := 7) dX5_orderToPack_21 (cTree ht) rfl wfl_X5_42 (by decide) rfl ?_
      refine G_iload dX5_orderToPack_24 rfl ?_
      refine G_aload_n dX5_orderToPack_26 rfl ?_
      refine G_iload dX5_orderToPack_27 rfl ?_
      refine G_cVi (As := [_]) dX5_orderToPack_29 kV_X0_twiceMiddleX wml_X5_131 (sp_X0_twiceMiddleX hb) rfl (cBox hb) rfl rfl rfl (by decide) ⟨Nat.le_refl 0, Nat.le_refl 0⟩ (Nat.le_of_ble_eq_true rfl) ?_
      refine G_sipush (v := 128) dX5_orderToPack_32 (by decide) ?_
      refine G_imul dX5_orderToPack_35 ?_
      refine G_iload dX5_orderToPack_36 rfl ?_
      refine G_iadd dX5_orderToPack_38 ?_
      refine G_cVv (As := [_, _]) dX5_orderToPack_39 kV_X3_put wml_X5_87 (sp_X3_put (tKeys ht)) rfl (cRow (tKeys ht)) rfl rfl rfl (by decide) ⟨Nat.le_refl 0, Nat.le_refl 0⟩ (Nat.le_of_ble_eq_true rfl) ?_
      refine GS_iinc (v := 1) (L' := [(4, _), (5, _), (0, _), (1, _), (2, _), (3, _)]) dX5_orderToPack_42 rfl (by decide) (by decide) rfl ?_
      refine G_goto (tgt := 3) dX5_orderToPack_45 (by decide) ?_
      refine G_sub [0, 2, 3, 4, 5] rfl ?_
      rw [nI_1 j]
      rw [e0, bX_o ho, bW_o ho, setR_twice, rput_nI hj8 (by decide), ky_o]
      exact z
set_option maxHeartbeats 200000 in
theorem lp_otp2 (ht : isTree ly t) (hb : isBoxes ly b n) (ho : offK t b) (hm : m ≤ 80) {g : Nat → Int32} {Qc : Array Value → State → Outcome → State → Prop} {XC : String → State → State → Prop} (kk : G K MX5_orderToPack 8 0 0 0 0 109 [(0, .ref t), (1, .ref b), (2, .int (nI m)), (3, .int (nI fn))] [] (hp ly (oS S t (mapA (fY S b n) g m))) Qc XC) : ∀ d j, j + d = m → G K MX5_orderToPack 8 0 0 0 0 60 [(4, .int (nI j)), (0, .ref t), (1, .ref b), (2, .int (nI m)), (3, .int (nI fn))] [] (hp ly (oS S t (mapA (fY S b n) g j))) Qc XC := by
  intro d
  induction d with
  | zero =>
    intro j hj
    obtain rfl : j = m := by omega
    refine G_iload dX5_orderToPack_60 rfl ?_
    refine G_iload_n dX5_orderToPack_62 rfl ?_
    refine G_icmp_ge (tgt := 109) dX5_orderToPack_63 (by decide) (fun c_63 => ?_) (fun c_63 => ?_)
    · refine G_sub [1, 2, 3, 4] rfl ?_
      exact kk
    · exact absurd (nI_le (Nat.le_refl _) (by omega)) c_63
  | succ d ih =>
    intro j hj
    have hj8 : j < 80 := by omega
    have z := ih (j + 1) (by omega)
    rw [mapA_s] at z
    have e0 : rat ((oS S t (mapA (fY S b n) g j)).1 (t + 23)) 80 (nI j) = g j := by rw [rat_nI hj8 (by decide), ky_o, mapA_at]
    refine G_iload dX5_orderToPack_60 rfl ?_
    refine G_iload_n dX5_orderToPack_62 rfl ?_
    refine G_icmp_ge (tgt := 109) dX5_orderToPack_63 (by decide) (fun c_63 => ?_) (fun c_63 => ?_)
    · exact absurd c_63 (nI_ge (show j < m by omega) (by omega))
    · refine G_aload_n dX5_orderToPack_66 rfl ?_
      refine G_get (k := 7) dX5_orderToPack_67 (cTree ht) rfl wfl_X5_42 (by decide) rfl ?_
      refine G_iload dX5_orderToPack_70 rfl ?_
      refine G_cVi (As := [_]) dX5_orderToPack_72 kV_X3_at wml_X5_48 (sp_X3_at (tKeys ht)) rfl (cRow (tKeys ht)) rfl rfl rfl (by decide) ⟨Nat.le_refl 0, Nat.le_refl 0⟩ (Nat.le_of_ble_eq_true rfl) ?_
      refine G_sipush (v := 128) dX5_orderToPack_75 (by decide) ?_
      refine G_irem dX5_orderToPack_78 (by decide) ?_
      refine GS_istore (L' := [(5, _), (4, _), (0, _), (1, _), (2, _), (3, _)]) dX5_orderToPack_79 (by decide) rfl ?_
      refine G_aload_n dX5_orderToPack_81 rfl ?_
      refine G_get (k := 7) dX5_orderToPack_82 (cTree ht) rfl wfl_X5_42 (by decide) rfl ?_
      refine G_iload dX5_orderToPack_85 rfl ?_
      refine G_aload_n dX5_orderToPack_87 rfl ?_
      refine G_iload dX5_orderToPack_88 rfl ?_
      refine G_cVi (As := [_]) dX5_orderToPack_90 kV_X0_twiceMiddleY wml_X5_137 (sp_X0_twiceMiddleY hb) rfl (cBox hb) rfl rfl rfl (by decide) ⟨Nat.le_refl 0, Nat.le_refl 0⟩ (Nat.le_of_ble_eq_true rfl) ?_
      refine G_sipush (v := 128) dX5_orderToPack_93 (by decide) ?_
      refine G_imul dX5_orderToPack_96 ?_
      refine G_iload dX5_orderToPack_97 rfl ?_
      refine G_iadd dX5_orderToPack_99 ?_
      refine G_cVv (As := [_, _]) dX5_orderToPack_100 kV_X3_put wml_X5_87 (sp_X3_put (tKeys ht)) rfl (cRow (tKeys ht)) rfl rfl rfl (by decide) ⟨Nat.le_refl 0, Nat.le_refl 0⟩ (Nat.le_of_ble_eq_true rfl) ?_
      refine GS_iinc (v := 1) (L' := [(4, _), (5, _), (0, _), (1, _), (2, _), (3, _)]) dX5_orderToPack_103 rfl (by decide) (by decide) rfl ?_
      refine G_goto (tgt := 60) dX5_orderToPack_106 (by decide) ?_
      refine G_sub [0, 2, 3, 4, 5] rfl ?_
      rw [nI_1 j]
      rw [e0, bY_o ho, bH_o ho, setR_twice, rput_nI hj8 (by decide), ky_o]
      exact z
set_option maxHeartbeats 200000 in
theorem lp_otp4 (ht : isTree ly t) (hb : isBoxes ly b n) (ho : offK t b) (hm : m ≤ 80) {g : Nat → Int32} {Qc : Array Value → State → Outcome → State → Prop} {XC : String → State → State → Prop} (kk : G K MX5_orderToPack 8 0 0 0 0 194 [(0, .ref t), (1, .ref b), (2, .int (nI m)), (3, .int (nI fn))] [] (hp ly (oS S t (mapA (rem128) g m))) Qc XC) : ∀ d j, j + d = m → G K MX5_orderToPack 8 0 0 0 0 160 [(5, .int (nI j)), (0, .ref t), (1, .ref b), (2, .int (nI m)), (3, .int (nI fn))] [] (hp ly (oS S t (mapA (rem128) g j))) Qc XC := by
  intro d
  induction d with
  | zero =>
    intro j hj
    obtain rfl : j = m := by omega
    refine G_iload dX5_orderToPack_160 rfl ?_
    refine G_iload_n dX5_orderToPack_162 rfl ?_
    refine G_icmp_ge (tgt := 194) dX5_orderToPack_163 (by decide) (fun c_163 => ?_) (fun c_163 => ?_)
    · refine G_sub [1, 2, 3, 4] rfl ?_
      exact kk
    · exact absurd (nI_le (Nat.le_refl _) (by omega)) c_163
  | succ d ih =>
    intro j hj
    have hj8 : j < 80 := by omega
    have z := ih (j + 1) (by omega)
    rw [mapA_s] at z
    have e0 : rat ((oS S t (mapA (rem128) g j)).1 (t + 23)) 80 (nI j) = g j := by rw [rat_nI hj8 (by decide), ky_o, mapA_at]
    refine G_iload dX5_orderToPack_160 rfl ?_
    refine G_iload_n dX5_orderToPack_162 rfl ?_
    refine G_icmp_ge (tgt := 194) dX5_orderToPack_163 (by decide) (fun c_163 => ?_) (fun c_163 => ?_)
    · exact absurd c_163 (nI_ge (show j < m by omega) (by omega))
    · refine G_aload_n dX5_orderToPack_166 rfl ?_
      refine G_get (k := 7) dX5_orderToPack_167 (cTree ht) rfl wfl_X5_42 (by decide) rfl ?_
      refine G_iload dX5_orderToPack_170 rfl ?_
      refine G_aload_n dX5_orderToPack_172 rfl ?_
      refine G_get (k := 7) dX5_orderToPack_173 (cTree ht) rfl wfl_X5_42 (by decide) rfl ?_
      refine G_iload dX5_orderToPack_176 rfl ?_
      refine G_cVi (As := [_]) dX5_orderToPack_178 kV_X3_at wml_X5_48 (sp_X3_at (tKeys ht)) rfl (cRow (tKeys ht)) rfl rfl rfl (by decide) ⟨Nat.le_refl 0, Nat.le_refl 0⟩ (Nat.le_of_ble_eq_true rfl) ?_
      refine G_sipush (v := 128) dX5_orderToPack_181 (by decide) ?_
      refine G_irem dX5_orderToPack_184 (by decide) ?_
      refine G_cVv (As := [_, _]) dX5_orderToPack_185 kV_X3_put wml_X5_87 (sp_X3_put (tKeys ht)) rfl (cRow (tKeys ht)) rfl rfl rfl (by decide) ⟨Nat.le_refl 0, Nat.le_refl 0⟩ (Nat.le_of_ble_eq_true rfl) ?_
      refine GS_iinc (v := 1) (L' := [(5, _), (0, _), (1, _), (2, _), (3, _)]) dX5_orderToPack_188 rfl (by decide) (by decide) rfl ?_
      refine G_goto (tgt := 160) dX5_orderToPack_191 (by decide) ?_
      refine G_sub [0, 1, 2, 3, 4] rfl ?_
      rw [nI_1 j]
      rw [e0, setR_twice, rput_nI hj8 (by decide), ky_o]
      exact z
set_option maxHeartbeats 200000 in
theorem lp_otp3 (ht : isTree ly t) (hm : m ≤ 80) {len : Nat} (hlen : 1 ≤ len) (hl2 : len ≤ 700) {Qc : Array Value → State → Outcome → State → Prop} {XC : String → State → State → Prop} : ∀ k a (g : Nat → Int32), a ≤ m + len → m < a + k → (G K MX5_orderToPack 8 0 0 0 0 157 [(0, .ref t), (1, .ref b), (2, .int (nI m)), (3, .int (nI fn))] [] (hp ly (oS S t (soR g len m k a))) Qc XC) → G K MX5_orderToPack 8 0 0 0 0 123 [(5, .int (nI a)), (4, .int (nI len)), (0, .ref t), (1, .ref b), (2, .int (nI m)), (3, .int (nI fn))] [] (hp ly (oS S t g)) Qc XC := by
  intro k
  induction k with
  | zero =>
    intro a g ha hk kk
    refine G_iload dX5_orderToPack_123 rfl ?_
    refine G_iload_n dX5_orderToPack_125 rfl ?_
    refine G_icmp_ge (tgt := 157) dX5_orderToPack_126 (by decide) (fun c_126 => ?_) (fun c_126 => ?_)
    · refine G_sub [2, 3, 4, 5] rfl ?_
      exact kk
    · exact absurd (nI_le (show m ≤ a by omega) (by omega)) c_126
  | succ k ih =>
    intro a g ha hk kk
    rw [soR] at kk
    rcases Nat.lt_or_ge a m with h1 | h1
    · rw [if_pos h1] at kk
      have hmin : (if nI m < nI (a + len) then nI m else nI (a + len)) = nI (if a + len < m then a + len else m) := by
        rcases Nat.lt_or_ge (a + len) m with q | q
        · rw [if_neg (nI_nlt (by omega) (by omega)), if_pos q]
        · rcases Nat.lt_or_ge m (a + len) with q2 | q2
          · rw [if_pos (nI_lt q2 (by omega)), if_neg (by omega)]
          · rw [if_neg (nI_nlt q2 (by omega)), if_neg (by omega), show a + len = m by omega]
      refine G_iload dX5_orderToPack_123 rfl ?_
      refine G_iload_n dX5_orderToPack_125 rfl ?_
      refine G_icmp_ge (tgt := 157) dX5_orderToPack_126 (by decide) (fun c_126 => ?_) (fun c_126 => ?_)
      · exact absurd c_126 (nI_ge h1 (by omega))
      · refine G_aload_n dX5_orderToPack_129 rfl ?_
        refine G_get (k := 7) dX5_orderToPack_130 (cTree ht) rfl wfl_X5_42 (by decide) rfl ?_
        refine G_iload dX5_orderToPack_133 rfl ?_
        refine G_iload dX5_orderToPack_135 rfl ?_
        refine G_iload dX5_orderToPack_137 rfl ?_
        refine G_iadd dX5_orderToPack_139 ?_
        rw [nI_add a len]
        refine G_iload_n dX5_orderToPack_140 rfl ?_
        refine G_min dX5_orderToPack_141 wml_X5_148 (by decide) ⟨Nat.le_refl 0, Nat.le_refl 0⟩ (Nat.le_of_ble_eq_true rfl) ?_
        rw [hmin]
        refine G_cVv (As := [_, _]) dX5_orderToPack_144 kV_X3_sortPart wml_X5_134 (sp_X3_sortPart (a0 := a) (b0 := if a + len < m then a + len else m) (tKeys ht) (by decide) (by split <;> omega) (by split <;> omega)) rfl (cRow (tKeys ht)) rfl rfl rfl (by decide) ⟨Nat.le_refl 0, Nat.le_refl 0⟩ (Nat.le_of_ble_eq_true rfl) ?_
        refine G_iload dX5_orderToPack_147 rfl ?_
        refine G_iload dX5_orderToPack_149 rfl ?_
        refine G_iadd dX5_orderToPack_151 ?_
        refine GS_istore (L' := [(5, _), (4, _), (0, _), (1, _), (2, _), (3, _)]) dX5_orderToPack_152 (by decide) rfl ?_
        refine G_goto (tgt := 123) dX5_orderToPack_154 (by decide) ?_
        refine G_sub [0, 1, 2, 3, 4, 5] rfl ?_
        rw [nI_add a len, setR_twice, ky_o]
        exact ih (a + len) _ (by omega) (by omega) kk
    · rw [if_neg (by omega)] at kk
      refine G_iload dX5_orderToPack_123 rfl ?_
      refine G_iload_n dX5_orderToPack_125 rfl ?_
      refine G_icmp_ge (tgt := 157) dX5_orderToPack_126 (by decide) (fun c_126 => ?_) (fun c_126 => ?_)
      · refine G_sub [2, 3, 4, 5] rfl ?_
        exact kk
      · exact absurd (nI_le h1 (by omega)) c_126
set_option maxHeartbeats 200000 in
theorem sp_X5_orderToPack (ht : isTree ly t) (hb : isBoxes ly b n) (ho : offK t b) (hm : m ≤ 80) (hf : fn ≤ 8) : Sp K MX5_orderToPack 8 0 0 [.ref t, .ref b, .int (nI m), .int (nI fn)] (hp ly S) (fun v u => v = none ∧ u = hp ly (setR S (t + 23) (otp S b n m fn (tKy S t)))) noX := by
  refine Sp_of (by decide) (Nat.le_of_ble_eq_true rfl) ?_
  have hs := slN_le (count := nI m) (fan := nI fn) 80 0
  have hs7 : slN (nI m) (nI fn) 80 0 * fn ≤ 640 := Nat.le_trans (Nat.mul_le_mul hs hf) (by omega)
  have hl7 : lenN m fn ≤ 700 := by unfold lenN; split <;> omega
  have hlen : (if (1 : Int32) < nI (slN (nI m) (nI fn) 80 0 * fn) then nI (slN (nI m) (nI fn) 80 0 * fn) else 1) = nI (lenN m fn) := by
    rw [show (1 : Int32) = nI 1 from rfl]
    unfold lenN
    rcases Nat.lt_or_ge 1 (slN (nI m) (nI fn) 80 0 * fn) with q | q
    · rw [if_pos (nI_lt q (by omega)), if_pos q]
    · rw [if_neg (nI_nlt q (by decide)), if_neg (Nat.not_lt.mpr q)]
  refine G_iconst (v := 0) dX5_orderToPack_0 (by decide) ?_
  refine GS_istore (L' := [(4, _), (0, _), (1, _), (2, _), (3, _)]) dX5_orderToPack_1 (by decide) rfl ?_
  refine G_sub [0, 1, 2, 3, 4] rfl ?_
  have z := lp_otp1 (K := K) (ly := ly) (S := S) (t := t) (b := b) (n := n) (m := m) (fn := fn) ht hb ho hm (g := tKy S t) (Qc := QcP K (fun v u => v = none ∧ u = hp ly (setR S (t + 23) (otp S b n m fn (tKy S t))))) (XC := XcP K noX) (by
    refine G_aload_n dX5_orderToPack_48 rfl ?_
    refine G_get (k := 7) dX5_orderToPack_49 (cTree ht) rfl wfl_X5_42 (by decide) rfl ?_
    refine G_iconst (v := 0) dX5_orderToPack_52 (by decide) ?_
    refine G_iload_n dX5_orderToPack_53 rfl ?_
    refine G_cVv (As := [_, _]) dX5_orderToPack_54 kV_X3_sortPart wml_X5_134 (sp_X3_sortPart (a0 := 0) (b0 := m) (tKeys ht) (by decide) (Nat.zero_le _) hm) rfl (cRow (tKeys ht)) rfl rfl rfl (by decide) ⟨Nat.le_refl 0, Nat.le_refl 0⟩ (Nat.le_of_ble_eq_true rfl) ?_
    refine G_iconst (v := 0) dX5_orderToPack_57 (by decide) ?_
    refine GS_istore (L' := [(4, _), (0, _), (1, _), (2, _), (3, _)]) dX5_orderToPack_58 (by decide) rfl ?_
    refine G_sub [0, 1, 2, 3, 4] rfl ?_
    rw [setR_twice, ky_o]
    have z := lp_otp2 (K := K) (ly := ly) (S := S) (t := t) (b := b) (n := n) (m := m) (fn := fn) ht hb ho hm (g := srtA (mapA (fX S b n) (tKy S t) m) 0 0 m) (Qc := QcP K (fun v u => v = none ∧ u = hp ly (setR S (t + 23) (otp S b n m fn (tKy S t))))) (XC := XcP K noX) (by
      refine G_iconst (v := 1) dX5_orderToPack_109 (by decide) ?_
      refine G_iload_n dX5_orderToPack_110 rfl ?_
      refine G_iload_n dX5_orderToPack_111 rfl ?_
      refine G_cSi (As := [_, _]) dX5_orderToPack_112 kT_X5_sliceLength wml_X5_140 sp_X5_sliceLength rfl rfl (by decide) ⟨Nat.le_refl 0, Nat.le_refl 0⟩ (Nat.le_of_ble_eq_true rfl) ?_
      rw [show nI (slN (nI m) (nI fn) 80 0) * nI fn = nI (slN (nI m) (nI fn) 80 0 * fn) from pk_mul _ _]
      refine G_max dX5_orderToPack_115 wml_X5_143 (by decide) ⟨Nat.le_refl 0, Nat.le_refl 0⟩ (Nat.le_of_ble_eq_true rfl) ?_
      rw [hlen]
      refine GS_istore (L' := [(4, _), (0, _), (1, _), (2, _), (3, _)]) dX5_orderToPack_118 (by decide) rfl ?_
      refine G_iconst (v := 0) dX5_orderToPack_120 (by decide) ?_
      refine GS_istore (L' := [(5, _), (4, _), (0, _), (1, _), (2, _), (3, _)]) dX5_orderToPack_121 (by decide) rfl ?_
      refine G_sub [0, 1, 2, 3, 4, 5] rfl ?_
      refine lp_otp3 (S := S) ht hm (len := lenN m fn) (by unfold lenN; split <;> omega) hl7 (m + 1) 0 _ (by omega) (by omega) ?_
      refine G_iconst (v := 0) dX5_orderToPack_157 (by decide) ?_
      refine GS_istore (L' := [(5, _), (0, _), (1, _), (2, _), (3, _)]) dX5_orderToPack_158 (by decide) rfl ?_
      refine G_sub [0, 1, 2, 3, 4] rfl ?_
      have z := lp_otp4 (K := K) (ly := ly) (S := S) (t := t) (b := b) (n := n) (m := m) (fn := fn) ht hb ho hm (g := soR (mapA (fY S b n) (srtA (mapA (fX S b n) (tKy S t) m) 0 0 m) m) (lenN m fn) m (m + 1) 0) (Qc := QcP K (fun v u => v = none ∧ u = hp ly (setR S (t + 23) (otp S b n m fn (tKy S t))))) (XC := XcP K noX) (by
        exact G_vret dX5_orderToPack_194 rfl ⟨Nat.le_refl 0, Nat.le_refl 0⟩ ⟨rfl, rfl⟩) m 0 (by omega)
      rw [mapA_0] at z
      exact z) m 0 (by omega)
    rw [mapA_0] at z
    exact z) m 0 (by omega)
  rw [mapA_0, show oS S t (tKy S t) = S from setR_self] at z
  exact z
end PK
