/-! the index as it is new; a layer more -/
def hom0 : Nat → Int32 := rfil (fun _ => 0) 80 (-1) 0
def S00 : St := (fun k => if k = 46 then hom0 else fun _ => 0, fun _ _ => 0, true)
set_option maxHeartbeats 200000 in
theorem idx_new : ((true, [] ++ idxL 0) : VH) = hp 0 S00 := rfl
def newS (ly : Nat) (S : St) : St := (fun k => if 49 + 25 * ly ≤ k then (if k = 71 + 25 * ly then hom0 else fun _ => 0) else S.1 k, fun a i => if 49 + 25 * ly ≤ a then (if a = 49 + 25 * ly ∧ i = 3 then 4 else 0) else S.2.1 a i, true)
set_option maxHeartbeats 200000 in
theorem va_up_ly (ly : Nat) : va_up (fun j => if j < ly then some (49 + 25 * j) else none : Nat → Option Nat) ly (some (49 + 25 * ly)) = (fun j => if j < ly + 1 then some (49 + 25 * j) else none) := by
  funext j
  unfold va_up
  by_cases h : j = ly
  · subst h
    rw [if_pos rfl, if_pos (Nat.lt_succ_self _)]
  · rw [if_neg h]
    show (if j < ly then some (49 + 25 * j) else none) = _
    by_cases h2 : j < ly
    · rw [if_pos h2, if_pos (by omega)]
    · rw [if_neg h2, if_neg (by omega)]
set_option maxHeartbeats 200000 in
theorem hp_len {ly : Nat} {S : St} : (hp ly S).2.length = 49 + 25 * ly := by
  show ((List.range (49 + 25 * ly)).map _).length = _
  rw [List.length_map, List.length_range]
set_option maxHeartbeats 200000 in
theorem hp_app {ly k : Nat} {S : St} {l : List VE} (hk : k < 49 + 25 * ly) : ((hp ly S).2 ++ l)[k]? = (hp ly S).2[k]? := List.getElem?_append_left (by rw [hp_len]; exact hk)
set_option maxHeartbeats 200000 in
theorem mk0 {S : St} : ((true, ((hp 0 S).2 ++ layL 49 0 1).set 19 (.inl (1, 4, .inr (.inr (.inr (.inr (va_up (fun j => if j < 0 then some (49 + 25 * j) else none : Nat → Option Nat) 0 (some 49)))))))) : VH) = hp 1 (newS 0 S) := by
  rw [show va_up (fun j => if j < 0 then some (49 + 25 * j) else none : Nat → Option Nat) 0 (some 49) = _ from va_up_ly 0]
  rfl
set_option maxHeartbeats 200000 in
theorem mk1 {S : St} : ((true, ((hp 1 S).2 ++ layL 74 1 0).set 19 (.inl (1, 4, .inr (.inr (.inr (.inr (va_up (fun j => if j < 1 then some (49 + 25 * j) else none : Nat → Option Nat) 1 (some 74)))))))) : VH) = hp 2 (newS 1 S) := by
  rw [show va_up (fun j => if j < 1 then some (49 + 25 * j) else none : Nat → Option Nat) 1 (some 74) = _ from va_up_ly 1]
  rfl
def lay0S (S : St) : St := growS (setI (newS 0 S) 0 4 ((newS 0 S).2.1 0 4 + 1)) 50 0 (nI 0) ((setI (newS 0 S) 0 4 ((newS 0 S).2.1 0 4 + 1)).2.1 49 3)
def lay1S (S : St) : St := setI (newS 1 S) 0 4 ((newS 1 S).2.1 0 4 + 1)
section AL
variable {K : GK} {S : St}
set_option maxHeartbeats 200000 in
theorem sp_X6_addLayer0 (hfl : S.2.2 = true) (h4 : S.2.1 0 4 = 0) (hc : tc S = nI 0) : Sp K MX6_addLayer 17 25 (14 + (4 + 4 * 1206 + 5 * 1206 + 2 * 81)) [.ref 0, .int 1] (hp 0 S) (fun v u => v = some (.int 0) ∧ u = hp 1 (lay0S S)) noX := by
  refine Sp_of (by decide) (Nat.le_of_ble_eq_true rfl) ?_
  refine G_aload_n dX6_addLayer_0 rfl ?_
  refine G_get (k := 4) dX6_addLayer_1 cIdx rfl wfl_X6_36 (by decide) rfl ?_
  rw [h4]
  refine G_if_lt (tgt := 19) dX6_addLayer_4 (by decide) (fun c_4 => ?_) (fun c_4 => ?_)
  · first
      | exact absurd c_4 (by decide)
      | exact absurd c_16 (by decide)
  · refine G_aload_n dX6_addLayer_7 rfl ?_
    refine G_get (k := 4) dX6_addLayer_8 cIdx rfl wfl_X6_36 (by decide) rfl ?_
    refine G_aload_n dX6_addLayer_11 rfl ?_
    refine G_get (k := 1) dX6_addLayer_12 cIdx rfl wfl_X6_18 (by decide) rfl ?_
    refine G_alen (t := 1) dX6_addLayer_15 cLayers rfl ?_
    rw [h4]
    refine G_icmp_lt (tgt := 29) dX6_addLayer_16 (by decide) (fun c_16 => ?_) (fun c_16 => ?_)
    · refine G_new (ci := 2) (fs := fs0_2) dX6_addLayer_29 hfl rfl wcl_X6_16 wia_X2 wii_X2 hfs_2 (by omega) ?_
      rw [hp_len]
      refine G_dup dX6_addLayer_32 rfl ?_
      refine G_aload_n dX6_addLayer_33 rfl ?_
      refine G_get (k := 4) dX6_addLayer_34 ((hp_app (by omega)).trans cIdx) rfl wfl_X6_36 (by decide) rfl ?_
      rw [h4]
      refine G_iload_n dX6_addLayer_37 rfl ?_
      refine G_cIv (As := [_, _]) dX6_addLayer_38 kI_X2_init wml_X6_47 (sp_X2_init (h0 := (hp 0 S).2) hp_len (by decide)) rfl rfl (by decide) (by omega) (Nat.le_of_ble_eq_true rfl) ?_
      refine GS_astore_n (L' := [(2, _), (0, _), (1, _)]) dX6_addLayer_41 (by decide) rfl ?_
      refine G_aload_n dX6_addLayer_42 rfl ?_
      refine G_get (k := 1) dX6_addLayer_43 ((hp_app (by omega)).trans cIdx) rfl wfl_X6_18 (by decide) rfl ?_
      refine G_aload_n dX6_addLayer_46 rfl ?_
      refine G_get (k := 4) dX6_addLayer_47 ((hp_app (by omega)).trans cIdx) rfl wfl_X6_36 (by decide) rfl ?_
      rw [h4]
      refine G_aload_n dX6_addLayer_50 rfl ?_
      refine G_aast dX6_addLayer_51 ((hp_app (by omega)).trans cLayers) (at_app (i := 0) hp_len) (show vp_in (nI 0) 4 from vp_in_nI (by decide) (by decide)) ?_
      refine G_heap mk0 ?_
      refine G_aload_n dX6_addLayer_52 rfl ?_
      refine G_dup dX6_addLayer_53 rfl ?_
      refine G_get (k := 4) dX6_addLayer_54 cIdx rfl wfl_X6_36 (by decide) rfl ?_
      refine G_iconst (v := 1) dX6_addLayer_57 (by decide) ?_
      refine G_iadd dX6_addLayer_58 ?_
      refine G_setI (k := 4) dX6_addLayer_59 (sIdx (ly := 1)).1 (sIdx (ly := 1)).2.1 (sIdx (ly := 1)).2.2 rfl rfl wfl_X6_36 (by decide) rfl rfl ?_
      refine G_aload_n dX6_addLayer_62 rfl ?_
      refine G_aload_n dX6_addLayer_63 rfl ?_
      refine G_get (k := 0) dX6_addLayer_64 cIdx rfl wfl_X6_10 (by decide) rfl ?_
      refine G_cVv (As := [_]) dX6_addLayer_67 kV_X2_regrow wml_X6_50 (sp_X2_regrow0 (ly := 1) (c := 0) (by omega) hc (by omega)) rfl (cLayer0 (by omega)) rfl rfl rfl (by decide) ⟨by omega, by omega⟩ (Nat.le_of_ble_eq_true rfl) ?_
      refine G_aload_n dX6_addLayer_70 rfl ?_
      refine G_getN (k := 0) dX6_addLayer_71 (cLayer0 (by omega)) rfl wfn_X6_54 (by decide) rfl ?_
      exact G_iret dX6_addLayer_74 rfl rfl ⟨by omega, by omega⟩ ⟨rfl, rfl⟩
    · first
        | exact absurd c_4 (by decide)
        | exact absurd c_16 (by decide)
set_option maxHeartbeats 200000 in
theorem sp_X6_addLayer1 (hfl : S.2.2 = true) (h4 : S.2.1 0 4 = 1) : Sp K MX6_addLayer 17 25 (14 + (4 + 4 * 1206 + 5 * 1206 + 2 * 81)) [.ref 0, .int 0] (hp 1 S) (fun v u => v = some (.int 1) ∧ u = hp 2 (lay1S S)) noX := by
  refine Sp_of (by decide) (Nat.le_of_ble_eq_true rfl) ?_
  refine G_aload_n dX6_addLayer_0 rfl ?_
  refine G_get (k := 4) dX6_addLayer_1 cIdx rfl wfl_X6_36 (by decide) rfl ?_
  rw [h4]
  refine G_if_lt (tgt := 19) dX6_addLayer_4 (by decide) (fun c_4 => ?_) (fun c_4 => ?_)
  · first
      | exact absurd c_4 (by decide)
      | exact absurd c_16 (by decide)
  · refine G_aload_n dX6_addLayer_7 rfl ?_
    refine G_get (k := 4) dX6_addLayer_8 cIdx rfl wfl_X6_36 (by decide) rfl ?_
    refine G_aload_n dX6_addLayer_11 rfl ?_
    refine G_get (k := 1) dX6_addLayer_12 cIdx rfl wfl_X6_18 (by decide) rfl ?_
    refine G_alen (t := 1) dX6_addLayer_15 cLayers rfl ?_
    rw [h4]
    refine G_icmp_lt (tgt := 29) dX6_addLayer_16 (by decide) (fun c_16 => ?_) (fun c_16 => ?_)
    · refine G_new (ci := 2) (fs := fs0_2) dX6_addLayer_29 hfl rfl wcl_X6_16 wia_X2 wii_X2 hfs_2 (by omega) ?_
      rw [hp_len]
      refine G_dup dX6_addLayer_32 rfl ?_
      refine G_aload_n dX6_addLayer_33 rfl ?_
      refine G_get (k := 4) dX6_addLayer_34 ((hp_app (by omega)).trans cIdx) rfl wfl_X6_36 (by decide) rfl ?_
      rw [h4]
      refine G_iload_n dX6_addLayer_37 rfl ?_
      refine G_cIv (As := [_, _]) dX6_addLayer_38 kI_X2_init wml_X6_47 (sp_X2_init (h0 := (hp 1 S).2) hp_len (by decide)) rfl rfl (by decide) (by omega) (Nat.le_of_ble_eq_true rfl) ?_
      refine GS_astore_n (L' := [(2, _), (0, _), (1, _)]) dX6_addLayer_41 (by decide) rfl ?_
      refine G_aload_n dX6_addLayer_42 rfl ?_
      refine G_get (k := 1) dX6_addLayer_43 ((hp_app (by omega)).trans cIdx) rfl wfl_X6_18 (by decide) rfl ?_
      refine G_aload_n dX6_addLayer_46 rfl ?_
      refine G_get (k := 4) dX6_addLayer_47 ((hp_app (by omega)).trans cIdx) rfl wfl_X6_36 (by decide) rfl ?_
      rw [h4]
      refine G_aload_n dX6_addLayer_50 rfl ?_
      refine G_aast dX6_addLayer_51 ((hp_app (by omega)).trans cLayers) (at_app (i := 0) hp_len) (show vp_in (nI 1) 4 from vp_in_nI (by decide) (by decide)) ?_
      refine G_heap mk1 ?_
      refine G_aload_n dX6_addLayer_52 rfl ?_
      refine G_dup dX6_addLayer_53 rfl ?_
      refine G_get (k := 4) dX6_addLayer_54 cIdx rfl wfl_X6_36 (by decide) rfl ?_
      refine G_iconst (v := 1) dX6_addLayer_57 (by decide) ?_
      refine G_iadd dX6_addLayer_58 ?_
      refine G_setI (k := 4) dX6_addLayer_59 (sIdx (ly := 2)).1 (sIdx (ly := 2)).2.1 (sIdx (ly := 2)).2.2 rfl rfl wfl_X6_36 (by decide) rfl rfl ?_
      refine G_aload_n dX6_addLayer_62 rfl ?_
      refine G_aload_n dX6_addLayer_63 rfl ?_
      refine G_get (k := 0) dX6_addLayer_64 cIdx rfl wfl_X6_10 (by decide) rfl ?_
      refine G_cVv (As := [_]) dX6_addLayer_67 kV_X2_regrow wml_X6_50 (sp_X2_regrow1 (ly := 2) (by omega)) rfl (cLayer1 (by omega)) rfl rfl rfl (by decide) ⟨by omega, by omega⟩ (Nat.le_of_ble_eq_true rfl) ?_
      refine G_aload_n dX6_addLayer_70 rfl ?_
      refine G_getN (k := 0) dX6_addLayer_71 (cLayer1 (by omega)) rfl wfn_X6_54 (by decide) rfl ?_
      exact G_iret dX6_addLayer_74 rfl rfl ⟨by omega, by omega⟩ ⟨rfl, rfl⟩
    · first
        | exact absurd c_4 (by decide)
        | exact absurd c_16 (by decide)
end AL
set_option maxHeartbeats 200000 in
theorem i32_div_toInt {a b : Nat} (ha : a < 2 ^ 31) (hb : b < 2 ^ 31) : (nI a / nI b).toInt = ((a / b : Nat) : Int) := by
  rw [Int32.toInt_div, nI_toInt ha, nI_toInt hb]
  have h1 : Int.tdiv (a : Int) (b : Int) = ((a / b : Nat) : Int) := by
    rw [Int.tdiv_eq_ediv_of_nonneg (by omega)]
    exact (Int.natCast_ediv a b).symm
  rw [h1]
  have h2 : a / b ≤ a := Nat.div_le_self a b
  generalize a / b = q at h2 ⊢
  exact Int.bmod_eq_of_le (by omega) (by omega)
set_option maxHeartbeats 200000 in
theorem nI_div {a b : Nat} (ha : a < 2 ^ 31) (hb : b < 2 ^ 31) : nI a / nI b = nI (a / b) := by
  apply Int32.toInt_inj.mp
  rw [i32_div_toInt ha hb, nI_toInt (Nat.lt_of_le_of_lt (Nat.div_le_self a b) ha)]
set_option maxHeartbeats 200000 in
theorem nI_mul (a b : Nat) : nI a * nI b = nI (a * b) := (Int32.ofNat_mul a b).symm
set_option maxHeartbeats 200000 in
theorem nI_sub {a b : Nat} (h : b ≤ a) : nI a - nI b = nI (a - b) := by
  obtain ⟨c, rfl⟩ : ∃ c, a = b + c := ⟨a - b, by omega⟩
  rw [← nI_add, show b + c - b = c by omega, Int32.add_comm, Int32.add_sub_cancel]
set_option maxHeartbeats 200000 in
theorem nI_rem {a b : Nat} (ha : a < 2 ^ 31) (hb : b < 2 ^ 31) : nI a - nI a / nI b * nI b = nI (a % b) := by
  rw [nI_div ha hb, nI_mul, nI_sub (Nat.div_mul_le_self a b)]
  congr 1
  have := Nat.div_add_mod a b
  rw [Nat.mul_comm] at this
  omega
set_option maxHeartbeats 200000 in
theorem and_pos (x : Int32) : ¬ (x &&& 2147483647) < 0 := by
  rw [Int32.lt_iff_toInt_lt]
  have h : (x &&& 2147483647).toBitVec.msb = false := by
    rw [Int32.toBitVec_and, BitVec.msb_and]
    rw [show (2147483647 : Int32).toBitVec.msb = false by decide, Bool.and_false]
  have h2 : (x &&& 2147483647).toInt = ((x &&& 2147483647).toBitVec.toNat : Int) := BitVec.toInt_eq_toNat_of_msb h
  rw [h2]
  have : (0 : Int32).toInt = 0 := by decide
  omega
def belN (x : Int32) (n : Nat) : Nat := (x &&& 2147483647).toNatClampNeg % n
set_option maxHeartbeats 200000 in
theorem belN_lt {x : Int32} {n : Nat} (h : 0 < n) : belN x n < n := Nat.mod_lt _ h
set_option maxHeartbeats 200000 in
theorem bel_eq (x : Int32) {n : Nat} (hn : n < 2 ^ 31) : (x &&& 2147483647) - (x &&& 2147483647) / nI n * nI n = nI (belN x n) := by
  obtain ⟨j, hj, e⟩ := nI_of (and_pos x)
  unfold belN
  rw [e, nI_clamp hj]
  exact nI_rem hj hn
/-! the law's small methods -/
def cellV (K : GK) (k : Nat) : Int32 := if k < (kS K).2.1 then (kS K).2.2 k else 790386105 * (nI k + 3)
section LS
variable {K : GK} {h : VH}
set_option maxHeartbeats 200000 in
theorem sp_L_below {v : Int32} {n : Nat} (h0 : 0 < n) (hn : n < 2 ^ 31) : Sp K ML_below 1 0 0 [.int v, .int (nI n)] h (fun r u => r = some (.int (nI (belN v n))) ∧ u = h) noX := by
  refine Sp_of (by decide) (Nat.le_of_ble_eq_true rfl) ?_
  refine G_iload_n dL_below_0 rfl ?_
  refine G_ldc dL_below_1 wk_L_7 ?_
  refine G_iand dL_below_3 ?_
  refine G_iload_n dL_below_4 rfl ?_
  refine G_irem dL_below_5 (nI_ne0 h0 hn) ?_
  rw [bel_eq v hn]
  exact G_iret dL_below_6 rfl rfl ⟨Nat.le_refl 0, Nat.le_refl 0⟩ ⟨rfl, rfl⟩
set_option maxHeartbeats 200000 in
theorem sp_L_cell {z : UInt32} {k : Nat} (hk : k < 2 ^ 30) : Sp K ML_cell 1 0 0 [.float z, .int (nI k)] h (fun r u => r = some (.int (cellV K k)) ∧ u = h) noX := by
  intro hK
  have hL : (kS K).2.1 < 2 ^ 31 := hK.2.2.2.2.1
  refine (show Sp K ML_cell 1 0 0 [.float z, .int (nI k)] h (fun r u => r = some (.int (cellV K k)) ∧ u = h) noX from Sp_of (by decide) (Nat.le_of_ble_eq_true rfl) ?_) hK
  refine G_iload_n dL_cell_0 rfl ?_
  refine G_aloadS dL_cell_1 rfl ?_
  refine G_slen dL_cell_2 ?_
  refine G_icmp_ge (tgt := 12) dL_cell_3 (by decide) (fun c_3 => ?_) (fun c_3 => ?_)
  · refine G_ldc dL_cell_12 wk_L_8 ?_
    refine G_iload_n dL_cell_14 rfl ?_
    refine G_iconst (v := 3) dL_cell_15 (by decide) ?_
    refine G_iadd dL_cell_16 ?_
    refine G_imul dL_cell_17 ?_
    exact G_iret dL_cell_18 rfl rfl ⟨Nat.le_refl 0, Nat.le_refl 0⟩ ⟨by unfold cellV; first | rw [if_pos (Nat.not_le.mp fun q => c_3 (nI_le q (by omega)))] | rw [if_neg (fun q => absurd c_3 (nI_ge q hL))], rfl⟩
  · refine G_aloadS dL_cell_6 rfl ?_
    refine G_iload_n dL_cell_7 rfl ?_
    refine G_sld dL_cell_8 (vp_in_nI (Nat.not_le.mp fun q => c_3 (nI_le q (by omega))) hL) ?_
    rw [nI_clamp (show k < 2 ^ 31 by omega)]
    refine G_goto (tgt := 18) dL_cell_9 (by decide) ?_
    exact G_iret dL_cell_18 rfl rfl ⟨Nat.le_refl 0, Nat.le_refl 0⟩ ⟨by unfold cellV; first | rw [if_pos (Nat.not_le.mp fun q => c_3 (nI_le q (by omega)))] | rw [if_neg (fun q => absurd c_3 (nI_ge q hL))], rfl⟩
end LS
