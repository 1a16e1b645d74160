set_option maxHeartbeats 200000 in
theorem sLayerG {lr : Nat} (h : lr < 2) : skel (49 + 25 * lr) = .inr (2, [some (.int (nI lr)), some (.int (ip lr)), some (.ref (50 + 25 * lr)), none]) ∧ 49 + 25 * lr ≠ 19 ∧ 49 + 25 * lr < 49 + 25 * 2 := by
  rcases (show lr = 0 ∨ lr = 1 by omega) with rfl | rfl
  · exact ⟨rfl, by decide, by omega⟩
  · exact ⟨rfl, by decide, by omega⟩
/-- a thing leaves its leaf -/
def letS (S : St) (t k : Nat) : St := if rat (tHm S t) 80 (nI k) = -1 then S else
  setR (setR S (t + 13) (rput (tHd S t) 1205 (rat (tHm S t) 80 (nI k)) (tHd S t (rat (tHm S t) 80 (nI k)).toNatClampNeg + -1))) (t + 21) (rput (tHm S t) 80 (nI k) (-1))
set_option maxHeartbeats 200000 in
theorem tc_letS {S : St} {t k : Nat} : tc (letS S t k) = tc S := by unfold letS; split <;> rfl
def looseV (S : St) (lr k : Nat) : Int32 := if ip lr = 0 ∧ rat (tHm S (50 + 25 * lr)) 80 (nI k) = -1 then 1 else 0
def ofV (S : St) (lr k w : Nat) : Int32 := match w with
  | 0 => nI lr
  | 1 => S.1 4 k
  | 2 => S.1 6 k
  | 3 => S.1 8 k
  | 4 => S.1 10 k
  | 5 => S.1 14 k
  | _ => looseV S lr k
/-- what a layer grows anew by itself -/
def regS (S : St) (c lr : Nat) : St := if lr = 0 then growS S 50 c (nI 0) (S.2.1 49 3) else S
set_option maxHeartbeats 200000 in
theorem tc_growS {S : St} {t c : Nat} {layer cap : Int32} (h : 1 ≠ t) : tc (growS S t c layer cap) = tc S := by
  have key : ∀ f sq (S : St), tc (gRun S t c cap f sq) = tc S := by
    intro f
    induction f with
    | zero => intro sq S; rfl
    | succ f ih =>
      intro sq S
      rw [gRun]
      split
      · rw [ih, tc_gStep h]
      · rfl
  unfold growS
  rw [key, tc_rRun, tc_seedS h]
set_option maxHeartbeats 200000 in
theorem tc_regS {S : St} {c lr : Nat} : tc (regS S c lr) = tc S := by
  unfold regS
  split
  · exact tc_growS (by decide)
  · rfl
section AR
variable {K : GK} {S : St} {c lr lr2 k : Nat} {ly : Nat}
set_option maxHeartbeats 200000 in
theorem sp_X2_regrow0 (h1 : 1 ≤ ly) (hc : tc S = nI c) (h80 : c ≤ 80) : Sp K MX2_regrow 16 0 0 [.ref 49, .ref 1] (hp ly S) (fun v u => v = none ∧ u = hp ly (growS S 50 c (nI 0) (S.2.1 49 3))) noX := by
  refine Sp_of (by decide) (Nat.le_of_ble_eq_true rfl) ?_
  refine G_aload_n dX2_regrow_0 rfl ?_
  refine G_get (k := 1) dX2_regrow_1 (cLayer0 h1) rfl wfl_X2_25 (by decide) rfl ?_
  refine G_if_eq (tgt := 23) dX2_regrow_4 (by decide) (fun c_4 => ?_) (fun c_4 => ?_)
  · exact absurd c_4 (by decide)
  · refine G_aload_n dX2_regrow_7 rfl ?_
    refine G_get (k := 2) dX2_regrow_8 (cLayer0 h1) rfl wfl_X2_12 (by decide) rfl ?_
    refine G_aload_n dX2_regrow_11 rfl ?_
    refine G_aload_n dX2_regrow_12 rfl ?_
    refine G_get (k := 0) dX2_regrow_13 (cLayer0 h1) rfl wfl_X2_22 (by decide) rfl ?_
    refine G_aload_n dX2_regrow_16 rfl ?_
    refine G_get (k := 3) dX2_regrow_17 (cLayer0 h1) rfl wfl_X2_18 (by decide) rfl ?_
    refine G_cVv (As := [_, _, _]) dX2_regrow_20 kV_X5_growQuarters wml_X2_29 (sp_X5_growQuarters (Or.inr (Or.inl ⟨rfl, h1⟩)) hc h80) rfl (cTree (Or.inr (Or.inl ⟨rfl, h1⟩))) rfl rfl rfl (by decide) ⟨Nat.le_refl 0, Nat.le_refl 0⟩ (Nat.le_of_ble_eq_true rfl) ?_
    exact G_vret dX2_regrow_23 rfl ⟨Nat.le_refl 0, Nat.le_refl 0⟩ ⟨rfl, rfl⟩
set_option maxHeartbeats 200000 in
theorem sp_X2_regrow1 (h2 : 2 ≤ ly) : Sp K MX2_regrow 16 0 0 [.ref 74, .ref 1] (hp ly S) (fun v u => v = none ∧ u = hp ly S) noX := by
  refine Sp_of (by decide) (Nat.le_of_ble_eq_true rfl) ?_
  refine G_aload_n dX2_regrow_0 rfl ?_
  refine G_get (k := 1) dX2_regrow_1 (cLayer1 h2) rfl wfl_X2_25 (by decide) rfl ?_
  refine G_if_eq (tgt := 23) dX2_regrow_4 (by decide) (fun c_4 => ?_) (fun c_4 => ?_)
  · exact G_vret dX2_regrow_23 rfl ⟨Nat.le_refl 0, Nat.le_refl 0⟩ ⟨rfl, rfl⟩
  · exact absurd (show (0 : Int32) = 0 from rfl) c_4
set_option maxHeartbeats 200000 in
theorem sp_X2_regrow (hlr : lr < 2) (hc : tc S = nI c) (h80 : c ≤ 80) : Sp K MX2_regrow 16 0 0 [.ref (49 + 25 * lr), .ref 1] (hp 2 S) (fun v u => v = none ∧ u = hp 2 (regS S c lr)) noX := by
  rcases (show lr = 0 ∨ lr = 1 by omega) with rfl | rfl
  · exact sp_X2_regrow0 (by omega) hc h80
  · exact sp_X2_regrow1 (by omega)
set_option maxHeartbeats 200000 in
theorem sp_X2_letGo (hlr : lr < 2) : Sp K MX2_letGo 8 0 0 [.ref (49 + 25 * lr), .int (nI k)] (hp 2 S) (fun v u => v = none ∧ u = hp 2 (letS S (50 + 25 * lr) k)) noX := by
  refine Sp_of (by decide) (Nat.le_of_ble_eq_true rfl) ?_
  refine G_aload_n dX2_letGo_0 rfl ?_
  refine G_get (k := 2) dX2_letGo_1 (cLayerG hlr) rfl wfl_X2_12 (by decide) rfl ?_
  refine G_getN (k := 6) dX2_letGo_4 (cTree (isT hlr)) rfl wfn_X2_33 (by decide) rfl ?_
  refine G_iload_n dX2_letGo_7 rfl ?_
  refine G_cVi (As := [_]) dX2_letGo_8 kV_X3_at wml_X2_37 (sp_X3_at (tHome (isT hlr))) rfl (cRow (tHome (isT hlr))) rfl rfl rfl (by decide) ⟨Nat.le_refl 0, Nat.le_refl 0⟩ (Nat.le_of_ble_eq_true rfl) ?_
  refine GS_istore_n (L' := [(2, _), (0, _), (1, _)]) dX2_letGo_11 (by decide) rfl ?_
  refine G_iload_n dX2_letGo_12 rfl ?_
  refine G_iconst (v := (-1)) dX2_letGo_13 (by decide) ?_
  refine G_icmp_eq (tgt := 41) dX2_letGo_14 (by decide) (fun c_14 => ?_) (fun c_14 => ?_)
  · exact G_vret dX2_letGo_41 rfl ⟨Nat.le_refl 0, Nat.le_refl 0⟩ ⟨rfl, by unfold letS; first | (rw [if_pos c_14]) | (rw [if_neg c_14]; unfold tHm tHd; (simp (disch := omega) only [setR_ne, Nat.add_assoc, Nat.reduceAdd]) <;> rfl)⟩
  · refine G_aload_n dX2_letGo_17 rfl ?_
    refine G_get (k := 2) dX2_letGo_18 (cLayerG hlr) rfl wfl_X2_12 (by decide) rfl ?_
    refine G_getN (k := 2) dX2_letGo_21 (cTree (isT hlr)) rfl wfn_X2_43 (by decide) rfl ?_
    refine G_iload_n dX2_letGo_24 rfl ?_
    refine G_iconst (v := (-1)) dX2_letGo_25 (by decide) ?_
    refine G_cVv (As := [_, _]) dX2_letGo_26 kV_X3_addTo wml_X2_46 (sp_X3_addTo (tHeld (isT hlr))) rfl (cRow (tHeld (isT hlr))) rfl rfl rfl (by decide) ⟨Nat.le_refl 0, Nat.le_refl 0⟩ (Nat.le_of_ble_eq_true rfl) ?_
    refine G_aload_n dX2_letGo_29 rfl ?_
    refine G_get (k := 2) dX2_letGo_30 (cLayerG hlr) rfl wfl_X2_12 (by decide) rfl ?_
    refine G_getN (k := 6) dX2_letGo_33 (cTree (isT hlr)) rfl wfn_X2_33 (by decide) rfl ?_
    refine G_iload_n dX2_letGo_36 rfl ?_
    refine G_iconst (v := (-1)) dX2_letGo_37 (by decide) ?_
    refine G_cVv (As := [_, _]) dX2_letGo_38 kV_X3_put wml_X2_50 (sp_X3_put (tHome (isT hlr))) rfl (cRow (tHome (isT hlr))) rfl rfl rfl (by decide) ⟨Nat.le_refl 0, Nat.le_refl 0⟩ (Nat.le_of_ble_eq_true rfl) ?_
    exact G_vret dX2_letGo_41 rfl ⟨Nat.le_refl 0, Nat.le_refl 0⟩ ⟨rfl, by unfold letS; first | (rw [if_pos c_14]) | (rw [if_neg c_14]; unfold tHm tHd; (simp (disch := omega) only [setR_ne, Nat.add_assoc, Nat.reduceAdd]) <;> rfl)⟩
set_option maxHeartbeats 200000 in
theorem sp_X2_isLoose (hlr : lr < 2) : Sp K MX2_isLoose 8 0 0 [.ref (49 + 25 * lr), .int (nI k)] (hp 2 S) (fun v u => v = some (.int (looseV S lr k)) ∧ u = hp 2 S) noX := by
  refine Sp_of (by decide) (Nat.le_of_ble_eq_true rfl) ?_
  refine G_aload_n dX2_isLoose_0 rfl ?_
  refine G_get (k := 1) dX2_isLoose_1 (cLayerG hlr) rfl wfl_X2_25 (by decide) rfl ?_
  refine G_if_ne (tgt := 26) dX2_isLoose_4 (by decide) (fun c_4 => ?_) (fun c_4 => ?_)
  · refine G_iconst (v := 0) dX2_isLoose_26 (by decide) ?_
    exact G_iret dX2_isLoose_27 rfl rfl ⟨Nat.le_refl 0, Nat.le_refl 0⟩ ⟨by unfold looseV; first | rw [if_neg (fun q => c_4 q.1)] | rw [if_neg (fun q => c_19 q.2)] | rw [if_pos ⟨c_4, c_19⟩], rfl⟩
  · refine G_aload_n dX2_isLoose_7 rfl ?_
    refine G_get (k := 2) dX2_isLoose_8 (cLayerG hlr) rfl wfl_X2_12 (by decide) rfl ?_
    refine G_getN (k := 6) dX2_isLoose_11 (cTree (isT hlr)) rfl wfn_X2_33 (by decide) rfl ?_
    refine G_iload_n dX2_isLoose_14 rfl ?_
    refine G_cVi (As := [_]) dX2_isLoose_15 kV_X3_at wml_X2_37 (sp_X3_at (tHome (isT hlr))) rfl (cRow (tHome (isT hlr))) rfl rfl rfl (by decide) ⟨Nat.le_refl 0, Nat.le_refl 0⟩ (Nat.le_of_ble_eq_true rfl) ?_
    refine G_iconst (v := (-1)) dX2_isLoose_18 (by decide) ?_
    refine G_icmp_ne (tgt := 26) dX2_isLoose_19 (by decide) (fun c_19 => ?_) (fun c_19 => ?_)
    · refine G_iconst (v := 0) dX2_isLoose_26 (by decide) ?_
      exact G_iret dX2_isLoose_27 rfl rfl ⟨Nat.le_refl 0, Nat.le_refl 0⟩ ⟨by unfold looseV; first | rw [if_neg (fun q => c_4 q.1)] | rw [if_neg (fun q => c_19 q.2)] | rw [if_pos ⟨c_4, c_19⟩], rfl⟩
    · refine G_iconst (v := 1) dX2_isLoose_22 (by decide) ?_
      refine G_goto (tgt := 27) dX2_isLoose_23 (by decide) ?_
      exact G_iret dX2_isLoose_27 rfl rfl ⟨Nat.le_refl 0, Nat.le_refl 0⟩ ⟨by unfold looseV; first | rw [if_neg (fun q => c_4 q.1)] | rw [if_neg (fun q => c_19 q.2)] | rw [if_pos ⟨c_4, c_19⟩], rfl⟩
set_option maxHeartbeats 200000 in
theorem sp_X6_layerOfThing (hlr : lr < 2) (hc : tc S = nI c) (h80 : c ≤ 80) (hk : k < c) (hl : S.1 12 k = nI lr) : Sp K MX6_layerOfThing 6 0 0 [.ref 0, .int (nI k)] (hp 2 S) (fun v u => v = some (.ref (49 + 25 * lr)) ∧ u = hp 2 S) noX := by
  refine Sp_of (by decide) (Nat.le_of_ble_eq_true rfl) ?_
  have h9 : ¬ nI lr = -1 := by rcases (show lr = 0 ∨ lr = 1 by omega) with rfl | rfl <;> decide
  refine G_iload_n dX6_layerOfThing_0 rfl ?_
  refine G_if_lt (tgt := 15) dX6_layerOfThing_1 (by decide) (fun c_1 => ?_) (fun c_1 => ?_)
  · first
      | exact absurd c_1 (nI_pos (by omega))
      | exact absurd (nI_lt hk (by omega)) c_12
  · refine G_iload_n dX6_layerOfThing_4 rfl ?_
    refine G_aload_n dX6_layerOfThing_5 rfl ?_
    refine G_get (k := 0) dX6_layerOfThing_6 cIdx rfl wfl_X6_10 (by decide) rfl ?_
    refine G_getN (k := 5) dX6_layerOfThing_9 cThings rfl wfn_X6_106 (by decide) rfl ?_
    rw [show S.2.1 1 5 = nI c from hc]
    refine G_icmp_lt (tgt := 26) dX6_layerOfThing_12 (by decide) (fun c_12 => ?_) (fun c_12 => ?_)
    · refine G_aload_n dX6_layerOfThing_26 rfl ?_
      refine G_get (k := 0) dX6_layerOfThing_27 cIdx rfl wfl_X6_10 (by decide) rfl ?_
      refine G_getN (k := 1) dX6_layerOfThing_30 cThings rfl wfn_X6_132 (by decide) rfl ?_
      refine G_iload_n dX6_layerOfThing_33 rfl ?_
      refine G_cVi (As := [_]) dX6_layerOfThing_34 kV_X3_at wml_X6_116 (sp_X3_at rLayerOf) rfl (cRow rLayerOf) rfl rfl rfl (by decide) ⟨Nat.le_refl 0, Nat.le_refl 0⟩ (Nat.le_of_ble_eq_true rfl) ?_
      rw [rat_nI (show k < 80 by omega) (by decide), show S.1 (11 + 1) k = nI lr from hl]
      refine G_iconst (v := (-1)) dX6_layerOfThing_37 (by decide) ?_
      refine G_icmp_ne (tgt := 52) dX6_layerOfThing_38 (by decide) (fun c_38 => ?_) (fun c_38 => ?_)
      · refine G_aload_n dX6_layerOfThing_52 rfl ?_
        refine G_aload_n dX6_layerOfThing_53 rfl ?_
        refine G_get (k := 0) dX6_layerOfThing_54 cIdx rfl wfl_X6_10 (by decide) rfl ?_
        refine G_getN (k := 1) dX6_layerOfThing_57 cThings rfl wfn_X6_132 (by decide) rfl ?_
        refine G_iload_n dX6_layerOfThing_60 rfl ?_
        refine G_cVi (As := [_]) dX6_layerOfThing_61 kV_X3_at wml_X6_116 (sp_X3_at rLayerOf) rfl (cRow rLayerOf) rfl rfl rfl (by decide) ⟨Nat.le_refl 0, Nat.le_refl 0⟩ (Nat.le_of_ble_eq_true rfl) ?_
        rw [rat_nI (show k < 80 by omega) (by decide), show S.1 (11 + 1) k = nI lr from hl]
        refine G_cVr (As := [_]) dX6_layerOfThing_64 kV_X6_layerAt wml_X6_57 (sp_X6_layerAt hlr) rfl cIdx rfl rfl rfl (by decide) ⟨Nat.le_refl 0, Nat.le_refl 0⟩ (Nat.le_of_ble_eq_true rfl) ?_
        exact G_aret dX6_layerOfThing_67 rfl ⟨Nat.le_refl 0, Nat.le_refl 0⟩ ⟨rfl, rfl⟩
      · exact absurd c_38 h9
    · first
        | exact absurd c_1 (nI_pos (by omega))
        | exact absurd (nI_lt hk (by omega)) c_12
set_option maxHeartbeats 200000 in
theorem sp_X6_of (hlr : lr < 2) (hc : tc S = nI c) (h80 : c ≤ 80) (hk : k < c) (hl : S.1 12 k = nI lr) {w : Nat} (hw : w < 7) : Sp K MX6_of 10 0 0 [.ref 0, .int (nI k), .int (nI w)] (hp 2 S) (fun v u => v = some (.int (ofV S lr k w)) ∧ u = hp 2 S) noX := by
  have hk8 : k < 80 := by omega
  refine Sp_of (by decide) (Nat.le_of_ble_eq_true rfl) ?_
  rcases (show w = 0 ∨ w = 1 ∨ w = 2 ∨ w = 3 ∨ w = 4 ∨ w = 5 ∨ w = 6 by omega) with rfl | rfl | rfl | rfl | rfl | rfl | rfl
  · refine G_aload_n dX6_of_0 rfl ?_
    refine G_iload_n dX6_of_1 rfl ?_
    refine G_cVr (As := [_]) dX6_of_2 kV_X6_layerOfThing wml_X6_109 (sp_X6_layerOfThing hlr hc h80 hk hl) rfl cIdx rfl rfl rfl (by decide) ⟨Nat.le_refl 0, Nat.le_refl 0⟩ (Nat.le_of_ble_eq_true rfl) ?_
    refine GS_astore_n (L' := [(3, _), (0, _), (1, _), (2, _)]) dX6_of_5 (by decide) rfl ?_
    refine G_iload_n dX6_of_6 rfl ?_
    refine G_table (off := 41) (tgt := 48) dX6_of_7 (by decide) (by decide) (by decide) (by decide) ?_
    refine G_aload_n dX6_of_48 rfl ?_
    refine G_getN (k := 0) dX6_of_49 (cLayerG hlr) rfl wfn_X6_54 (by decide) rfl ?_
    exact G_iret dX6_of_52 rfl rfl ⟨Nat.le_refl 0, Nat.le_refl 0⟩ ⟨rfl, rfl⟩
  · refine G_aload_n dX6_of_0 rfl ?_
    refine G_iload_n dX6_of_1 rfl ?_
    refine G_cVr (As := [_]) dX6_of_2 kV_X6_layerOfThing wml_X6_109 (sp_X6_layerOfThing hlr hc h80 hk hl) rfl cIdx rfl rfl rfl (by decide) ⟨Nat.le_refl 0, Nat.le_refl 0⟩ (Nat.le_of_ble_eq_true rfl) ?_
    refine GS_astore_n (L' := [(3, _), (0, _), (1, _), (2, _)]) dX6_of_5 (by decide) rfl ?_
    refine G_iload_n dX6_of_6 rfl ?_
    refine G_table (off := 46) (tgt := 53) dX6_of_7 (by decide) (by decide) (by decide) (by decide) ?_
    refine G_aload_n dX6_of_53 rfl ?_
    refine G_get (k := 0) dX6_of_54 cIdx rfl wfl_X6_10 (by decide) rfl ?_
    refine G_getN (k := 0) dX6_of_57 cThings rfl wfn_X6_89 (by decide) rfl ?_
    refine G_getN (k := 0) dX6_of_60 (cBox bThings) rfl wfn_X6_150 (by decide) rfl ?_
    refine G_iload_n dX6_of_63 rfl ?_
    refine G_cVi (As := [_]) dX6_of_64 kV_X3_at wml_X6_116 (sp_X3_at bThings.2.2.2.1) rfl (cRow bThings.2.2.2.1) rfl rfl rfl (by decide) ⟨Nat.le_refl 0, Nat.le_refl 0⟩ (Nat.le_of_ble_eq_true rfl) ?_
    exact G_iret dX6_of_67 rfl rfl ⟨Nat.le_refl 0, Nat.le_refl 0⟩ ⟨by rw [rat_nI hk8 (by decide)]; rfl, rfl⟩
  · refine G_aload_n dX6_of_0 rfl ?_
    refine G_iload_n dX6_of_1 rfl ?_
    refine G_cVr (As := [_]) dX6_of_2 kV_X6_layerOfThing wml_X6_109 (sp_X6_layerOfThing hlr hc h80 hk hl) rfl cIdx rfl rfl rfl (by decide) ⟨Nat.le_refl 0, Nat.le_refl 0⟩ (Nat.le_of_ble_eq_true rfl) ?_
    refine GS_astore_n (L' := [(3, _), (0, _), (1, _), (2, _)]) dX6_of_5 (by decide) rfl ?_
    refine G_iload_n dX6_of_6 rfl ?_
    refine G_table (off := 61) (tgt := 68) dX6_of_7 (by decide) (by decide) (by decide) (by decide) ?_
    refine G_aload_n dX6_of_68 rfl ?_
    refine G_get (k := 0) dX6_of_69 cIdx rfl wfl_X6_10 (by decide) rfl ?_
    refine G_getN (k := 0) dX6_of_72 cThings rfl wfn_X6_89 (by decide) rfl ?_
    refine G_getN (k := 1) dX6_of_75 (cBox bThings) rfl wfn_X6_153 (by decide) rfl ?_
    refine G_iload_n dX6_of_78 rfl ?_
    refine G_cVi (As := [_]) dX6_of_79 kV_X3_at wml_X6_116 (sp_X3_at bThings.2.2.2.2.1) rfl (cRow bThings.2.2.2.2.1) rfl rfl rfl (by decide) ⟨Nat.le_refl 0, Nat.le_refl 0⟩ (Nat.le_of_ble_eq_true rfl) ?_
    exact G_iret dX6_of_82 rfl rfl ⟨Nat.le_refl 0, Nat.le_refl 0⟩ ⟨by rw [rat_nI hk8 (by decide)]; rfl, rfl⟩
  · refine G_aload_n dX6_of_0 rfl ?_
    refine G_iload_n dX6_of_1 rfl ?_
    refine G_cVr (As := [_]) dX6_of_2 kV_X6_layerOfThing wml_X6_109 (sp_X6_layerOfThing hlr hc h80 hk hl) rfl cIdx rfl rfl rfl (by decide) ⟨Nat.le_refl 0, Nat.le_refl 0⟩ (Nat.le_of_ble_eq_true rfl) ?_
    refine GS_astore_n (L' := [(3, _), (0, _), (1, _), (2, _)]) dX6_of_5 (by decide) rfl ?_
    refine G_iload_n dX6_of_6 rfl ?_
    refine G_table (off := 76) (tgt := 83) dX6_of_7 (by decide) (by decide) (by decide) (by decide) ?_
    refine G_aload_n dX6_of_83 rfl ?_
    refine G_get (k := 0) dX6_of_84 cIdx rfl wfl_X6_10 (by decide) rfl ?_
    refine G_getN (k := 0) dX6_of_87 cThings rfl wfn_X6_89 (by decide) rfl ?_
    refine G_getN (k := 2) dX6_of_90 (cBox bThings) rfl wfn_X6_112 (by decide) rfl ?_
    refine G_iload_n dX6_of_93 rfl ?_
    refine G_cVi (As := [_]) dX6_of_94 kV_X3_at wml_X6_116 (sp_X3_at bThings.2.2.2.2.2.1) rfl (cRow bThings.2.2.2.2.2.1) rfl rfl rfl (by decide) ⟨Nat.le_refl 0, Nat.le_refl 0⟩ (Nat.le_of_ble_eq_true rfl) ?_
    exact G_iret dX6_of_97 rfl rfl ⟨Nat.le_refl 0, Nat.le_refl 0⟩ ⟨by rw [rat_nI hk8 (by decide)]; rfl, rfl⟩
  · refine G_aload_n dX6_of_0 rfl ?_
    refine G_iload_n dX6_of_1 rfl ?_
    refine G_cVr (As := [_]) dX6_of_2 kV_X6_layerOfThing wml_X6_109 (sp_X6_layerOfThing hlr hc h80 hk hl) rfl cIdx rfl rfl rfl (by decide) ⟨Nat.le_refl 0, Nat.le_refl 0⟩ (Nat.le_of_ble_eq_true rfl) ?_
    refine GS_astore_n (L' := [(3, _), (0, _), (1, _), (2, _)]) dX6_of_5 (by decide) rfl ?_
    refine G_iload_n dX6_of_6 rfl ?_
    refine G_table (off := 91) (tgt := 98) dX6_of_7 (by decide) (by decide) (by decide) (by decide) ?_
    refine G_aload_n dX6_of_98 rfl ?_
    refine G_get (k := 0) dX6_of_99 cIdx rfl wfl_X6_10 (by decide) rfl ?_
    refine G_getN (k := 0) dX6_of_102 cThings rfl wfn_X6_89 (by decide) rfl ?_
    refine G_getN (k := 3) dX6_of_105 (cBox bThings) rfl wfn_X6_122 (by decide) rfl ?_
    refine G_iload_n dX6_of_108 rfl ?_
    refine G_cVi (As := [_]) dX6_of_109 kV_X3_at wml_X6_116 (sp_X3_at bThings.2.2.2.2.2.2) rfl (cRow bThings.2.2.2.2.2.2) rfl rfl rfl (by decide) ⟨Nat.le_refl 0, Nat.le_refl 0⟩ (Nat.le_of_ble_eq_true rfl) ?_
    exact G_iret dX6_of_112 rfl rfl ⟨Nat.le_refl 0, Nat.le_refl 0⟩ ⟨by rw [rat_nI hk8 (by decide)]; rfl, rfl⟩
  · refine G_aload_n dX6_of_0 rfl ?_
    refine G_iload_n dX6_of_1 rfl ?_
    refine G_cVr (As := [_]) dX6_of_2 kV_X6_layerOfThing wml_X6_109 (sp_X6_layerOfThing hlr hc h80 hk hl) rfl cIdx rfl rfl rfl (by decide) ⟨Nat.le_refl 0, Nat.le_refl 0⟩ (Nat.le_of_ble_eq_true rfl) ?_
    refine GS_astore_n (L' := [(3, _), (0, _), (1, _), (2, _)]) dX6_of_5 (by decide) rfl ?_
    refine G_iload_n dX6_of_6 rfl ?_
    refine G_table (off := 106) (tgt := 113) dX6_of_7 (by decide) (by decide) (by decide) (by decide) ?_
    refine G_aload_n dX6_of_113 rfl ?_
    refine G_get (k := 0) dX6_of_114 cIdx rfl wfl_X6_10 (by decide) rfl ?_
    refine G_getN (k := 2) dX6_of_117 cThings rfl wfn_X6_156 (by decide) rfl ?_
    refine G_iload_n dX6_of_120 rfl ?_
    refine G_cVi (As := [_]) dX6_of_121 kV_X3_at wml_X6_116 (sp_X3_at rTags) rfl (cRow rTags) rfl rfl rfl (by decide) ⟨Nat.le_refl 0, Nat.le_refl 0⟩ (Nat.le_of_ble_eq_true rfl) ?_
    exact G_iret dX6_of_124 rfl rfl ⟨Nat.le_refl 0, Nat.le_refl 0⟩ ⟨by rw [rat_nI hk8 (by decide)]; rfl, rfl⟩
  · refine G_aload_n dX6_of_0 rfl ?_
    refine G_iload_n dX6_of_1 rfl ?_
    refine G_cVr (As := [_]) dX6_of_2 kV_X6_layerOfThing wml_X6_109 (sp_X6_layerOfThing hlr hc h80 hk hl) rfl cIdx rfl rfl rfl (by decide) ⟨Nat.le_refl 0, Nat.le_refl 0⟩ (Nat.le_of_ble_eq_true rfl) ?_
    refine GS_astore_n (L' := [(3, _), (0, _), (1, _), (2, _)]) dX6_of_5 (by decide) rfl ?_
    refine G_iload_n dX6_of_6 rfl ?_
    refine G_table (off := 118) (tgt := 125) dX6_of_7 (by decide) (by decide) (by decide) (by decide) ?_
    refine G_aload_n dX6_of_125 rfl ?_
    refine G_iload_n dX6_of_126 rfl ?_
    refine G_cVi (As := [_]) dX6_of_127 kV_X2_isLoose wml_X6_159 (sp_X2_isLoose hlr) rfl (cLayerG hlr) rfl rfl rfl (by decide) ⟨Nat.le_refl 0, Nat.le_refl 0⟩ (Nat.le_of_ble_eq_true rfl) ?_
    refine G_if_eq (tgt := 137) dX6_of_130 (by decide) (fun c_130 => ?_) (fun c_130 => ?_)
    · refine G_iconst (v := 0) dX6_of_137 (by decide) ?_
      exact G_iret dX6_of_138 rfl rfl ⟨Nat.le_refl 0, Nat.le_refl 0⟩ ⟨by show _ = some (Value.int (looseV S lr k)); rcases (show looseV S lr k = 0 ∨ looseV S lr k = 1 by unfold looseV; split <;> simp) with e | e <;> first | exact absurd (e.symm.trans c_130) (by decide) | exact absurd e c_130 | rw [e], rfl⟩
    · refine G_iconst (v := 1) dX6_of_133 (by decide) ?_
      refine G_goto (tgt := 138) dX6_of_134 (by decide) ?_
      exact G_iret dX6_of_138 rfl rfl ⟨Nat.le_refl 0, Nat.le_refl 0⟩ ⟨by show _ = some (Value.int (looseV S lr k)); rcases (show looseV S lr k = 0 ∨ looseV S lr k = 1 by unfold looseV; split <;> simp) with e | e <;> first | exact absurd (e.symm.trans c_130) (by decide) | exact absurd e c_130 | rw [e], rfl⟩
def vpV (S : St) (lr lr2 : Nat) (far : Int32) : Int32 := if tN S (50 + 25 * lr) = 0 ∨ tN S (50 + 25 * lr2) = 0 then 0 else cvp S (50 + 25 * lr) (50 + 25 * lr2) far 11 (tR S (50 + 25 * lr)) (tR S (50 + 25 * lr2))
set_option maxHeartbeats 200000 in
theorem sp_X6_visitedPairs (hlr : lr < 2) (hlr2 : lr2 < 2) {far : Int32} (hfar : okF far) (ok : okC S (50 + 25 * lr)) (ok' : okC S (50 + 25 * lr2)) : Sp K MX6_visitedPairs 24 0 0 [.ref 0, .int (nI lr), .int (nI lr2), .int far] (hp 2 S) (fun v u => v = some (.int (vpV S lr lr2 far)) ∧ u = hp 2 S) noX := by
  refine Sp_of (by decide) (Nat.le_of_ble_eq_true rfl) ?_
  refine G_aload_n dX6_visitedPairs_0 rfl ?_
  refine G_iload_n dX6_visitedPairs_1 rfl ?_
  refine G_cVr (As := [_]) dX6_visitedPairs_2 kV_X6_layerAt wml_X6_57 (sp_X6_layerAt hlr) rfl cIdx rfl rfl rfl (by decide) ⟨Nat.le_refl 0, Nat.le_refl 0⟩ (Nat.le_of_ble_eq_true rfl) ?_
  refine G_getN (k := 2) dX6_visitedPairs_5 (cLayerG hlr) rfl wfn_X6_140 (by decide) rfl ?_
  refine GS_astore (L' := [(4, _), (0, _), (1, _), (2, _), (3, _)]) dX6_visitedPairs_8 (by decide) rfl ?_
  refine G_aload_n dX6_visitedPairs_10 rfl ?_
  refine G_iload_n dX6_visitedPairs_11 rfl ?_
  refine G_cVr (As := [_]) dX6_visitedPairs_12 kV_X6_layerAt wml_X6_57 (sp_X6_layerAt hlr2) rfl cIdx rfl rfl rfl (by decide) ⟨Nat.le_refl 0, Nat.le_refl 0⟩ (Nat.le_of_ble_eq_true rfl) ?_
  refine G_getN (k := 2) dX6_visitedPairs_15 (cLayerG hlr2) rfl wfn_X6_140 (by decide) rfl ?_
  refine GS_astore (L' := [(5, _), (4, _), (0, _), (1, _), (2, _), (3, _)]) dX6_visitedPairs_18 (by decide) rfl ?_
  refine G_iload_n dX6_visitedPairs_20 rfl ?_
  refine G_cSv (As := [_]) dX6_visitedPairs_21 kT_X6_checkFar wml_X6_210 (sp_X6_checkFar hfar) rfl rfl (by decide) ⟨Nat.le_refl 0, Nat.le_refl 0⟩ (Nat.le_of_ble_eq_true rfl) ?_
  refine G_aload dX6_visitedPairs_24 rfl ?_
  refine G_getN (k := 8) dX6_visitedPairs_26 (cTree (isT hlr)) rfl wfn_X6_147 (by decide) rfl ?_
  refine G_if_eq (tgt := 40) dX6_visitedPairs_29 (by decide) (fun c_29 => ?_) (fun c_29 => ?_)
  · refine G_iconst (v := 0) dX6_visitedPairs_40 (by decide) ?_
    exact G_iret dX6_visitedPairs_41 rfl rfl ⟨Nat.le_refl 0, Nat.le_refl 0⟩ ⟨by unfold vpV; first | rw [if_pos (Or.inl c_29)] | rw [if_pos (Or.inr c_37)] | rw [if_neg (fun q => q.elim c_29 c_37)], rfl⟩
  · refine G_aload dX6_visitedPairs_32 rfl ?_
    refine G_getN (k := 8) dX6_visitedPairs_34 (cTree (isT hlr2)) rfl wfn_X6_147 (by decide) rfl ?_
    refine G_if_ne (tgt := 42) dX6_visitedPairs_37 (by decide) (fun c_37 => ?_) (fun c_37 => ?_)
    · refine G_aload dX6_visitedPairs_42 rfl ?_
      refine G_aload dX6_visitedPairs_44 rfl ?_
      refine G_getN (k := 9) dX6_visitedPairs_46 (cTree (isT hlr)) rfl wfn_X6_217 (by decide) rfl ?_
      refine G_aload dX6_visitedPairs_49 rfl ?_
      refine G_aload dX6_visitedPairs_51 rfl ?_
      refine G_getN (k := 9) dX6_visitedPairs_53 (cTree (isT hlr2)) rfl wfn_X6_217 (by decide) rfl ?_
      refine G_iload_n dX6_visitedPairs_56 rfl ?_
      refine G_iconst (v := 0) dX6_visitedPairs_57 (by decide) ?_
      refine G_cSi (As := [_, _, _, _, _, _]) dX6_visitedPairs_58 kT_X6_countVisitedPairs wml_X6_220 (sp_cvp (isT hlr) (isT hlr2) ok ok' 11 0 rfl _ _) rfl rfl (by decide) ⟨Nat.le_refl 0, Nat.le_refl 0⟩ (Nat.le_of_ble_eq_true rfl) ?_
      exact G_iret dX6_visitedPairs_61 rfl rfl ⟨Nat.le_refl 0, Nat.le_refl 0⟩ ⟨by unfold vpV; first | rw [if_pos (Or.inl c_29)] | rw [if_pos (Or.inr c_37)] | rw [if_neg (fun q => q.elim c_29 c_37)], rfl⟩
    · refine G_iconst (v := 0) dX6_visitedPairs_40 (by decide) ?_
      exact G_iret dX6_visitedPairs_41 rfl rfl ⟨Nat.le_refl 0, Nat.le_refl 0⟩ ⟨by unfold vpV; first | rw [if_pos (Or.inl c_29)] | rw [if_pos (Or.inr c_37)] | rw [if_neg (fun q => q.elim c_29 c_37)], rfl⟩
/-- the planned tree behind nodesWith -/
def planS (S : St) (c lr fn : Nat) : St := if ip lr = 0 then growP S 25 c fn (nI lr) else growS S 25 c (nI lr) (nI fn)
set_option maxHeartbeats 200000 in
theorem sp_X6_nodesWith (hc : tc S = nI c) (h80 : c ≤ 80) (hlr : lr < 2) {fn : Nat} (hf2 : 2 ≤ fn) (hf : fn ≤ 8) (hok : lr = 1 → ¬ cnt (inL (fellS S 25) (nI 1)) c = 0 → gpOk (pk3 S 25 c fn (nI 1)) 25 fn 10 0 1) : Sp K MX6_nodesWith 16 0 0 [.ref 0, .int (nI lr), .int (nI fn)] (hp 2 S) (fun v u => v = some (.int (tN (planS S c lr fn) 25)) ∧ u = hp 2 (planS S c lr fn)) noX := by
  refine Sp_of (by decide) (Nat.le_of_ble_eq_true rfl) ?_
  refine G_aload_n dX6_nodesWith_0 rfl ?_
  refine G_iload_n dX6_nodesWith_1 rfl ?_
  refine G_cVr (As := [_]) dX6_nodesWith_2 kV_X6_layerAt wml_X6_57 (sp_X6_layerAt hlr) rfl cIdx rfl rfl rfl (by decide) ⟨Nat.le_refl 0, Nat.le_refl 0⟩ (Nat.le_of_ble_eq_true rfl) ?_
  refine GS_astore_n (L' := [(3, _), (0, _), (1, _), (2, _)]) dX6_nodesWith_5 (by decide) rfl ?_
  refine G_aload_n dX6_nodesWith_6 rfl ?_
  refine G_iload_n dX6_nodesWith_7 rfl ?_
  refine G_cSv (As := [_, _]) dX6_nodesWith_8 kT_X6_checkSize wml_X6_61 (sp_X6_checkSize hlr (by omega) (Or.inl hf2) hf) rfl rfl (by decide) ⟨Nat.le_refl 0, Nat.le_refl 0⟩ (Nat.le_of_ble_eq_true rfl) ?_
  refine G_aload_n dX6_nodesWith_11 rfl ?_
  refine G_getN (k := 1) dX6_nodesWith_12 (cLayerG hlr) rfl wfn_X6_252 (by decide) rfl ?_
  refine G_if_eq (tgt := 34) dX6_nodesWith_15 (by decide) (fun c_15 => ?_) (fun c_15 => ?_)
  · refine G_aload_n dX6_nodesWith_34 rfl ?_
    refine G_get (k := 3) dX6_nodesWith_35 cIdx rfl wfl_X6_32 (by decide) rfl ?_
    refine G_aload_n dX6_nodesWith_38 rfl ?_
    refine G_get (k := 0) dX6_nodesWith_39 cIdx rfl wfl_X6_10 (by decide) rfl ?_
    refine G_iload_n dX6_nodesWith_42 rfl ?_
    refine G_iload_n dX6_nodesWith_43 rfl ?_
    refine G_cVv (As := [_, _, _]) dX6_nodesWith_44 kV_X5_growPacked wml_X6_143 (sp_X5_growPacked (Or.inl rfl) hc h80 hf2 hf (fun q => by
    have e1 : lr = 1 := by
      rcases (show lr = 0 ∨ lr = 1 by omega) with e | e
      · rw [e] at c_15; exact absurd c_15 (by decide)
      · exact e
    subst e1
    exact hok rfl q)) rfl (cTree (Or.inl rfl)) rfl rfl rfl (by decide) ⟨Nat.le_refl 0, Nat.le_refl 0⟩ (Nat.le_of_ble_eq_true rfl) ?_
    refine G_aload_n dX6_nodesWith_47 rfl ?_
    refine G_get (k := 3) dX6_nodesWith_48 cIdx rfl wfl_X6_32 (by decide) rfl ?_
    refine G_getN (k := 8) dX6_nodesWith_51 (cTree (Or.inl rfl)) rfl wfn_X6_147 (by decide) rfl ?_
    exact G_iret dX6_nodesWith_54 rfl rfl ⟨Nat.le_refl 0, Nat.le_refl 0⟩ ⟨by unfold planS; first | rw [if_pos c_15] | rw [if_neg c_15], by unfold planS; first | rw [if_pos c_15] | rw [if_neg c_15]⟩
  · refine G_aload_n dX6_nodesWith_18 rfl ?_
    refine G_get (k := 3) dX6_nodesWith_19 cIdx rfl wfl_X6_32 (by decide) rfl ?_
    refine G_aload_n dX6_nodesWith_22 rfl ?_
    refine G_get (k := 0) dX6_nodesWith_23 cIdx rfl wfl_X6_10 (by decide) rfl ?_
    refine G_iload_n dX6_nodesWith_26 rfl ?_
    refine G_iload_n dX6_nodesWith_27 rfl ?_
    refine G_cVv (As := [_, _, _]) dX6_nodesWith_28 kV_X5_growQuarters wml_X6_256 (sp_X5_growQuarters (Or.inl rfl) hc h80) rfl (cTree (Or.inl rfl)) rfl rfl rfl (by decide) ⟨Nat.le_refl 0, Nat.le_refl 0⟩ (Nat.le_of_ble_eq_true rfl) ?_
    refine G_goto (tgt := 47) dX6_nodesWith_31 (by decide) ?_
    refine G_aload_n dX6_nodesWith_47 rfl ?_
    refine G_get (k := 3) dX6_nodesWith_48 cIdx rfl wfl_X6_32 (by decide) rfl ?_
    refine G_getN (k := 8) dX6_nodesWith_51 (cTree (Or.inl rfl)) rfl wfn_X6_147 (by decide) rfl ?_
    exact G_iret dX6_nodesWith_54 rfl rfl ⟨Nat.le_refl 0, Nat.le_refl 0⟩ ⟨by unfold planS; first | rw [if_pos c_15] | rw [if_neg c_15], by unfold planS; first | rw [if_pos c_15] | rw [if_neg c_15]⟩
set_option maxHeartbeats 200000 in
theorem sp_X6_level {N : Nat} (hN : tN S 75 = nI N) (hN2 : N ≤ 1205) : Sp K MX6_level 10 0 0 [.ref 0, .int (nI 1), .int 0] (hp 2 S) (fun v u => v = some (.int (nI (cnt (onLv S 75 0) N))) ∧ u = hp 2 S) noX := by
  refine Sp_of (by decide) (Nat.le_of_ble_eq_true rfl) ?_
  refine G_aload_n dX6_level_0 rfl ?_
  refine G_iload_n dX6_level_1 rfl ?_
  refine G_cVr (As := [_]) dX6_level_2 kV_X6_layerAt wml_X6_57 (sp_X6_layerAt (lr := 1) (by omega)) rfl cIdx rfl rfl rfl (by decide) ⟨Nat.le_refl 0, Nat.le_refl 0⟩ (Nat.le_of_ble_eq_true rfl) ?_
  refine GS_astore_n (L' := [(3, _), (0, _), (1, _), (2, _)]) dX6_level_5 (by decide) rfl ?_
  refine G_aload_n dX6_level_6 rfl ?_
  refine G_cSv (As := [_]) dX6_level_7 kT_X6_checkIsOfBoxes wml_X6_99 sp_X6_checkIsOfBoxes rfl rfl (by decide) ⟨Nat.le_refl 0, Nat.le_refl 0⟩ (Nat.le_of_ble_eq_true rfl) ?_
  refine G_iload_n dX6_level_10 rfl ?_
  refine G_if_ge (tgt := 24) dX6_level_11 (by decide) (fun c_11 => ?_) (fun c_11 => ?_)
  · refine G_aload_n dX6_level_24 rfl ?_
    refine G_getN (k := 2) dX6_level_25 (cLayer1 (show 2 ≤ 2 by omega)) rfl wfn_X6_140 (by decide) rfl ?_
    refine G_iload_n dX6_level_28 rfl ?_
    refine G_cVi (As := [_]) dX6_level_29 kV_X5_countOnLevel wml_X6_183 (sp_X5_countOnLevel (isT (lr := 1) (by omega)) hN hN2) rfl (cTree (isT (lr := 1) (by omega))) rfl rfl rfl (by decide) ⟨Nat.le_refl 0, Nat.le_refl 0⟩ (Nat.le_of_ble_eq_true rfl) ?_
    exact G_iret dX6_level_32 rfl rfl ⟨Nat.le_refl 0, Nat.le_refl 0⟩ ⟨rfl, rfl⟩
  · exact absurd (Int32.le_refl 0) c_11
set_option maxHeartbeats 200000 in
theorem sp_X6_node {N : Nat} (hN : tN S 75 = nI N) (hN2 : N ≤ 1205) {j : Nat} (hj : j < cnt (onLv S 75 0) N) (h0 : tN S 75 = 0 ∨ 0 ≤ tLv S 75 0) : Sp K MX6_node 10 0 0 [.ref 0, .int (nI 1), .int 0, .int (nI j), .int 4] (hp 2 S) (fun v u => v = some (.int (if leafI S 75 (nI j) = 0 then rat (tCt S 75) 1205 (nI j) else rat (tHd S 75) 1205 (nI j))) ∧ u = hp 2 S) noX := by
  refine Sp_of (by decide) (Nat.le_of_ble_eq_true rfl) ?_
  have hcn := cnt_le (onLv S 75 0) N
  refine G_aload_n dX6_node_0 rfl ?_
  refine G_iload_n dX6_node_1 rfl ?_
  refine G_cVr (As := [_]) dX6_node_2 kV_X6_layerAt wml_X6_57 (sp_X6_layerAt (lr := 1) (by omega)) rfl cIdx rfl rfl rfl (by decide) ⟨Nat.le_refl 0, Nat.le_refl 0⟩ (Nat.le_of_ble_eq_true rfl) ?_
  refine GS_astore (L' := [(5, _), (0, _), (1, _), (2, _), (3, _), (4, _)]) dX6_node_5 (by decide) rfl ?_
  refine G_aload dX6_node_7 rfl ?_
  refine G_cSv (As := [_]) dX6_node_9 kT_X6_checkIsOfBoxes wml_X6_99 sp_X6_checkIsOfBoxes rfl rfl (by decide) ⟨Nat.le_refl 0, Nat.le_refl 0⟩ (Nat.le_of_ble_eq_true rfl) ?_
  refine G_aload dX6_node_12 rfl ?_
  refine G_getN (k := 2) dX6_node_14 (cLayer1 (show 2 ≤ 2 by omega)) rfl wfn_X6_140 (by decide) rfl ?_
  refine GS_astore (L' := [(6, _), (5, _), (0, _), (1, _), (2, _), (3, _), (4, _)]) dX6_node_17 (by decide) rfl ?_
  refine G_iload_n dX6_node_19 rfl ?_
  refine G_if_lt (tgt := 33) dX6_node_20 (by decide) (fun c_20 => ?_) (fun c_20 => ?_)
  · first
      | exact absurd c_20 (nI_pos (by omega))
      | exact absurd (nI_lt hj (by omega)) c_30
  · refine G_iload_n dX6_node_23 rfl ?_
    refine G_aload dX6_node_24 rfl ?_
    refine G_iload_n dX6_node_26 rfl ?_
    refine G_cVi (As := [_]) dX6_node_27 kV_X5_countOnLevel wml_X6_183 (sp_X5_countOnLevel (isT (lr := 1) (by omega)) hN hN2) rfl (cTree (isT (lr := 1) (by omega))) rfl rfl rfl (by decide) ⟨Nat.le_refl 0, Nat.le_refl 0⟩ (Nat.le_of_ble_eq_true rfl) ?_
    refine G_icmp_lt (tgt := 43) dX6_node_30 (by decide) (fun c_30 => ?_) (fun c_30 => ?_)
    · refine G_aload dX6_node_43 rfl ?_
      refine G_iload_n dX6_node_45 rfl ?_
      refine G_cVi (As := [_]) dX6_node_46 kV_X5_firstOnLevel wml_X6_191 (sp_X5_firstOnLevel (isT (lr := 1) (by omega)) h0) rfl (cTree (isT (lr := 1) (by omega))) rfl rfl rfl (by decide) ⟨Nat.le_refl 0, Nat.le_refl 0⟩ (Nat.le_of_ble_eq_true rfl) ?_
      refine G_iload_n dX6_node_49 rfl ?_
      refine G_iadd dX6_node_50 ?_
      rw [show (0 : Int32) + nI j = nI j from Int32.zero_add _]
      refine GS_istore (L' := [(7, _), (6, _), (5, _), (0, _), (1, _), (2, _), (3, _), (4, _)]) dX6_node_51 (by decide) rfl ?_
      refine G_iload dX6_node_53 rfl ?_
      refine G_table (off := 89) (tgt := 144) dX6_node_55 (by decide) (by decide) (by decide) (by decide) ?_
      refine G_aload dX6_node_144 rfl ?_
      refine G_iload dX6_node_146 rfl ?_
      refine G_cVi (As := [_]) dX6_node_148 kV_X5_isLeaf wml_X6_194 (sp_X5_isLeaf (isT (lr := 1) (by omega))) rfl (cTree (isT (lr := 1) (by omega))) rfl rfl rfl (by decide) ⟨Nat.le_refl 0, Nat.le_refl 0⟩ (Nat.le_of_ble_eq_true rfl) ?_
      refine G_if_eq (tgt := 167) dX6_node_151 (by decide) (fun c_151 => ?_) (fun c_151 => ?_)
      · refine G_aload dX6_node_167 rfl ?_
        refine G_getN (k := 4) dX6_node_169 (cTree (isT (lr := 1) (by omega))) rfl wfn_X6_197 (by decide) rfl ?_
        refine G_iload dX6_node_172 rfl ?_
        refine G_cVi (As := [_]) dX6_node_174 kV_X3_at wml_X6_116 (sp_X3_at (tCount (isT (lr := 1) (by omega)))) rfl (cRow (tCount (isT (lr := 1) (by omega)))) rfl rfl rfl (by decide) ⟨Nat.le_refl 0, Nat.le_refl 0⟩ (Nat.le_of_ble_eq_true rfl) ?_
        exact G_iret dX6_node_177 rfl rfl ⟨Nat.le_refl 0, Nat.le_refl 0⟩ ⟨by first | rw [if_pos c_151] | rw [if_neg c_151], rfl⟩
      · refine G_aload dX6_node_154 rfl ?_
        refine G_getN (k := 2) dX6_node_156 (cTree (isT (lr := 1) (by omega))) rfl wfn_X6_173 (by decide) rfl ?_
        refine G_iload dX6_node_159 rfl ?_
        refine G_cVi (As := [_]) dX6_node_161 kV_X3_at wml_X6_116 (sp_X3_at (tHeld (isT (lr := 1) (by omega)))) rfl (cRow (tHeld (isT (lr := 1) (by omega)))) rfl rfl rfl (by decide) ⟨Nat.le_refl 0, Nat.le_refl 0⟩ (Nat.le_of_ble_eq_true rfl) ?_
        refine G_goto (tgt := 177) dX6_node_164 (by decide) ?_
        exact G_iret dX6_node_177 rfl rfl ⟨Nat.le_refl 0, Nat.le_refl 0⟩ ⟨by first | rw [if_pos c_151] | rw [if_neg c_151], rfl⟩
    · first
        | exact absurd c_20 (nI_pos (by omega))
        | exact absurd (nI_lt hj (by omega)) c_30
set_option maxHeartbeats 200000 in
theorem sp_X6_leaf {x y : Int32} (hx : okM x) (hy : okM y) : Sp K MX6_leaf 14 0 0 [.ref 0, .int (nI 0), .int x, .int y, .int 3] (hp 2 S) (fun v u => v = some (.int (rat (tHd S 50) 1205 (dsc S 50 x y 11 (tR S 50)))) ∧ u = hp 2 S) noX := by
  refine Sp_of (by decide) (Nat.le_of_ble_eq_true rfl) ?_
  refine G_aload_n dX6_leaf_0 rfl ?_
  refine G_iload_n dX6_leaf_1 rfl ?_
  refine G_cVr (As := [_]) dX6_leaf_2 kV_X6_layerAt wml_X6_57 (sp_X6_layerAt (lr := 0) (by omega)) rfl cIdx rfl rfl rfl (by decide) ⟨Nat.le_refl 0, Nat.le_refl 0⟩ (Nat.le_of_ble_eq_true rfl) ?_
  refine GS_astore (L' := [(5, _), (0, _), (1, _), (2, _), (3, _), (4, _)]) dX6_leaf_5 (by decide) rfl ?_
  refine G_aload dX6_leaf_7 rfl ?_
  refine G_cSv (As := [_]) dX6_leaf_9 kT_X6_checkIsOfPoints wml_X6_68 sp_X6_checkIsOfPoints rfl rfl (by decide) ⟨Nat.le_refl 0, Nat.le_refl 0⟩ (Nat.le_of_ble_eq_true rfl) ?_
  refine G_iload_n dX6_leaf_12 rfl ?_
  refine G_iload_n dX6_leaf_13 rfl ?_
  refine G_cSv (As := [_, _]) dX6_leaf_14 kT_X6_checkWithinMap wml_X6_72 (sp_X6_checkWithinMap hx hy) rfl rfl (by decide) ⟨Nat.le_refl 0, Nat.le_refl 0⟩ (Nat.le_of_ble_eq_true rfl) ?_
  refine G_aload dX6_leaf_17 rfl ?_
  refine G_getN (k := 2) dX6_leaf_19 (cLayer0 (show 1 ≤ 2 by omega)) rfl wfn_X6_140 (by decide) rfl ?_
  refine GS_astore (L' := [(6, _), (5, _), (0, _), (1, _), (2, _), (3, _), (4, _)]) dX6_leaf_22 (by decide) rfl ?_
  refine G_aload dX6_leaf_24 rfl ?_
  refine G_iload_n dX6_leaf_26 rfl ?_
  refine G_iload_n dX6_leaf_27 rfl ?_
  refine G_cVi (As := [_, _]) dX6_leaf_28 kV_X5_leafAt wml_X6_169 (sp_X5_leafAt (isT (lr := 0) (by omega))) rfl (cTree (isT (lr := 0) (by omega))) rfl rfl rfl (by decide) ⟨Nat.le_refl 0, Nat.le_refl 0⟩ (Nat.le_of_ble_eq_true rfl) ?_
  refine GS_istore (L' := [(7, _), (6, _), (5, _), (0, _), (1, _), (2, _), (3, _), (4, _)]) dX6_leaf_31 (by decide) rfl ?_
  refine G_iload dX6_leaf_33 rfl ?_
  refine G_table (off := 77) (tgt := 112) dX6_leaf_35 (by decide) (by decide) (by decide) (by decide) ?_
  refine G_aload dX6_leaf_112 rfl ?_
  refine G_getN (k := 2) dX6_leaf_114 (cTree (isT (lr := 0) (by omega))) rfl wfn_X6_173 (by decide) rfl ?_
  refine G_iload dX6_leaf_117 rfl ?_
  refine G_cVi (As := [_]) dX6_leaf_119 kV_X3_at wml_X6_116 (sp_X3_at (tHeld (isT (lr := 0) (by omega)))) rfl (cRow (tHeld (isT (lr := 0) (by omega)))) rfl rfl rfl (by decide) ⟨Nat.le_refl 0, Nat.le_refl 0⟩ (Nat.le_of_ble_eq_true rfl) ?_
  exact G_iret dX6_leaf_122 rfl rfl ⟨Nat.le_refl 0, Nat.le_refl 0⟩ ⟨rfl, rfl⟩
set_option maxHeartbeats 200000 in
theorem sp_X6_addPoint (hc : tc S = nI c) (h80 : c + 1 ≤ 80) {x y : Int32} (hx : okM x) (hy : okM y) {tag : Int32} (ht1 : ¬ tag < 0) (ht2 : tag < 10) : Sp K MX6_addPoint 18 0 0 [.ref 0, .int (nI 0), .int x, .int y, .int tag] (hp 2 S) (fun v u => v = some (.int (nI c)) ∧ u = hp 2 (regS (bput (addS S (nI 0) tag) 2 80 (nI c) x y 0 0) (c + 1) 0)) noX := by
  refine Sp_of (by decide) (Nat.le_of_ble_eq_true rfl) ?_
  have hc1 : tc (addS S (nI 0) tag) = nI (c + 1) := by
    show va_up (S.2.1 1) 5 (S.2.1 1 5 + 1) 5 = _
    unfold va_up
    rw [if_pos rfl, show S.2.1 1 5 = nI c from hc, nI_1]
  refine G_aload_n dX6_addPoint_0 rfl ?_
  refine G_iload_n dX6_addPoint_1 rfl ?_
  refine G_cVr (As := [_]) dX6_addPoint_2 kV_X6_layerAt wml_X6_57 (sp_X6_layerAt (lr := 0) (by omega)) rfl cIdx rfl rfl rfl (by decide) ⟨Nat.le_refl 0, Nat.le_refl 0⟩ (Nat.le_of_ble_eq_true rfl) ?_
  refine GS_astore (L' := [(5, _), (0, _), (1, _), (2, _), (3, _), (4, _)]) dX6_addPoint_5 (by decide) rfl ?_
  refine G_aload dX6_addPoint_7 rfl ?_
  refine G_cSv (As := [_]) dX6_addPoint_9 kT_X6_checkIsOfPoints wml_X6_68 sp_X6_checkIsOfPoints rfl rfl (by decide) ⟨Nat.le_refl 0, Nat.le_refl 0⟩ (Nat.le_of_ble_eq_true rfl) ?_
  refine G_iload_n dX6_addPoint_12 rfl ?_
  refine G_iload_n dX6_addPoint_13 rfl ?_
  refine G_cSv (As := [_, _]) dX6_addPoint_14 kT_X6_checkWithinMap wml_X6_72 (sp_X6_checkWithinMap hx hy) rfl rfl (by decide) ⟨Nat.le_refl 0, Nat.le_refl 0⟩ (Nat.le_of_ble_eq_true rfl) ?_
  refine G_iload dX6_addPoint_17 rfl ?_
  refine G_if_lt (tgt := 29) dX6_addPoint_19 (by decide) (fun c_19 => ?_) (fun c_19 => ?_)
  · first
      | exact absurd c_19 ht1
      | exact absurd ht2 c_26
  · refine G_iload dX6_addPoint_22 rfl ?_
    refine G_bipush (v := 10) dX6_addPoint_24 (by decide) ?_
    refine G_icmp_lt (tgt := 39) dX6_addPoint_26 (by decide) (fun c_26 => ?_) (fun c_26 => ?_)
    · refine G_aload_n dX6_addPoint_39 rfl ?_
      refine G_iconst (v := 1) dX6_addPoint_40 (by decide) ?_
      refine G_cVv (As := [_]) dX6_addPoint_41 kV_X6_checkRoomFor wml_X6_81 (sp_X6_checkRoomFor (m := 1) hc h80) rfl cIdx rfl rfl rfl (by decide) ⟨Nat.le_refl 0, Nat.le_refl 0⟩ (Nat.le_of_ble_eq_true rfl) ?_
      refine G_aload_n dX6_addPoint_44 rfl ?_
      refine G_get (k := 0) dX6_addPoint_45 cIdx rfl wfl_X6_10 (by decide) rfl ?_
      refine G_iload_n dX6_addPoint_48 rfl ?_
      refine G_iload dX6_addPoint_49 rfl ?_
      refine G_cVi (As := [_, _]) dX6_addPoint_51 kV_X4_add wml_X6_85 sp_X4_add rfl cThings rfl rfl rfl (by decide) ⟨Nat.le_refl 0, Nat.le_refl 0⟩ (Nat.le_of_ble_eq_true rfl) ?_
      rw [show S.2.1 1 5 = nI c from hc]
      refine GS_istore (L' := [(6, _), (5, _), (0, _), (1, _), (2, _), (3, _), (4, _)]) dX6_addPoint_54 (by decide) rfl ?_
      refine G_aload_n dX6_addPoint_56 rfl ?_
      refine G_get (k := 0) dX6_addPoint_57 cIdx rfl wfl_X6_10 (by decide) rfl ?_
      refine G_getN (k := 0) dX6_addPoint_60 cThings rfl wfn_X6_89 (by decide) rfl ?_
      refine G_iload dX6_addPoint_63 rfl ?_
      refine G_iload_n dX6_addPoint_65 rfl ?_
      refine G_iload_n dX6_addPoint_66 rfl ?_
      refine G_iconst (v := 0) dX6_addPoint_67 (by decide) ?_
      refine G_iconst (v := 0) dX6_addPoint_68 (by decide) ?_
      refine G_cVv (As := [_, _, _, _, _]) dX6_addPoint_69 kV_X0_put wml_X6_93 (sp_X0_put bThings) rfl (cBox bThings) rfl rfl rfl (by decide) ⟨Nat.le_refl 0, Nat.le_refl 0⟩ (Nat.le_of_ble_eq_true rfl) ?_
      refine G_aload dX6_addPoint_72 rfl ?_
      refine G_aload_n dX6_addPoint_74 rfl ?_
      refine G_get (k := 0) dX6_addPoint_75 cIdx rfl wfl_X6_10 (by decide) rfl ?_
      refine G_cVv (As := [_]) dX6_addPoint_78 kV_X2_regrow wml_X6_50 (sp_X2_regrow (lr := 0) (by omega) hc1 (by omega)) rfl (cLayer0 (show 1 ≤ 2 by omega)) rfl rfl rfl (by decide) ⟨Nat.le_refl 0, Nat.le_refl 0⟩ (Nat.le_of_ble_eq_true rfl) ?_
      refine G_iload dX6_addPoint_81 rfl ?_
      exact G_iret dX6_addPoint_83 rfl rfl ⟨Nat.le_refl 0, Nat.le_refl 0⟩ ⟨rfl, rfl⟩
    · first
        | exact absurd c_19 ht1
        | exact absurd ht2 c_26
set_option maxHeartbeats 200000 in
theorem sp_X6_addBox (hc : tc S = nI c) (h80 : c + 1 ≤ 80) {x y : Int32} (hx : okM x) (hy : okM y) {w h : Int32} (hw : ¬ w < 0 ∧ ¬ 200 < w) (hh : ¬ h < 0 ∧ ¬ 200 < h) (hxw : okM (x + w)) (hyh : okM (y + h)) {tag : Int32} (ht1 : ¬ tag < 0) (ht2 : tag < 10) : Sp K MX6_addBox 18 0 0 [.ref 0, .int (nI 1), .int x, .int y, .int w, .int h, .int tag] (hp 2 S) (fun v u => v = some (.int (nI c)) ∧ u = hp 2 (bput (addS S (nI 1) tag) 2 80 (nI c) x y w h)) noX := by
  refine Sp_of (by decide) (Nat.le_of_ble_eq_true rfl) ?_
  refine G_aload_n dX6_addBox_0 rfl ?_
  refine G_iload_n dX6_addBox_1 rfl ?_
  refine G_cVr (As := [_]) dX6_addBox_2 kV_X6_layerAt wml_X6_57 (sp_X6_layerAt (lr := 1) (by omega)) rfl cIdx rfl rfl rfl (by decide) ⟨Nat.le_refl 0, Nat.le_refl 0⟩ (Nat.le_of_ble_eq_true rfl) ?_
  refine G_cSv (As := [_]) dX6_addBox_5 kT_X6_checkIsOfBoxes wml_X6_99 sp_X6_checkIsOfBoxes rfl rfl (by decide) ⟨Nat.le_refl 0, Nat.le_refl 0⟩ (Nat.le_of_ble_eq_true rfl) ?_
  refine G_iload_n dX6_addBox_8 rfl ?_
  refine G_iload_n dX6_addBox_9 rfl ?_
  refine G_cSv (As := [_, _]) dX6_addBox_10 kT_X6_checkWithinMap wml_X6_72 (sp_X6_checkWithinMap hx hy) rfl rfl (by decide) ⟨Nat.le_refl 0, Nat.le_refl 0⟩ (Nat.le_of_ble_eq_true rfl) ?_
  refine G_iload dX6_addBox_13 rfl ?_
  refine G_if_lt (tgt := 39) dX6_addBox_15 (by decide) (fun c_15 => ?_) (fun c_15 => ?_)
  · first
      | exact absurd c_15 hw.1
      | exact absurd c_23 hw.2
      | exact absurd c_28 hh.1
      | exact absurd (i32_nle c_36) hh.2
  · refine G_iload dX6_addBox_18 rfl ?_
    refine G_sipush (v := 200) dX6_addBox_20 (by decide) ?_
    refine G_icmp_gt (tgt := 39) dX6_addBox_23 (by decide) (fun c_23 => ?_) (fun c_23 => ?_)
    · first
        | exact absurd c_15 hw.1
        | exact absurd c_23 hw.2
        | exact absurd c_28 hh.1
        | exact absurd (i32_nle c_36) hh.2
    · refine G_iload dX6_addBox_26 rfl ?_
      refine G_if_lt (tgt := 39) dX6_addBox_28 (by decide) (fun c_28 => ?_) (fun c_28 => ?_)
      · first
          | exact absurd c_15 hw.1
          | exact absurd c_23 hw.2
          | exact absurd c_28 hh.1
          | exact absurd (i32_nle c_36) hh.2
      · refine G_iload dX6_addBox_31 rfl ?_
        refine G_sipush (v := 200) dX6_addBox_33 (by decide) ?_
        refine G_icmp_le (tgt := 49) dX6_addBox_36 (by decide) (fun c_36 => ?_) (fun c_36 => ?_)
        · refine G_iload_n dX6_addBox_49 rfl ?_
          refine G_iload dX6_addBox_50 rfl ?_
          refine G_iadd dX6_addBox_52 ?_
          refine G_iload_n dX6_addBox_53 rfl ?_
          refine G_iload dX6_addBox_54 rfl ?_
          refine G_iadd dX6_addBox_56 ?_
          refine G_cSv (As := [_, _]) dX6_addBox_57 kT_X6_checkWithinMap wml_X6_72 (sp_X6_checkWithinMap hxw hyh) rfl rfl (by decide) ⟨Nat.le_refl 0, Nat.le_refl 0⟩ (Nat.le_of_ble_eq_true rfl) ?_
          refine G_iload dX6_addBox_60 rfl ?_
          refine G_if_lt (tgt := 72) dX6_addBox_62 (by decide) (fun c_62 => ?_) (fun c_62 => ?_)
          · first
              | exact absurd c_62 ht1
              | exact absurd ht2 c_69
          · refine G_iload dX6_addBox_65 rfl ?_
            refine G_bipush (v := 10) dX6_addBox_67 (by decide) ?_
            refine G_icmp_lt (tgt := 82) dX6_addBox_69 (by decide) (fun c_69 => ?_) (fun c_69 => ?_)
            · refine G_aload_n dX6_addBox_82 rfl ?_
              refine G_iconst (v := 1) dX6_addBox_83 (by decide) ?_
              refine G_cVv (As := [_]) dX6_addBox_84 kV_X6_checkRoomFor wml_X6_81 (sp_X6_checkRoomFor (m := 1) hc h80) rfl cIdx rfl rfl rfl (by decide) ⟨Nat.le_refl 0, Nat.le_refl 0⟩ (Nat.le_of_ble_eq_true rfl) ?_
              refine G_aload_n dX6_addBox_87 rfl ?_
              refine G_get (k := 0) dX6_addBox_88 cIdx rfl wfl_X6_10 (by decide) rfl ?_
              refine G_iload_n dX6_addBox_91 rfl ?_
              refine G_iload dX6_addBox_92 rfl ?_
              refine G_cVi (As := [_, _]) dX6_addBox_94 kV_X4_add wml_X6_85 sp_X4_add rfl cThings rfl rfl rfl (by decide) ⟨Nat.le_refl 0, Nat.le_refl 0⟩ (Nat.le_of_ble_eq_true rfl) ?_
              rw [show S.2.1 1 5 = nI c from hc]
              refine GS_istore (L' := [(7, _), (0, _), (1, _), (2, _), (3, _), (4, _), (5, _), (6, _)]) dX6_addBox_97 (by decide) rfl ?_
              refine G_aload_n dX6_addBox_99 rfl ?_
              refine G_get (k := 0) dX6_addBox_100 cIdx rfl wfl_X6_10 (by decide) rfl ?_
              refine G_getN (k := 0) dX6_addBox_103 cThings rfl wfn_X6_89 (by decide) rfl ?_
              refine G_iload dX6_addBox_106 rfl ?_
              refine G_iload_n dX6_addBox_108 rfl ?_
              refine G_iload_n dX6_addBox_109 rfl ?_
              refine G_iload dX6_addBox_110 rfl ?_
              refine G_iload dX6_addBox_112 rfl ?_
              refine G_cVv (As := [_, _, _, _, _]) dX6_addBox_114 kV_X0_put wml_X6_93 (sp_X0_put bThings) rfl (cBox bThings) rfl rfl rfl (by decide) ⟨Nat.le_refl 0, Nat.le_refl 0⟩ (Nat.le_of_ble_eq_true rfl) ?_
              refine G_iload dX6_addBox_117 rfl ?_
              exact G_iret dX6_addBox_119 rfl rfl ⟨Nat.le_refl 0, Nat.le_refl 0⟩ ⟨rfl, rfl⟩
            · first
                | exact absurd c_62 ht1
                | exact absurd ht2 c_69
        · first
            | exact absurd c_15 hw.1
            | exact absurd c_23 hw.2
            | exact absurd c_28 hh.1
            | exact absurd (i32_nle c_36) hh.2
set_option maxHeartbeats 200000 in
theorem sp_X6_setSize (hc : tc S = nI c) (h80 : c ≤ 80) (hlr : lr < 2) {fn : Nat} (hf1 : 1 ≤ fn) (hf2 : 2 ≤ fn ∨ lr = 0) (hf : fn ≤ 8) : Sp K MX6_setSize 18 0 0 [.ref 0, .int (nI lr), .int (nI fn)] (hp 2 S) (fun v u => v = some (.int (S.2.1 (49 + 25 * lr) 3)) ∧ u = hp 2 (regS (setI S (49 + 25 * lr) 3 (nI fn)) c lr)) noX := by
  refine Sp_of (by decide) (Nat.le_of_ble_eq_true rfl) ?_
  refine G_aload_n dX6_setSize_0 rfl ?_
  refine G_iload_n dX6_setSize_1 rfl ?_
  refine G_cVr (As := [_]) dX6_setSize_2 kV_X6_layerAt wml_X6_57 (sp_X6_layerAt hlr) rfl cIdx rfl rfl rfl (by decide) ⟨Nat.le_refl 0, Nat.le_refl 0⟩ (Nat.le_of_ble_eq_true rfl) ?_
  refine GS_astore_n (L' := [(3, _), (0, _), (1, _), (2, _)]) dX6_setSize_5 (by decide) rfl ?_
  refine G_aload_n dX6_setSize_6 rfl ?_
  refine G_iload_n dX6_setSize_7 rfl ?_
  refine G_cSv (As := [_, _]) dX6_setSize_8 kT_X6_checkSize wml_X6_61 (sp_X6_checkSize hlr hf1 hf2 hf) rfl rfl (by decide) ⟨Nat.le_refl 0, Nat.le_refl 0⟩ (Nat.le_of_ble_eq_true rfl) ?_
  refine G_aload_n dX6_setSize_11 rfl ?_
  refine G_getN (k := 3) dX6_setSize_12 (cLayerG hlr) rfl wfn_X6_65 (by decide) rfl ?_
  refine GS_istore (L' := [(4, _), (3, _), (0, _), (1, _), (2, _)]) dX6_setSize_15 (by decide) rfl ?_
  refine G_aload_n dX6_setSize_17 rfl ?_
  refine G_iload_n dX6_setSize_18 rfl ?_
  refine G_setIN (k := 3) dX6_setSize_19 (sLayerG hlr).1 (sLayerG hlr).2.1 (sLayerG hlr).2.2 rfl rfl wfn_X6_65 (by decide) rfl rfl ?_
  refine G_aload_n dX6_setSize_22 rfl ?_
  refine G_aload_n dX6_setSize_23 rfl ?_
  refine G_get (k := 0) dX6_setSize_24 cIdx rfl wfl_X6_10 (by decide) rfl ?_
  refine G_cVv (As := [_]) dX6_setSize_27 kV_X2_regrow wml_X6_50 (sp_X2_regrow hlr ((tc_setI (by omega)).trans hc) h80) rfl (cLayerG hlr) rfl rfl rfl (by decide) ⟨Nat.le_refl 0, Nat.le_refl 0⟩ (Nat.le_of_ble_eq_true rfl) ?_
  refine G_iload dX6_setSize_30 rfl ?_
  exact G_iret dX6_setSize_32 rfl rfl ⟨Nat.le_refl 0, Nat.le_refl 0⟩ ⟨rfl, rfl⟩
set_option maxHeartbeats 200000 in
theorem sp_X6_pack (hc : tc S = nI c) (h80 : c ≤ 80) {fn : Nat} (hf2 : 2 ≤ fn) (hf : fn ≤ 8) (hs : S.2.1 74 3 = nI fn) (hok : ¬ cnt (inL (fellS S 75) (nI 1)) c = 0 → gpOk (pk3 S 75 c fn (nI 1)) 75 fn 10 0 1) : Sp K MX6_pack 16 0 0 [.ref 0, .int (nI 1)] (hp 2 S) (fun v u => v = some (.int (tN (growP S 75 c fn (nI 1)) 75)) ∧ u = hp 2 (growP S 75 c fn (nI 1))) noX := by
  refine Sp_of (by decide) (Nat.le_of_ble_eq_true rfl) ?_
  refine G_aload_n dX6_pack_0 rfl ?_
  refine G_iload_n dX6_pack_1 rfl ?_
  refine G_cVr (As := [_]) dX6_pack_2 kV_X6_layerAt wml_X6_57 (sp_X6_layerAt (lr := 1) (by omega)) rfl cIdx rfl rfl rfl (by decide) ⟨Nat.le_refl 0, Nat.le_refl 0⟩ (Nat.le_of_ble_eq_true rfl) ?_
  refine GS_astore_n (L' := [(2, _), (0, _), (1, _)]) dX6_pack_5 (by decide) rfl ?_
  refine G_aload_n dX6_pack_6 rfl ?_
  refine G_cSv (As := [_]) dX6_pack_7 kT_X6_checkIsOfBoxes wml_X6_99 sp_X6_checkIsOfBoxes rfl rfl (by decide) ⟨Nat.le_refl 0, Nat.le_refl 0⟩ (Nat.le_of_ble_eq_true rfl) ?_
  refine G_aload_n dX6_pack_10 rfl ?_
  refine G_getN (k := 2) dX6_pack_11 (cLayer1 (show 2 ≤ 2 by omega)) rfl wfn_X6_140 (by decide) rfl ?_
  refine G_aload_n dX6_pack_14 rfl ?_
  refine G_get (k := 0) dX6_pack_15 cIdx rfl wfl_X6_10 (by decide) rfl ?_
  refine G_iload_n dX6_pack_18 rfl ?_
  refine G_aload_n dX6_pack_19 rfl ?_
  refine G_getN (k := 3) dX6_pack_20 (cLayer1 (show 2 ≤ 2 by omega)) rfl wfn_X6_65 (by decide) rfl ?_
  rw [hs]
  refine G_cVv (As := [_, _, _]) dX6_pack_23 kV_X5_growPacked wml_X6_143 (sp_X5_growPacked (isT (lr := 1) (by omega)) hc h80 hf2 hf hok) rfl (cTree (isT (lr := 1) (by omega))) rfl rfl rfl (by decide) ⟨Nat.le_refl 0, Nat.le_refl 0⟩ (Nat.le_of_ble_eq_true rfl) ?_
  refine G_aload_n dX6_pack_26 rfl ?_
  refine G_getN (k := 2) dX6_pack_27 (cLayer1 (show 2 ≤ 2 by omega)) rfl wfn_X6_140 (by decide) rfl ?_
  refine G_getN (k := 8) dX6_pack_30 (cTree (isT (lr := 1) (by omega))) rfl wfn_X6_147 (by decide) rfl ?_
  exact G_iret dX6_pack_33 rfl rfl ⟨Nat.le_refl 0, Nat.le_refl 0⟩ ⟨rfl, rfl⟩
def moveS (S : St) (c lr k : Nat) (x y : Int32) : St := regS (letS (bput S 2 80 (nI k) x y (S.1 8 k) (S.1 10 k)) (50 + 25 * lr) k) c lr
def remS (S : St) (c lr k : Nat) : St := regS (letS (setR S 12 (rput (S.1 12) 80 (nI k) (-1))) (50 + 25 * lr) k) c lr
set_option maxHeartbeats 200000 in
theorem sp_X6_move (hlr : lr < 2) (hc : tc S = nI c) (h80 : c ≤ 80) (hk : k < c) (hl : S.1 12 k = nI lr) {x y : Int32} (hx : okM x) (hy : okM y) (hxw : okM (x + S.1 8 k)) (hyh : okM (y + S.1 10 k)) : Sp K MX6_move 18 0 0 [.ref 0, .int (nI k), .int x, .int y] (hp 2 S) (fun v u => v = some (.int (bfar S 2 80 (nI k) x y (S.1 8 k) (S.1 10 k))) ∧ u = hp 2 (moveS S c lr k x y)) noX := by
  refine Sp_of (by decide) (Nat.le_of_ble_eq_true rfl) ?_
  have hk8 : k < 80 := by omega
  refine G_aload_n dX6_move_0 rfl ?_
  refine G_iload_n dX6_move_1 rfl ?_
  refine G_cVr (As := [_]) dX6_move_2 kV_X6_layerOfThing wml_X6_109 (sp_X6_layerOfThing hlr hc h80 hk hl) rfl cIdx rfl rfl rfl (by decide) ⟨Nat.le_refl 0, Nat.le_refl 0⟩ (Nat.le_of_ble_eq_true rfl) ?_
  refine GS_astore (L' := [(4, _), (0, _), (1, _), (2, _), (3, _)]) dX6_move_5 (by decide) rfl ?_
  refine G_aload_n dX6_move_7 rfl ?_
  refine G_get (k := 0) dX6_move_8 cIdx rfl wfl_X6_10 (by decide) rfl ?_
  refine G_getN (k := 0) dX6_move_11 cThings rfl wfn_X6_89 (by decide) rfl ?_
  refine GS_astore (L' := [(5, _), (4, _), (0, _), (1, _), (2, _), (3, _)]) dX6_move_14 (by decide) rfl ?_
  refine G_aload dX6_move_16 rfl ?_
  refine G_getN (k := 2) dX6_move_18 (cBox bThings) rfl wfn_X6_112 (by decide) rfl ?_
  refine G_iload_n dX6_move_21 rfl ?_
  refine G_cVi (As := [_]) dX6_move_22 kV_X3_at wml_X6_116 (sp_X3_at bThings.2.2.2.2.2.1) rfl (cRow bThings.2.2.2.2.2.1) rfl rfl rfl (by decide) ⟨Nat.le_refl 0, Nat.le_refl 0⟩ (Nat.le_of_ble_eq_true rfl) ?_
  rw [rat_nI hk8 (by decide)]
  refine GS_istore (L' := [(6, _), (5, _), (4, _), (0, _), (1, _), (2, _), (3, _)]) dX6_move_25 (by decide) rfl ?_
  refine G_aload dX6_move_27 rfl ?_
  refine G_getN (k := 3) dX6_move_29 (cBox bThings) rfl wfn_X6_122 (by decide) rfl ?_
  refine G_iload_n dX6_move_32 rfl ?_
  refine G_cVi (As := [_]) dX6_move_33 kV_X3_at wml_X6_116 (sp_X3_at bThings.2.2.2.2.2.2) rfl (cRow bThings.2.2.2.2.2.2) rfl rfl rfl (by decide) ⟨Nat.le_refl 0, Nat.le_refl 0⟩ (Nat.le_of_ble_eq_true rfl) ?_
  rw [rat_nI hk8 (by decide)]
  refine GS_istore (L' := [(7, _), (6, _), (5, _), (4, _), (0, _), (1, _), (2, _), (3, _)]) dX6_move_36 (by decide) rfl ?_
  refine G_iload_n dX6_move_38 rfl ?_
  refine G_iload_n dX6_move_39 rfl ?_
  refine G_cSv (As := [_, _]) dX6_move_40 kT_X6_checkWithinMap wml_X6_72 (sp_X6_checkWithinMap hx hy) rfl rfl (by decide) ⟨Nat.le_refl 0, Nat.le_refl 0⟩ (Nat.le_of_ble_eq_true rfl) ?_
  refine G_iload_n dX6_move_43 rfl ?_
  refine G_iload dX6_move_44 rfl ?_
  refine G_iadd dX6_move_46 ?_
  refine G_iload_n dX6_move_47 rfl ?_
  refine G_iload dX6_move_48 rfl ?_
  refine G_iadd dX6_move_50 ?_
  refine G_cSv (As := [_, _]) dX6_move_51 kT_X6_checkWithinMap wml_X6_72 (sp_X6_checkWithinMap hxw hyh) rfl rfl (by decide) ⟨Nat.le_refl 0, Nat.le_refl 0⟩ (Nat.le_of_ble_eq_true rfl) ?_
  refine G_aload dX6_move_54 rfl ?_
  refine G_iload_n dX6_move_56 rfl ?_
  refine G_iload_n dX6_move_57 rfl ?_
  refine G_iload_n dX6_move_58 rfl ?_
  refine G_iload dX6_move_59 rfl ?_
  refine G_iload dX6_move_61 rfl ?_
  refine G_cVi (As := [_, _, _, _, _]) dX6_move_63 kV_X0_farFrom wml_X6_125 (sp_X0_farFrom bThings) rfl (cBox bThings) rfl rfl rfl (by decide) ⟨Nat.le_refl 0, Nat.le_refl 0⟩ (Nat.le_of_ble_eq_true rfl) ?_
  refine GS_istore (L' := [(8, _), (7, _), (6, _), (5, _), (4, _), (0, _), (1, _), (2, _), (3, _)]) dX6_move_66 (by decide) rfl ?_
  refine G_aload dX6_move_68 rfl ?_
  refine G_iload_n dX6_move_70 rfl ?_
  refine G_iload_n dX6_move_71 rfl ?_
  refine G_iload_n dX6_move_72 rfl ?_
  refine G_iload dX6_move_73 rfl ?_
  refine G_iload dX6_move_75 rfl ?_
  refine G_cVv (As := [_, _, _, _, _]) dX6_move_77 kV_X0_put wml_X6_93 (sp_X0_put bThings) rfl (cBox bThings) rfl rfl rfl (by decide) ⟨Nat.le_refl 0, Nat.le_refl 0⟩ (Nat.le_of_ble_eq_true rfl) ?_
  refine G_aload dX6_move_80 rfl ?_
  refine G_iload_n dX6_move_82 rfl ?_
  refine G_cVv (As := [_]) dX6_move_83 kV_X2_letGo wml_X6_129 (sp_X2_letGo hlr) rfl (cLayerG hlr) rfl rfl rfl (by decide) ⟨Nat.le_refl 0, Nat.le_refl 0⟩ (Nat.le_of_ble_eq_true rfl) ?_
  refine G_aload dX6_move_86 rfl ?_
  refine G_aload_n dX6_move_88 rfl ?_
  refine G_get (k := 0) dX6_move_89 cIdx rfl wfl_X6_10 (by decide) rfl ?_
  refine G_cVv (As := [_]) dX6_move_92 kV_X2_regrow wml_X6_50 (sp_X2_regrow (c := c) hlr (tc_letS.trans hc) h80) rfl (cLayerG hlr) rfl rfl rfl (by decide) ⟨Nat.le_refl 0, Nat.le_refl 0⟩ (Nat.le_of_ble_eq_true rfl) ?_
  refine G_iload dX6_move_95 rfl ?_
  exact G_iret dX6_move_97 rfl rfl ⟨Nat.le_refl 0, Nat.le_refl 0⟩ ⟨rfl, rfl⟩
set_option maxHeartbeats 200000 in
theorem sp_X6_remove (hlr : lr < 2) (hc : tc S = nI c) (h80 : c ≤ 80) (hk : k < c) (hl : S.1 12 k = nI lr) : Sp K MX6_remove 18 0 0 [.ref 0, .int (nI k)] (hp 2 S) (fun v u => v = some (.int (nI (cnt (inL (remS S c lr k) (nI lr)) c))) ∧ u = hp 2 (remS S c lr k)) noX := by
  refine Sp_of (by decide) (Nat.le_of_ble_eq_true rfl) ?_
  refine G_aload_n dX6_remove_0 rfl ?_
  refine G_iload_n dX6_remove_1 rfl ?_
  refine G_cVr (As := [_]) dX6_remove_2 kV_X6_layerOfThing wml_X6_109 (sp_X6_layerOfThing hlr hc h80 hk hl) rfl cIdx rfl rfl rfl (by decide) ⟨Nat.le_refl 0, Nat.le_refl 0⟩ (Nat.le_of_ble_eq_true rfl) ?_
  refine GS_astore_n (L' := [(2, _), (0, _), (1, _)]) dX6_remove_5 (by decide) rfl ?_
  refine G_aload_n dX6_remove_6 rfl ?_
  refine G_get (k := 0) dX6_remove_7 cIdx rfl wfl_X6_10 (by decide) rfl ?_
  refine G_getN (k := 1) dX6_remove_10 cThings rfl wfn_X6_132 (by decide) rfl ?_
  refine G_iload_n dX6_remove_13 rfl ?_
  refine G_iconst (v := (-1)) dX6_remove_14 (by decide) ?_
  refine G_cVv (As := [_, _]) dX6_remove_15 kV_X3_put wml_X6_135 (sp_X3_put rLayerOf) rfl (cRow rLayerOf) rfl rfl rfl (by decide) ⟨Nat.le_refl 0, Nat.le_refl 0⟩ (Nat.le_of_ble_eq_true rfl) ?_
  refine G_aload_n dX6_remove_18 rfl ?_
  refine G_iload_n dX6_remove_19 rfl ?_
  refine G_cVv (As := [_]) dX6_remove_20 kV_X2_letGo wml_X6_129 (sp_X2_letGo hlr) rfl (cLayerG hlr) rfl rfl rfl (by decide) ⟨Nat.le_refl 0, Nat.le_refl 0⟩ (Nat.le_of_ble_eq_true rfl) ?_
  refine G_aload_n dX6_remove_23 rfl ?_
  refine G_aload_n dX6_remove_24 rfl ?_
  refine G_get (k := 0) dX6_remove_25 cIdx rfl wfl_X6_10 (by decide) rfl ?_
  refine G_cVv (As := [_]) dX6_remove_28 kV_X2_regrow wml_X6_50 (sp_X2_regrow (c := c) hlr (tc_letS.trans hc) h80) rfl (cLayerG hlr) rfl rfl rfl (by decide) ⟨Nat.le_refl 0, Nat.le_refl 0⟩ (Nat.le_of_ble_eq_true rfl) ?_
  refine G_aload_n dX6_remove_31 rfl ?_
  refine G_get (k := 0) dX6_remove_32 cIdx rfl wfl_X6_10 (by decide) rfl ?_
  refine G_aload_n dX6_remove_35 rfl ?_
  refine G_getN (k := 0) dX6_remove_36 (cLayerG hlr) rfl wfn_X6_54 (by decide) rfl ?_
  refine G_cVi (As := [_]) dX6_remove_39 kV_X4_countIn wml_X6_137 (sp_X4_countIn (S := remS S c lr k) (tc_regS.trans (tc_letS.trans hc)) h80) rfl cThings rfl rfl rfl (by decide) ⟨Nat.le_refl 0, Nat.le_refl 0⟩ (Nat.le_of_ble_eq_true rfl) ?_
  exact G_iret dX6_remove_42 rfl rfl ⟨Nat.le_refl 0, Nat.le_refl 0⟩ ⟨rfl, rfl⟩
end AR
