/-! the index's own methods, both layers there: layer 0 of points, layer 1 of boxes -/
def ip (lr : Nat) : Int32 := if lr = 0 then 1 else 0
set_option maxHeartbeats 200000 in
theorem cLayerG {S : St} {lr : Nat} (h : lr < 2) : (hp 2 S).2[49 + 25 * lr]? = some (.inr (2, [.int (nI lr), .int (ip lr), .ref (50 + 25 * lr), .int (S.2.1 (49 + 25 * lr) 3)])) := by
  rcases (show lr = 0 ∨ lr = 1 by omega) with rfl | rfl
  · exact cLayer0 (by omega)
  · exact cLayer1 (by omega)
set_option maxHeartbeats 200000 in
theorem isT {lr : Nat} (h : lr < 2) : isTree 2 (50 + 25 * lr) := by
  rcases (show lr = 0 ∨ lr = 1 by omega) with rfl | rfl
  · exact Or.inr (Or.inl ⟨rfl, by omega⟩)
  · exact Or.inr (Or.inr ⟨rfl, by omega⟩)
def okM (x : Int32) : Prop := ¬ x < 0 ∧ x < 1024
def okF (x : Int32) : Prop := ¬ x < 0 ∧ ¬ 3000000 < x
set_option maxHeartbeats 200000 in
theorem i32_ge_nlt {x y : Int32} (h : y ≤ x) : ¬ x < y := fun q => absurd (Int32.lt_of_lt_of_le q h) Int32.lt_irrefl
set_option maxHeartbeats 200000 in
theorem ly_at {lr : Nat} (h : lr < 2) : va_rf ((fun j => if j < 2 then some (49 + 25 * j) else none : Nat → Option Nat) (nI lr).toNatClampNeg) = .ref (49 + 25 * lr) := by
  rw [nI_clamp (show lr < 2 ^ 31 by omega)]
  show va_rf (if lr < 2 then some (49 + 25 * lr) else none) = _
  rw [if_pos h]
  rfl
/-- the keys of a layer's things in order -/
def ksr (S : St) (lr c : Nat) (x y : Int32) : Nat → Int32 := srtA (kfil (S.1 16) (inL S (nI lr)) (keyV S x y) c) 0 0 (cnt (inL S (nI lr)) c)
def keyN (S : St) (lr c : Nat) (x y : Int32) (kk : Nat) : Int32 := if cnt (inL S (nI lr)) c < kk then -1 else ksr S lr c x y (kk - 1)
def keyS (S : St) (lr c : Nat) (x y : Int32) : St := setR S 16 (ksr S lr c x y)
set_option maxHeartbeats 200000 in
theorem keyN_no {S : St} {lr c : Nat} {x y : Int32} {kk : Nat} (hk : kk ≤ 80) (hm : cnt (inL S (nI lr)) c ≤ 80) (h : ¬ nI kk ≤ nI (cnt (inL S (nI lr)) c)) : keyN S lr c x y kk = -1 := by
  unfold keyN
  rcases Nat.lt_or_ge (cnt (inL S (nI lr)) c) kk with q | q
  · rw [if_pos q]
  · exact absurd (nI_le q (by omega)) h
set_option maxHeartbeats 200000 in
theorem keyN_yes {S : St} {lr c : Nat} {x y : Int32} {kk : Nat} (hk : kk ≤ 80) (hm : cnt (inL S (nI lr)) c ≤ 80) (h : nI kk ≤ nI (cnt (inL S (nI lr)) c)) : keyN S lr c x y kk = ksr S lr c x y (kk - 1) := by
  unfold keyN
  rw [if_neg (fun q => absurd h (nI_ge q (by omega)))]
/-- pairs of nodes that are visited -/
def smI (g : Nat → Int32) (n : Nat) : Int32 := match n with
  | 0 => 0
  | n + 1 => smI g n + g n
def dnV (S : St) (t : Nat) (u : Int32) (i : Nat) : Int32 := if rat (tCt S t) 1205 u = 0 then u else belV S t u (nI i)
def nbV (S : St) (t : Nat) (u : Int32) : Nat := if rat (tCt S t) 1205 u = 0 then 1 else (rat (tCt S t) 1205 u).toNatClampNeg
def cvp (S : St) (t t' : Nat) (far : Int32) (f : Nat) (u v : Int32) : Int32 := match f with
  | 0 => 0
  | f + 1 => if (rat (tCt S t) 1205 u = 0 ∧ rat (tCt S t') 1205 v = 0) ∨ far < bfar S (t + 1) 1205 u (bX S (t' + 1) 1205 v) (bY S (t' + 1) 1205 v) (bW S (t' + 1) 1205 v) (bH S (t' + 1) 1205 v) then 1
    else 1 + smI (fun i => smI (fun j => cvp S t t' far f (dnV S t u i) (dnV S t' v j)) (nbV S t' v)) (nbV S t u)
def okC (S : St) (t : Nat) : Prop := ∀ u : Int32, ∃ n, n ≤ 8 ∧ rat (tCt S t) 1205 u = nI n
section AP
variable {K : GK} {S : St} {c lr lr2 : Nat} {h : VH}
set_option maxHeartbeats 200000 in
theorem sp_X6_layerAt (hlr : lr < 2) : Sp K MX6_layerAt 2 0 0 [.ref 0, .int (nI lr)] (hp 2 S) (fun v u => v = some (.ref (49 + 25 * lr)) ∧ u = hp 2 S) noX := by
  refine Sp_of (by decide) (Nat.le_of_ble_eq_true rfl) ?_
  refine G_iload_n dX6_layerAt_0 rfl ?_
  refine G_if_lt (tgt := 13) dX6_layerAt_1 (by decide) (fun c_1 => ?_) (fun c_1 => ?_)
  · first
      | exact absurd c_1 (nI_pos (by omega))
      | exact absurd (show nI lr < nI 4 from nI_lt (by omega) (by decide)) c_10
  · refine G_iload_n dX6_layerAt_4 rfl ?_
    refine G_aload_n dX6_layerAt_5 rfl ?_
    refine G_get (k := 1) dX6_layerAt_6 cIdx rfl wfl_X6_18 (by decide) rfl ?_
    refine G_alen (t := 1) dX6_layerAt_9 cLayers rfl ?_
    refine G_icmp_lt (tgt := 24) dX6_layerAt_10 (by decide) (fun c_10 => ?_) (fun c_10 => ?_)
    · refine G_aload_n dX6_layerAt_24 rfl ?_
      refine G_get (k := 1) dX6_layerAt_25 cIdx rfl wfl_X6_18 (by decide) rfl ?_
      refine G_iload_n dX6_layerAt_28 rfl ?_
      refine G_aald dX6_layerAt_29 cLayers (vp_in_nI (show lr < 4 by omega) (by decide)) ?_
      rw [ly_at hlr]
      refine GS_astore_n (L' := [(2, _), (0, _), (1, _)]) dX6_layerAt_30 (by decide) rfl ?_
      refine G_aload_n dX6_layerAt_31 rfl ?_
      refine G_ifnonnull (tgt := 46) dX6_layerAt_32 (by decide) ?_
      refine G_aload_n dX6_layerAt_46 rfl ?_
      exact G_aret dX6_layerAt_47 rfl ⟨Nat.le_refl 0, Nat.le_refl 0⟩ ⟨rfl, rfl⟩
    · first
        | exact absurd c_1 (nI_pos (by omega))
        | exact absurd (show nI lr < nI 4 from nI_lt (by omega) (by decide)) c_10
set_option maxHeartbeats 200000 in
theorem sp_X6_checkIsOfPoints : Sp K MX6_checkIsOfPoints 1 0 0 [.ref 49] (hp 2 S) (fun v u => v = none ∧ u = hp 2 S) noX := by
  refine Sp_of (by decide) (Nat.le_of_ble_eq_true rfl) ?_
  refine G_aload_n dX6_checkIsOfPoints_0 rfl ?_
  refine G_getN (k := 1) dX6_checkIsOfPoints_1 (cLayer0 (show 1 ≤ 2 by omega)) rfl wfn_X6_252 (by decide) rfl ?_
  refine G_if_ne (tgt := 18) dX6_checkIsOfPoints_4 (by decide) (fun c_4 => ?_) (fun c_4 => ?_)
  · exact G_vret dX6_checkIsOfPoints_18 rfl ⟨Nat.le_refl 0, Nat.le_refl 0⟩ ⟨rfl, rfl⟩
  · exact absurd c_4 (by decide)
set_option maxHeartbeats 200000 in
theorem sp_X6_checkIsOfBoxes : Sp K MX6_checkIsOfBoxes 1 0 0 [.ref 74] (hp 2 S) (fun v u => v = none ∧ u = hp 2 S) noX := by
  refine Sp_of (by decide) (Nat.le_of_ble_eq_true rfl) ?_
  refine G_aload_n dX6_checkIsOfBoxes_0 rfl ?_
  refine G_getN (k := 1) dX6_checkIsOfBoxes_1 (cLayer1 (show 2 ≤ 2 by omega)) rfl wfn_X6_252 (by decide) rfl ?_
  refine G_if_eq (tgt := 18) dX6_checkIsOfBoxes_4 (by decide) (fun c_4 => ?_) (fun c_4 => ?_)
  · exact G_vret dX6_checkIsOfBoxes_18 rfl ⟨Nat.le_refl 0, Nat.le_refl 0⟩ ⟨rfl, rfl⟩
  · exact absurd (show (0 : Int32) = 0 from rfl) c_4
set_option maxHeartbeats 200000 in
theorem sp_X6_checkWithinMap {x y : Int32} (hx : okM x) (hy : okM y) : Sp K MX6_checkWithinMap 1 0 0 [.int x, .int y] h (fun v u => v = none ∧ u = h) noX := by
  refine Sp_of (by decide) (Nat.le_of_ble_eq_true rfl) ?_
  refine G_iload_n dX6_checkWithinMap_0 rfl ?_
  refine G_if_lt (tgt := 22) dX6_checkWithinMap_1 (by decide) (fun c_1 => ?_) (fun c_1 => ?_)
  · first
      | exact absurd c_1 hx.1
      | exact absurd hx.2 (i32_ge_nlt c_8)
      | exact absurd c_12 hy.1
      | exact absurd hy.2 c_19
  · refine G_iload_n dX6_checkWithinMap_4 rfl ?_
    refine G_sipush (v := 1024) dX6_checkWithinMap_5 (by decide) ?_
    refine G_icmp_ge (tgt := 22) dX6_checkWithinMap_8 (by decide) (fun c_8 => ?_) (fun c_8 => ?_)
    · first
        | exact absurd c_1 hx.1
        | exact absurd hx.2 (i32_ge_nlt c_8)
        | exact absurd c_12 hy.1
        | exact absurd hy.2 c_19
    · refine G_iload_n dX6_checkWithinMap_11 rfl ?_
      refine G_if_lt (tgt := 22) dX6_checkWithinMap_12 (by decide) (fun c_12 => ?_) (fun c_12 => ?_)
      · first
          | exact absurd c_1 hx.1
          | exact absurd hx.2 (i32_ge_nlt c_8)
          | exact absurd c_12 hy.1
          | exact absurd hy.2 c_19
      · refine G_iload_n dX6_checkWithinMap_15 rfl ?_
        refine G_sipush (v := 1024) dX6_checkWithinMap_16 (by decide) ?_
        refine G_icmp_lt (tgt := 33) dX6_checkWithinMap_19 (by decide) (fun c_19 => ?_) (fun c_19 => ?_)
        · exact G_vret dX6_checkWithinMap_33 rfl ⟨Nat.le_refl 0, Nat.le_refl 0⟩ ⟨rfl, rfl⟩
        · first
            | exact absurd c_1 hx.1
            | exact absurd hx.2 (i32_ge_nlt c_8)
            | exact absurd c_12 hy.1
            | exact absurd hy.2 c_19
set_option maxHeartbeats 200000 in
theorem sp_X6_checkFar {x : Int32} (hx : okF x) : Sp K MX6_checkFar 1 0 0 [.int x] h (fun v u => v = none ∧ u = h) noX := by
  refine Sp_of (by decide) (Nat.le_of_ble_eq_true rfl) ?_
  refine G_iload_n dX6_checkFar_0 rfl ?_
  refine G_if_lt (tgt := 11) dX6_checkFar_1 (by decide) (fun c_1 => ?_) (fun c_1 => ?_)
  · first
      | exact absurd c_1 hx.1
      | exact absurd (i32_nle c_8) hx.2
  · refine G_iload_n dX6_checkFar_4 rfl ?_
    refine G_ldcw dX6_checkFar_5 wk_X6_320 ?_
    refine G_icmp_le (tgt := 22) dX6_checkFar_8 (by decide) (fun c_8 => ?_) (fun c_8 => ?_)
    · exact G_vret dX6_checkFar_22 rfl ⟨Nat.le_refl 0, Nat.le_refl 0⟩ ⟨rfl, rfl⟩
    · first
        | exact absurd c_1 hx.1
        | exact absurd (i32_nle c_8) hx.2
set_option maxHeartbeats 200000 in
theorem sp_X6_checkSize (hlr : lr < 2) {fn : Nat} (hf1 : 1 ≤ fn) (hf2 : 2 ≤ fn ∨ lr = 0) (hf : fn ≤ 8) : Sp K MX6_checkSize 1 0 0 [.ref (49 + 25 * lr), .int (nI fn)] (hp 2 S) (fun v u => v = none ∧ u = hp 2 S) noX := by
  refine Sp_of (by decide) (Nat.le_of_ble_eq_true rfl) ?_
  refine G_aload_n dX6_checkSize_0 rfl ?_
  refine G_getN (k := 1) dX6_checkSize_1 (cLayerG hlr) rfl wfn_X6_252 (by decide) rfl ?_
  refine G_if_eq (tgt := 11) dX6_checkSize_4 (by decide) (fun c_4 => ?_) (fun c_4 => ?_)
  · refine G_iconst (v := 2) dX6_checkSize_11 (by decide) ?_
    refine GS_istore_n (L' := [(2, _), (0, _), (1, _)]) dX6_checkSize_12 (by decide) rfl ?_
    refine G_iload_n dX6_checkSize_13 rfl ?_
    refine G_iload_n dX6_checkSize_14 rfl ?_
    refine G_icmp_lt (tgt := 24) dX6_checkSize_15 (by decide) (fun c_15 => ?_) (fun c_15 => ?_)
    · first
        | exact absurd (show nI 1 ≤ nI fn from nI_le hf1 (by omega)) (fun q => absurd (Int32.lt_of_lt_of_le c_15 q) Int32.lt_irrefl)
        | (rcases hf2 with q | q
           · exact absurd (show nI 2 ≤ nI fn from nI_le q (by omega)) (fun q => absurd (Int32.lt_of_lt_of_le c_15 q) Int32.lt_irrefl)
           · exact absurd c_4 (by rw [q]; decide))
        | exact absurd (show nI fn ≤ nI 8 from nI_le hf (by decide)) c_21
    · refine G_iload_n dX6_checkSize_18 rfl ?_
      refine G_bipush (v := 8) dX6_checkSize_19 (by decide) ?_
      refine G_icmp_le (tgt := 35) dX6_checkSize_21 (by decide) (fun c_21 => ?_) (fun c_21 => ?_)
      · exact G_vret dX6_checkSize_35 rfl ⟨Nat.le_refl 0, Nat.le_refl 0⟩ ⟨rfl, rfl⟩
      · first
          | exact absurd (show nI 1 ≤ nI fn from nI_le hf1 (by omega)) (fun q => absurd (Int32.lt_of_lt_of_le c_15 q) Int32.lt_irrefl)
          | (rcases hf2 with q | q
             · exact absurd (show nI 2 ≤ nI fn from nI_le q (by omega)) (fun q => absurd (Int32.lt_of_lt_of_le c_15 q) Int32.lt_irrefl)
             · exact absurd c_4 (by rw [q]; decide))
          | exact absurd (show nI fn ≤ nI 8 from nI_le hf (by decide)) c_21
  · refine G_iconst (v := 1) dX6_checkSize_7 (by decide) ?_
    refine G_goto (tgt := 12) dX6_checkSize_8 (by decide) ?_
    refine GS_istore_n (L' := [(2, _), (0, _), (1, _)]) dX6_checkSize_12 (by decide) rfl ?_
    refine G_iload_n dX6_checkSize_13 rfl ?_
    refine G_iload_n dX6_checkSize_14 rfl ?_
    refine G_icmp_lt (tgt := 24) dX6_checkSize_15 (by decide) (fun c_15 => ?_) (fun c_15 => ?_)
    · first
        | exact absurd (show nI 1 ≤ nI fn from nI_le hf1 (by omega)) (fun q => absurd (Int32.lt_of_lt_of_le c_15 q) Int32.lt_irrefl)
        | (rcases hf2 with q | q
           · exact absurd (show nI 2 ≤ nI fn from nI_le q (by omega)) (fun q => absurd (Int32.lt_of_lt_of_le c_15 q) Int32.lt_irrefl)
           · exact absurd c_4 (by rw [q]; decide))
        | exact absurd (show nI fn ≤ nI 8 from nI_le hf (by decide)) c_21
    · refine G_iload_n dX6_checkSize_18 rfl ?_
      refine G_bipush (v := 8) dX6_checkSize_19 (by decide) ?_
      refine G_icmp_le (tgt := 35) dX6_checkSize_21 (by decide) (fun c_21 => ?_) (fun c_21 => ?_)
      · exact G_vret dX6_checkSize_35 rfl ⟨Nat.le_refl 0, Nat.le_refl 0⟩ ⟨rfl, rfl⟩
      · first
          | exact absurd (show nI 1 ≤ nI fn from nI_le hf1 (by omega)) (fun q => absurd (Int32.lt_of_lt_of_le c_15 q) Int32.lt_irrefl)
          | (rcases hf2 with q | q
             · exact absurd (show nI 2 ≤ nI fn from nI_le q (by omega)) (fun q => absurd (Int32.lt_of_lt_of_le c_15 q) Int32.lt_irrefl)
             · exact absurd c_4 (by rw [q]; decide))
          | exact absurd (show nI fn ≤ nI 8 from nI_le hf (by decide)) c_21
set_option maxHeartbeats 200000 in
theorem sp_X6_checkRoomFor (hc : tc S = nI c) {m : Nat} (hm : c + m ≤ 80) : Sp K MX6_checkRoomFor 1 0 0 [.ref 0, .int (nI m)] (hp 2 S) (fun v u => v = none ∧ u = hp 2 S) noX := by
  refine Sp_of (by decide) (Nat.le_of_ble_eq_true rfl) ?_
  refine G_aload_n dX6_checkRoomFor_0 rfl ?_
  refine G_get (k := 0) dX6_checkRoomFor_1 cIdx rfl wfl_X6_10 (by decide) rfl ?_
  refine G_getN (k := 5) dX6_checkRoomFor_4 cThings rfl wfn_X6_106 (by decide) rfl ?_
  rw [show S.2.1 1 5 = nI c from hc]
  refine G_iload_n dX6_checkRoomFor_7 rfl ?_
  refine G_iadd dX6_checkRoomFor_8 ?_
  rw [nI_add c m]
  refine G_bipush (v := 80) dX6_checkRoomFor_9 (by decide) ?_
  refine G_icmp_le (tgt := 25) dX6_checkRoomFor_11 (by decide) (fun c_11 => ?_) (fun c_11 => ?_)
  · exact G_vret dX6_checkRoomFor_25 rfl ⟨Nat.le_refl 0, Nat.le_refl 0⟩ ⟨rfl, rfl⟩
  · exact absurd (show nI (c + m) ≤ nI 80 from nI_le hm (by decide)) c_11
set_option maxHeartbeats 200000 in
theorem sp_X6_things : Sp K MX6_things 1 0 0 [.ref 0] (hp 2 S) (fun v u => v = some (.int (tc S)) ∧ u = hp 2 S) noX := by
  refine Sp_of (by decide) (Nat.le_of_ble_eq_true rfl) ?_
  refine G_aload_n dX6_things_0 rfl ?_
  refine G_get (k := 0) dX6_things_1 cIdx rfl wfl_X6_10 (by decide) rfl ?_
  refine G_getN (k := 5) dX6_things_4 cThings rfl wfn_X6_106 (by decide) rfl ?_
  exact G_iret dX6_things_7 rfl rfl ⟨Nat.le_refl 0, Nat.le_refl 0⟩ ⟨rfl, rfl⟩
set_option maxHeartbeats 200000 in
theorem sp_X6_size (hc : tc S = nI c) (h80 : c ≤ 80) (hlr : lr < 2) : Sp K MX6_size 10 0 0 [.ref 0, .int (nI lr)] (hp 2 S) (fun v u => v = some (.int (nI (cnt (inL S (nI lr)) c))) ∧ u = hp 2 S) noX := by
  refine Sp_of (by decide) (Nat.le_of_ble_eq_true rfl) ?_
  refine G_aload_n dX6_size_0 rfl ?_
  refine G_get (k := 0) dX6_size_1 cIdx rfl wfl_X6_10 (by decide) rfl ?_
  refine G_aload_n dX6_size_4 rfl ?_
  refine G_iload_n dX6_size_5 rfl ?_
  refine G_cVr (As := [_]) dX6_size_6 kV_X6_layerAt wml_X6_57 (sp_X6_layerAt hlr) rfl cIdx rfl rfl rfl (by decide) ⟨Nat.le_refl 0, Nat.le_refl 0⟩ (Nat.le_of_ble_eq_true rfl) ?_
  refine G_getN (k := 0) dX6_size_9 (cLayerG hlr) rfl wfn_X6_54 (by decide) rfl ?_
  refine G_cVi (As := [_]) dX6_size_12 kV_X4_countIn wml_X6_137 (sp_X4_countIn hc h80) rfl cThings rfl rfl rfl (by decide) ⟨Nat.le_refl 0, Nat.le_refl 0⟩ (Nat.le_of_ble_eq_true rfl) ?_
  exact G_iret dX6_size_15 rfl rfl ⟨Nat.le_refl 0, Nat.le_refl 0⟩ ⟨rfl, rfl⟩
set_option maxHeartbeats 200000 in
theorem sp_X6_nodes (hlr : lr < 2) : Sp K MX6_nodes 10 0 0 [.ref 0, .int (nI lr)] (hp 2 S) (fun v u => v = some (.int (tN S (50 + 25 * lr))) ∧ u = hp 2 S) noX := by
  refine Sp_of (by decide) (Nat.le_of_ble_eq_true rfl) ?_
  refine G_aload_n dX6_nodes_0 rfl ?_
  refine G_iload_n dX6_nodes_1 rfl ?_
  refine G_cVr (As := [_]) dX6_nodes_2 kV_X6_layerAt wml_X6_57 (sp_X6_layerAt hlr) rfl cIdx rfl rfl rfl (by decide) ⟨Nat.le_refl 0, Nat.le_refl 0⟩ (Nat.le_of_ble_eq_true rfl) ?_
  refine G_getN (k := 2) dX6_nodes_5 (cLayerG hlr) rfl wfn_X6_140 (by decide) rfl ?_
  refine G_getN (k := 8) dX6_nodes_8 (cTree (isT hlr)) rfl wfn_X6_147 (by decide) rfl ?_
  exact G_iret dX6_nodes_11 rfl rfl ⟨Nat.le_refl 0, Nat.le_refl 0⟩ ⟨rfl, rfl⟩
set_option maxHeartbeats 200000 in
theorem sp_X6_depth (hlr : lr < 2) : Sp K MX6_depth 10 0 0 [.ref 0, .int (nI lr)] (hp 2 S) (fun v u => v = some (.int (levV S (50 + 25 * lr))) ∧ u = hp 2 S) noX := by
  refine Sp_of (by decide) (Nat.le_of_ble_eq_true rfl) ?_
  refine G_aload_n dX6_depth_0 rfl ?_
  refine G_iload_n dX6_depth_1 rfl ?_
  refine G_cVr (As := [_]) dX6_depth_2 kV_X6_layerAt wml_X6_57 (sp_X6_layerAt hlr) rfl cIdx rfl rfl rfl (by decide) ⟨Nat.le_refl 0, Nat.le_refl 0⟩ (Nat.le_of_ble_eq_true rfl) ?_
  refine G_getN (k := 2) dX6_depth_5 (cLayerG hlr) rfl wfn_X6_140 (by decide) rfl ?_
  refine G_cVi (As := []) dX6_depth_8 kV_X5_countLevels wml_X6_165 (sp_X5_countLevels (isT hlr)) rfl (cTree (isT hlr)) rfl rfl rfl (by decide) ⟨Nat.le_refl 0, Nat.le_refl 0⟩ (Nat.le_of_ble_eq_true rfl) ?_
  exact G_iret dX6_depth_11 rfl rfl ⟨Nat.le_refl 0, Nat.le_refl 0⟩ ⟨rfl, rfl⟩
set_option maxHeartbeats 200000 in
theorem sp_X6_inBox (hc : tc S = nI c) (h80 : c ≤ 80) (hlr : lr < 2) {x y w h' : Int32} (hx : okM x) (hy : okM y) (hw : okM w) (hh : okM h') : Sp K MX6_inBox 12 0 0 [.ref 0, .int (nI lr), .int x, .int y, .int w, .int h'] (hp 2 S) (fun v u => v = some (.int (nI (cnt (fun k => inL S (nI lr) k && decide (bfar S 2 80 (nI k) x y w h' = 0)) c))) ∧ u = hp 2 S) noX := by
  refine Sp_of (by decide) (Nat.le_of_ble_eq_true rfl) ?_
  refine G_aload_n dX6_inBox_0 rfl ?_
  refine G_iload_n dX6_inBox_1 rfl ?_
  refine G_cVr (As := [_]) dX6_inBox_2 kV_X6_layerAt wml_X6_57 (sp_X6_layerAt hlr) rfl cIdx rfl rfl rfl (by decide) ⟨Nat.le_refl 0, Nat.le_refl 0⟩ (Nat.le_of_ble_eq_true rfl) ?_
  refine GS_astore (L' := [(6, _), (0, _), (1, _), (2, _), (3, _), (4, _), (5, _)]) dX6_inBox_5 (by decide) rfl ?_
  refine G_iload_n dX6_inBox_7 rfl ?_
  refine G_iload_n dX6_inBox_8 rfl ?_
  refine G_cSv (As := [_, _]) dX6_inBox_9 kT_X6_checkWithinMap wml_X6_72 (sp_X6_checkWithinMap hx hy) rfl rfl (by decide) ⟨Nat.le_refl 0, Nat.le_refl 0⟩ (Nat.le_of_ble_eq_true rfl) ?_
  refine G_iload dX6_inBox_12 rfl ?_
  refine G_iload dX6_inBox_14 rfl ?_
  refine G_cSv (As := [_, _]) dX6_inBox_16 kT_X6_checkWithinMap wml_X6_72 (sp_X6_checkWithinMap hw hh) rfl rfl (by decide) ⟨Nat.le_refl 0, Nat.le_refl 0⟩ (Nat.le_of_ble_eq_true rfl) ?_
  refine G_aload_n dX6_inBox_19 rfl ?_
  refine G_get (k := 0) dX6_inBox_20 cIdx rfl wfl_X6_10 (by decide) rfl ?_
  refine G_aload dX6_inBox_23 rfl ?_
  refine G_getN (k := 0) dX6_inBox_25 (cLayerG hlr) rfl wfn_X6_54 (by decide) rfl ?_
  refine G_iload_n dX6_inBox_28 rfl ?_
  refine G_iload_n dX6_inBox_29 rfl ?_
  refine G_iload dX6_inBox_30 rfl ?_
  refine G_iload dX6_inBox_32 rfl ?_
  refine G_cVi (As := [_, _, _, _, _]) dX6_inBox_34 kV_X4_countMeeting wml_X6_200 (sp_X4_countMeeting hc h80) rfl cThings rfl rfl rfl (by decide) ⟨Nat.le_refl 0, Nat.le_refl 0⟩ (Nat.le_of_ble_eq_true rfl) ?_
  exact G_iret dX6_inBox_37 rfl rfl ⟨Nat.le_refl 0, Nat.le_refl 0⟩ ⟨rfl, rfl⟩
set_option maxHeartbeats 200000 in
theorem sp_X6_visited (hlr : lr < 2) {N : Nat} (hN : tN S (50 + 25 * lr) = nI N) (hN2 : N ≤ 1205) {x y w h' : Int32} (hx : okM x) (hy : okM y) (hw : okM w) (hh : okM h') : Sp K MX6_visited 12 0 0 [.ref 0, .int (nI lr), .int x, .int y, .int w, .int h'] (hp 2 S) (fun v u => v = some (.int (nI (cnt (visP S (50 + 25 * lr) x y w h' 0) N))) ∧ u = hp 2 S) noX := by
  refine Sp_of (by decide) (Nat.le_of_ble_eq_true rfl) ?_
  refine G_aload_n dX6_visited_0 rfl ?_
  refine G_iload_n dX6_visited_1 rfl ?_
  refine G_cVr (As := [_]) dX6_visited_2 kV_X6_layerAt wml_X6_57 (sp_X6_layerAt hlr) rfl cIdx rfl rfl rfl (by decide) ⟨Nat.le_refl 0, Nat.le_refl 0⟩ (Nat.le_of_ble_eq_true rfl) ?_
  refine GS_astore (L' := [(6, _), (0, _), (1, _), (2, _), (3, _), (4, _), (5, _)]) dX6_visited_5 (by decide) rfl ?_
  refine G_iload_n dX6_visited_7 rfl ?_
  refine G_iload_n dX6_visited_8 rfl ?_
  refine G_cSv (As := [_, _]) dX6_visited_9 kT_X6_checkWithinMap wml_X6_72 (sp_X6_checkWithinMap hx hy) rfl rfl (by decide) ⟨Nat.le_refl 0, Nat.le_refl 0⟩ (Nat.le_of_ble_eq_true rfl) ?_
  refine G_iload dX6_visited_12 rfl ?_
  refine G_iload dX6_visited_14 rfl ?_
  refine G_cSv (As := [_, _]) dX6_visited_16 kT_X6_checkWithinMap wml_X6_72 (sp_X6_checkWithinMap hw hh) rfl rfl (by decide) ⟨Nat.le_refl 0, Nat.le_refl 0⟩ (Nat.le_of_ble_eq_true rfl) ?_
  refine G_aload dX6_visited_19 rfl ?_
  refine G_getN (k := 2) dX6_visited_21 (cLayerG hlr) rfl wfn_X6_140 (by decide) rfl ?_
  refine G_iload_n dX6_visited_24 rfl ?_
  refine G_iload_n dX6_visited_25 rfl ?_
  refine G_iload dX6_visited_26 rfl ?_
  refine G_iload dX6_visited_28 rfl ?_
  refine G_iconst (v := 0) dX6_visited_30 (by decide) ?_
  refine G_cVi (As := [_, _, _, _, _]) dX6_visited_31 kV_X5_countVisited wml_X6_203 (sp_X5_countVisited (isT hlr) hN hN2) rfl (cTree (isT hlr)) rfl rfl rfl (by decide) ⟨Nat.le_refl 0, Nat.le_refl 0⟩ (Nat.le_of_ble_eq_true rfl) ?_
  exact G_iret dX6_visited_34 rfl rfl ⟨Nat.le_refl 0, Nat.le_refl 0⟩ ⟨rfl, rfl⟩
set_option maxHeartbeats 200000 in
theorem sp_X6_keyOfNearest (hc : tc S = nI c) (h80 : c ≤ 80) (hlr : lr < 2) {x y : Int32} (hx : okM x) (hy : okM y) {kk : Nat} (hk1 : 1 ≤ kk) (hk2 : kk ≤ 80) : Sp K MX6_keyOfNearest 12 0 0 [.ref 0, .int (nI lr), .int x, .int y, .int (nI kk)] (hp 2 S) (fun v u => v = some (.int (keyN S lr c x y kk)) ∧ u = hp 2 (keyS S lr c x y)) noX := by
  refine Sp_of (by decide) (Nat.le_of_ble_eq_true rfl) ?_
  have hm := cnt_le (inL S (nI lr)) c
  refine G_aload_n dX6_keyOfNearest_0 rfl ?_
  refine G_iload_n dX6_keyOfNearest_1 rfl ?_
  refine G_cVr (As := [_]) dX6_keyOfNearest_2 kV_X6_layerAt wml_X6_57 (sp_X6_layerAt hlr) rfl cIdx rfl rfl rfl (by decide) ⟨Nat.le_refl 0, Nat.le_refl 0⟩ (Nat.le_of_ble_eq_true rfl) ?_
  refine GS_astore (L' := [(5, _), (0, _), (1, _), (2, _), (3, _), (4, _)]) dX6_keyOfNearest_5 (by decide) rfl ?_
  refine G_iload_n dX6_keyOfNearest_7 rfl ?_
  refine G_iload_n dX6_keyOfNearest_8 rfl ?_
  refine G_cSv (As := [_, _]) dX6_keyOfNearest_9 kT_X6_checkWithinMap wml_X6_72 (sp_X6_checkWithinMap hx hy) rfl rfl (by decide) ⟨Nat.le_refl 0, Nat.le_refl 0⟩ (Nat.le_of_ble_eq_true rfl) ?_
  refine G_iload dX6_keyOfNearest_12 rfl ?_
  refine G_iconst (v := 1) dX6_keyOfNearest_14 (by decide) ?_
  refine G_icmp_lt (tgt := 25) dX6_keyOfNearest_15 (by decide) (fun c_15 => ?_) (fun c_15 => ?_)
  · first
      | exact absurd (show nI 1 ≤ nI kk from nI_le hk1 (by omega)) (fun q => absurd (Int32.lt_of_lt_of_le c_15 q) Int32.lt_irrefl)
      | exact absurd (show nI kk ≤ nI 80 from nI_le hk2 (by decide)) c_22
  · refine G_iload dX6_keyOfNearest_18 rfl ?_
    refine G_bipush (v := 80) dX6_keyOfNearest_20 (by decide) ?_
    refine G_icmp_le (tgt := 36) dX6_keyOfNearest_22 (by decide) (fun c_22 => ?_) (fun c_22 => ?_)
    · refine G_aload_n dX6_keyOfNearest_36 rfl ?_
      refine G_get (k := 0) dX6_keyOfNearest_37 cIdx rfl wfl_X6_10 (by decide) rfl ?_
      refine G_aload dX6_keyOfNearest_40 rfl ?_
      refine G_getN (k := 0) dX6_keyOfNearest_42 (cLayerG hlr) rfl wfn_X6_54 (by decide) rfl ?_
      refine G_iload_n dX6_keyOfNearest_45 rfl ?_
      refine G_iload_n dX6_keyOfNearest_46 rfl ?_
      refine G_cVi (As := [_, _, _]) dX6_keyOfNearest_47 kV_X4_sortByFar wml_X6_327 (sp_X4_sortByFar hc h80) rfl cThings rfl rfl rfl (by decide) ⟨Nat.le_refl 0, Nat.le_refl 0⟩ (Nat.le_of_ble_eq_true rfl) ?_
      refine GS_istore (L' := [(6, _), (5, _), (0, _), (1, _), (2, _), (3, _), (4, _)]) dX6_keyOfNearest_50 (by decide) rfl ?_
      refine G_iload dX6_keyOfNearest_52 rfl ?_
      refine G_iload dX6_keyOfNearest_54 rfl ?_
      refine G_icmp_le (tgt := 63) dX6_keyOfNearest_56 (by decide) (fun c_56 => ?_) (fun c_56 => ?_)
      · refine G_aload_n dX6_keyOfNearest_63 rfl ?_
        refine G_get (k := 0) dX6_keyOfNearest_64 cIdx rfl wfl_X6_10 (by decide) rfl ?_
        refine G_getN (k := 3) dX6_keyOfNearest_67 cThings rfl wfn_X6_330 (by decide) rfl ?_
        refine G_iload dX6_keyOfNearest_70 rfl ?_
        refine G_iconst (v := 1) dX6_keyOfNearest_72 (by decide) ?_
        refine G_isub dX6_keyOfNearest_73 ?_
        rw [show nI kk - 1 = nI (kk - 1) from pk_sub (b := 1) hk1]
        refine G_cVi (As := [_]) dX6_keyOfNearest_74 kV_X3_at wml_X6_116 (sp_X3_at rKeys) rfl (cRow rKeys) rfl rfl rfl (by decide) ⟨Nat.le_refl 0, Nat.le_refl 0⟩ (Nat.le_of_ble_eq_true rfl) ?_
        first
          | (rw [rat_nI (show kk - 1 < 80 by omega) (by decide)])
          | skip
        exact G_iret dX6_keyOfNearest_77 rfl rfl ⟨Nat.le_refl 0, Nat.le_refl 0⟩ ⟨by first | (rw [keyN_yes (by omega) (by omega) c_56]; rfl) | rw [keyN_no (by omega) (by omega) c_56], rfl⟩
      · refine G_iconst (v := (-1)) dX6_keyOfNearest_59 (by decide) ?_
        refine G_goto (tgt := 77) dX6_keyOfNearest_60 (by decide) ?_
        first
          | (rw [rat_nI (show kk - 1 < 80 by omega) (by decide)])
          | skip
        exact G_iret dX6_keyOfNearest_77 rfl rfl ⟨Nat.le_refl 0, Nat.le_refl 0⟩ ⟨by first | (rw [keyN_yes (by omega) (by omega) c_56]; rfl) | rw [keyN_no (by omega) (by omega) c_56], rfl⟩
    · first
        | exact absurd (show nI 1 ≤ nI kk from nI_le hk1 (by omega)) (fun q => absurd (Int32.lt_of_lt_of_le c_15 q) Int32.lt_irrefl)
        | exact absurd (show nI kk ≤ nI 80 from nI_le hk2 (by decide)) c_22
set_option maxHeartbeats 200000 in
theorem sp_X6_nearest (hc : tc S = nI c) (h80 : c ≤ 80) (hlr : lr < 2) {x y : Int32} (hx : okM x) (hy : okM y) {kk : Nat} (hk1 : 1 ≤ kk) (hk2 : kk ≤ 80) : Sp K MX6_nearest 14 0 0 [.ref 0, .int (nI lr), .int x, .int y, .int (nI kk)] (hp 2 S) (fun v u => v = some (.int (if 0 ≤ keyN S lr c x y kk then keyN S lr c x y kk - keyN S lr c x y kk / 128 * 128 else -1)) ∧ u = hp 2 (keyS S lr c x y)) noX := by
  refine Sp_of (by decide) (Nat.le_of_ble_eq_true rfl) ?_
  refine G_aload_n dX6_nearest_0 rfl ?_
  refine G_iload_n dX6_nearest_1 rfl ?_
  refine G_iload_n dX6_nearest_2 rfl ?_
  refine G_iload_n dX6_nearest_3 rfl ?_
  refine G_iload dX6_nearest_4 rfl ?_
  refine G_cVi (As := [_, _, _, _]) dX6_nearest_6 kV_X6_keyOfNearest wml_X6_206 (sp_X6_keyOfNearest hc h80 hlr hx hy hk1 hk2) rfl cIdx rfl rfl rfl (by decide) ⟨Nat.le_refl 0, Nat.le_refl 0⟩ (Nat.le_of_ble_eq_true rfl) ?_
  refine GS_istore (L' := [(5, _), (0, _), (1, _), (2, _), (3, _), (4, _)]) dX6_nearest_9 (by decide) rfl ?_
  refine G_iload dX6_nearest_11 rfl ?_
  refine G_if_ge (tgt := 20) dX6_nearest_13 (by decide) (fun c_13 => ?_) (fun c_13 => ?_)
  · refine G_iload dX6_nearest_20 rfl ?_
    refine G_sipush (v := 128) dX6_nearest_22 (by decide) ?_
    refine G_irem dX6_nearest_25 (by decide) ?_
    exact G_iret dX6_nearest_26 rfl rfl ⟨Nat.le_refl 0, Nat.le_refl 0⟩ ⟨by first | rw [if_pos c_13] | rw [if_neg c_13], rfl⟩
  · refine G_iconst (v := (-1)) dX6_nearest_16 (by decide) ?_
    refine G_goto (tgt := 26) dX6_nearest_17 (by decide) ?_
    exact G_iret dX6_nearest_26 rfl rfl ⟨Nat.le_refl 0, Nat.le_refl 0⟩ ⟨by first | rw [if_pos c_13] | rw [if_neg c_13], rfl⟩
set_option maxHeartbeats 200000 in
theorem sp_X6_far (hc : tc S = nI c) (h80 : c ≤ 80) (hlr : lr < 2) {x y : Int32} (hx : okM x) (hy : okM y) {kk : Nat} (hk1 : 1 ≤ kk) (hk2 : kk ≤ 80) : Sp K MX6_far 14 0 0 [.ref 0, .int (nI lr), .int x, .int y, .int (nI kk)] (hp 2 S) (fun v u => v = some (.int (if 0 ≤ keyN S lr c x y kk then keyN S lr c x y kk / 128 else -1)) ∧ u = hp 2 (keyS S lr c x y)) noX := by
  refine Sp_of (by decide) (Nat.le_of_ble_eq_true rfl) ?_
  refine G_aload_n dX6_far_0 rfl ?_
  refine G_iload_n dX6_far_1 rfl ?_
  refine G_iload_n dX6_far_2 rfl ?_
  refine G_iload_n dX6_far_3 rfl ?_
  refine G_iload dX6_far_4 rfl ?_
  refine G_cVi (As := [_, _, _, _]) dX6_far_6 kV_X6_keyOfNearest wml_X6_206 (sp_X6_keyOfNearest hc h80 hlr hx hy hk1 hk2) rfl cIdx rfl rfl rfl (by decide) ⟨Nat.le_refl 0, Nat.le_refl 0⟩ (Nat.le_of_ble_eq_true rfl) ?_
  refine GS_istore (L' := [(5, _), (0, _), (1, _), (2, _), (3, _), (4, _)]) dX6_far_9 (by decide) rfl ?_
  refine G_iload dX6_far_11 rfl ?_
  refine G_if_ge (tgt := 20) dX6_far_13 (by decide) (fun c_13 => ?_) (fun c_13 => ?_)
  · refine G_iload dX6_far_20 rfl ?_
    refine G_sipush (v := 128) dX6_far_22 (by decide) ?_
    refine G_idiv dX6_far_25 (by decide) ?_
    exact G_iret dX6_far_26 rfl rfl ⟨Nat.le_refl 0, Nat.le_refl 0⟩ ⟨by first | rw [if_pos c_13] | rw [if_neg c_13], rfl⟩
  · refine G_iconst (v := (-1)) dX6_far_16 (by decide) ?_
    refine G_goto (tgt := 26) dX6_far_17 (by decide) ?_
    exact G_iret dX6_far_26 rfl rfl ⟨Nat.le_refl 0, Nat.le_refl 0⟩ ⟨by first | rw [if_pos c_13] | rw [if_neg c_13], rfl⟩
set_option maxHeartbeats 200000 in
theorem keyS_tree {t : Nat} {x y : Int32} (h : 25 ≤ t) {w' z : Int32} {far : Int32} {k : Nat} : visP (keyS S lr c x y) t x y w' z far k = visP S t x y w' z far k := by
  unfold visP bfar bX bY bW bH keyS
  rw [setR_ne (by omega), setR_ne (by omega), setR_ne (by omega), setR_ne (by omega)]
set_option maxHeartbeats 200000 in
theorem sp_X6_visitedFor (hc : tc S = nI c) (h80 : c ≤ 80) (hlr : lr < 2) {N : Nat} (hN : tN S (50 + 25 * lr) = nI N) (hN2 : N ≤ 1205) {x y : Int32} (hx : okM x) (hy : okM y) {kk : Nat} (hk1 : 1 ≤ kk) (hk2 : kk ≤ 80) : Sp K MX6_visitedFor 14 0 0 [.ref 0, .int (nI lr), .int x, .int y, .int (nI kk)] (hp 2 S) (fun v u => v = some (.int (if 0 ≤ keyN S lr c x y kk then nI (cnt (visP S (50 + 25 * lr) x y 0 0 (keyN S lr c x y kk / 128)) N) else nI N)) ∧ u = hp 2 (keyS S lr c x y)) noX := by
  refine Sp_of (by decide) (Nat.le_of_ble_eq_true rfl) ?_
  refine G_aload_n dX6_visitedFor_0 rfl ?_
  refine G_iload_n dX6_visitedFor_1 rfl ?_
  refine G_iload_n dX6_visitedFor_2 rfl ?_
  refine G_iload_n dX6_visitedFor_3 rfl ?_
  refine G_iload dX6_visitedFor_4 rfl ?_
  refine G_cVi (As := [_, _, _, _]) dX6_visitedFor_6 kV_X6_keyOfNearest wml_X6_206 (sp_X6_keyOfNearest hc h80 hlr hx hy hk1 hk2) rfl cIdx rfl rfl rfl (by decide) ⟨Nat.le_refl 0, Nat.le_refl 0⟩ (Nat.le_of_ble_eq_true rfl) ?_
  refine GS_istore (L' := [(5, _), (0, _), (1, _), (2, _), (3, _), (4, _)]) dX6_visitedFor_9 (by decide) rfl ?_
  refine G_aload_n dX6_visitedFor_11 rfl ?_
  refine G_iload_n dX6_visitedFor_12 rfl ?_
  refine G_cVr (As := [_]) dX6_visitedFor_13 kV_X6_layerAt wml_X6_57 (sp_X6_layerAt hlr) rfl cIdx rfl rfl rfl (by decide) ⟨Nat.le_refl 0, Nat.le_refl 0⟩ (Nat.le_of_ble_eq_true rfl) ?_
  refine G_getN (k := 2) dX6_visitedFor_16 (cLayerG hlr) rfl wfn_X6_140 (by decide) rfl ?_
  refine GS_astore (L' := [(6, _), (5, _), (0, _), (1, _), (2, _), (3, _), (4, _)]) dX6_visitedFor_19 (by decide) rfl ?_
  refine G_iload dX6_visitedFor_21 rfl ?_
  refine G_if_ge (tgt := 34) dX6_visitedFor_23 (by decide) (fun c_23 => ?_) (fun c_23 => ?_)
  · refine G_aload dX6_visitedFor_34 rfl ?_
    refine G_iload_n dX6_visitedFor_36 rfl ?_
    refine G_iload_n dX6_visitedFor_37 rfl ?_
    refine G_iconst (v := 0) dX6_visitedFor_38 (by decide) ?_
    refine G_iconst (v := 0) dX6_visitedFor_39 (by decide) ?_
    refine G_iload dX6_visitedFor_40 rfl ?_
    refine G_sipush (v := 128) dX6_visitedFor_42 (by decide) ?_
    refine G_idiv dX6_visitedFor_45 (by decide) ?_
    refine G_cVi (As := [_, _, _, _, _]) dX6_visitedFor_46 kV_X5_countVisited wml_X6_203 (sp_X5_countVisited (S := keyS S lr c x y) (isT hlr) hN hN2) rfl (cTree (isT hlr)) rfl rfl rfl (by decide) ⟨Nat.le_refl 0, Nat.le_refl 0⟩ (Nat.le_of_ble_eq_true rfl) ?_
    exact G_iret dX6_visitedFor_49 rfl rfl ⟨Nat.le_refl 0, Nat.le_refl 0⟩ ⟨by first | (rw [if_pos c_23]; rw [cnt_cong (fun k _ => keyS_tree (by omega))]) | (rw [if_neg c_23]; rw [← hN]; rfl), rfl⟩
  · refine G_aload dX6_visitedFor_26 rfl ?_
    refine G_getN (k := 8) dX6_visitedFor_28 (cTree (isT hlr)) rfl wfn_X6_147 (by decide) rfl ?_
    refine G_goto (tgt := 49) dX6_visitedFor_31 (by decide) ?_
    exact G_iret dX6_visitedFor_49 rfl rfl ⟨Nat.le_refl 0, Nat.le_refl 0⟩ ⟨by first | (rw [if_pos c_23]; rw [cnt_cong (fun k _ => keyS_tree (by omega))]) | (rw [if_neg c_23]; rw [← hN]; rfl), rfl⟩
set_option maxHeartbeats 200000 in
theorem sp_X6_pairs (hc : tc S = nI c) (h80 : c ≤ 80) (hlr : lr < 2) (hlr2 : lr2 < 2) {far : Int32} (hfar : okF far) : Sp K MX6_pairs 14 0 0 [.ref 0, .int (nI lr), .int (nI lr2), .int far] (hp 2 S) (fun v u => v = some (.int (nI (smN (pairG S c (nI lr) (nI lr2) far) c))) ∧ u = hp 2 S) noX := by
  refine Sp_of (by decide) (Nat.le_of_ble_eq_true rfl) ?_
  refine G_aload_n dX6_pairs_0 rfl ?_
  refine G_iload_n dX6_pairs_1 rfl ?_
  refine G_cVr (As := [_]) dX6_pairs_2 kV_X6_layerAt wml_X6_57 (sp_X6_layerAt hlr) rfl cIdx rfl rfl rfl (by decide) ⟨Nat.le_refl 0, Nat.le_refl 0⟩ (Nat.le_of_ble_eq_true rfl) ?_
  refine GS_astore (L' := [(4, _), (0, _), (1, _), (2, _), (3, _)]) dX6_pairs_5 (by decide) rfl ?_
  refine G_aload_n dX6_pairs_7 rfl ?_
  refine G_iload_n dX6_pairs_8 rfl ?_
  refine G_cVr (As := [_]) dX6_pairs_9 kV_X6_layerAt wml_X6_57 (sp_X6_layerAt hlr2) rfl cIdx rfl rfl rfl (by decide) ⟨Nat.le_refl 0, Nat.le_refl 0⟩ (Nat.le_of_ble_eq_true rfl) ?_
  refine GS_astore (L' := [(5, _), (4, _), (0, _), (1, _), (2, _), (3, _)]) dX6_pairs_12 (by decide) rfl ?_
  refine G_iload_n dX6_pairs_14 rfl ?_
  refine G_cSv (As := [_]) dX6_pairs_15 kT_X6_checkFar wml_X6_210 (sp_X6_checkFar hfar) rfl rfl (by decide) ⟨Nat.le_refl 0, Nat.le_refl 0⟩ (Nat.le_of_ble_eq_true rfl) ?_
  refine G_aload_n dX6_pairs_18 rfl ?_
  refine G_get (k := 0) dX6_pairs_19 cIdx rfl wfl_X6_10 (by decide) rfl ?_
  refine G_aload dX6_pairs_22 rfl ?_
  refine G_getN (k := 0) dX6_pairs_24 (cLayerG hlr) rfl wfn_X6_54 (by decide) rfl ?_
  refine G_aload dX6_pairs_27 rfl ?_
  refine G_getN (k := 0) dX6_pairs_29 (cLayerG hlr2) rfl wfn_X6_54 (by decide) rfl ?_
  refine G_iload_n dX6_pairs_32 rfl ?_
  refine G_cVi (As := [_, _, _]) dX6_pairs_33 kV_X4_countPairs wml_X6_213 (sp_X4_countPairs hc h80) rfl cThings rfl rfl rfl (by decide) ⟨Nat.le_refl 0, Nat.le_refl 0⟩ (Nat.le_of_ble_eq_true rfl) ?_
  exact G_iret dX6_pairs_36 rfl rfl ⟨Nat.le_refl 0, Nat.le_refl 0⟩ ⟨rfl, rfl⟩
set_option maxHeartbeats 200000 in
theorem sp_X6_clusters (hc : tc S = nI c) (h80 : c ≤ 80) (hlr : lr < 2) {far : Int32} (hfar : okF far) : Sp K MX6_clusters 14 0 0 [.ref 0, .int (nI lr), .int far] (hp 2 S) (fun v u => v = some (.int (nI (cnt (rootP S (nI lr) (gOut S c (nI lr) far (S.1 18) c)) c))) ∧ u = hp 2 (setR S 18 (gOut S c (nI lr) far (S.1 18) c))) noX := by
  refine Sp_of (by decide) (Nat.le_of_ble_eq_true rfl) ?_
  refine G_aload_n dX6_clusters_0 rfl ?_
  refine G_iload_n dX6_clusters_1 rfl ?_
  refine G_cVr (As := [_]) dX6_clusters_2 kV_X6_layerAt wml_X6_57 (sp_X6_layerAt hlr) rfl cIdx rfl rfl rfl (by decide) ⟨Nat.le_refl 0, Nat.le_refl 0⟩ (Nat.le_of_ble_eq_true rfl) ?_
  refine GS_astore_n (L' := [(3, _), (0, _), (1, _), (2, _)]) dX6_clusters_5 (by decide) rfl ?_
  refine G_iload_n dX6_clusters_6 rfl ?_
  refine G_cSv (As := [_]) dX6_clusters_7 kT_X6_checkFar wml_X6_210 (sp_X6_checkFar hfar) rfl rfl (by decide) ⟨Nat.le_refl 0, Nat.le_refl 0⟩ (Nat.le_of_ble_eq_true rfl) ?_
  refine G_aload_n dX6_clusters_10 rfl ?_
  refine G_get (k := 0) dX6_clusters_11 cIdx rfl wfl_X6_10 (by decide) rfl ?_
  refine G_aload_n dX6_clusters_14 rfl ?_
  refine G_getN (k := 0) dX6_clusters_15 (cLayerG hlr) rfl wfn_X6_54 (by decide) rfl ?_
  refine G_iload_n dX6_clusters_18 rfl ?_
  refine G_cVv (As := [_, _]) dX6_clusters_19 kV_X4_gatherClusters wml_X6_224 (sp_X4_gatherClusters hc h80) rfl cThings rfl rfl rfl (by decide) ⟨Nat.le_refl 0, Nat.le_refl 0⟩ (Nat.le_of_ble_eq_true rfl) ?_
  refine G_aload_n dX6_clusters_22 rfl ?_
  refine G_get (k := 0) dX6_clusters_23 cIdx rfl wfl_X6_10 (by decide) rfl ?_
  refine G_aload_n dX6_clusters_26 rfl ?_
  refine G_getN (k := 0) dX6_clusters_27 (cLayerG hlr) rfl wfn_X6_54 (by decide) rfl ?_
  refine G_cVi (As := [_]) dX6_clusters_30 kV_X4_countClusters wml_X6_227 (sp_X4_countClusters (S := setR S 18 (gOut S c (nI lr) far (S.1 18) c)) hc h80) rfl cThings rfl rfl rfl (by decide) ⟨Nat.le_refl 0, Nat.le_refl 0⟩ (Nat.le_of_ble_eq_true rfl) ?_
  exact G_iret dX6_clusters_33 rfl rfl ⟨Nat.le_refl 0, Nat.le_refl 0⟩ ⟨rfl, rfl⟩
set_option maxHeartbeats 200000 in
theorem sp_X6_greatest (hc : tc S = nI c) (h80 : c ≤ 80) (hlr : lr < 2) {far : Int32} (hfar : okF far) : Sp K MX6_greatest 14 0 0 [.ref 0, .int (nI lr), .int far] (hp 2 S) (fun v u => v = some (.int (grt S c (nI lr) (gOut S c (nI lr) far (S.1 18) c) c)) ∧ u = hp 2 (setR S 18 (gOut S c (nI lr) far (S.1 18) c))) noX := by
  refine Sp_of (by decide) (Nat.le_of_ble_eq_true rfl) ?_
  have hg : ∀ n, grt (setR S 18 (gOut S c (nI lr) far (S.1 18) c)) c (nI lr) (gOut S c (nI lr) far (S.1 18) c) n = grt S c (nI lr) (gOut S c (nI lr) far (S.1 18) c) n := by
    intro n
    induction n with
    | zero => rfl
    | succ n ih => rw [grt, grt, ih]; rfl
  refine G_aload_n dX6_greatest_0 rfl ?_
  refine G_iload_n dX6_greatest_1 rfl ?_
  refine G_cVr (As := [_]) dX6_greatest_2 kV_X6_layerAt wml_X6_57 (sp_X6_layerAt hlr) rfl cIdx rfl rfl rfl (by decide) ⟨Nat.le_refl 0, Nat.le_refl 0⟩ (Nat.le_of_ble_eq_true rfl) ?_
  refine GS_astore_n (L' := [(3, _), (0, _), (1, _), (2, _)]) dX6_greatest_5 (by decide) rfl ?_
  refine G_iload_n dX6_greatest_6 rfl ?_
  refine G_cSv (As := [_]) dX6_greatest_7 kT_X6_checkFar wml_X6_210 (sp_X6_checkFar hfar) rfl rfl (by decide) ⟨Nat.le_refl 0, Nat.le_refl 0⟩ (Nat.le_of_ble_eq_true rfl) ?_
  refine G_aload_n dX6_greatest_10 rfl ?_
  refine G_get (k := 0) dX6_greatest_11 cIdx rfl wfl_X6_10 (by decide) rfl ?_
  refine G_aload_n dX6_greatest_14 rfl ?_
  refine G_getN (k := 0) dX6_greatest_15 (cLayerG hlr) rfl wfn_X6_54 (by decide) rfl ?_
  refine G_iload_n dX6_greatest_18 rfl ?_
  refine G_cVv (As := [_, _]) dX6_greatest_19 kV_X4_gatherClusters wml_X6_224 (sp_X4_gatherClusters hc h80) rfl cThings rfl rfl rfl (by decide) ⟨Nat.le_refl 0, Nat.le_refl 0⟩ (Nat.le_of_ble_eq_true rfl) ?_
  refine G_aload_n dX6_greatest_22 rfl ?_
  refine G_get (k := 0) dX6_greatest_23 cIdx rfl wfl_X6_10 (by decide) rfl ?_
  refine G_aload_n dX6_greatest_26 rfl ?_
  refine G_getN (k := 0) dX6_greatest_27 (cLayerG hlr) rfl wfn_X6_54 (by decide) rfl ?_
  refine G_cVi (As := [_]) dX6_greatest_30 kV_X4_greatestCluster wml_X6_230 (sp_X4_greatestCluster (S := setR S 18 (gOut S c (nI lr) far (S.1 18) c)) hc h80) rfl cThings rfl rfl rfl (by decide) ⟨Nat.le_refl 0, Nat.le_refl 0⟩ (Nat.le_of_ble_eq_true rfl) ?_
  exact G_iret dX6_greatest_33 rfl rfl ⟨Nat.le_refl 0, Nat.le_refl 0⟩ ⟨by rw [← hg]; rfl, rfl⟩
set_option maxHeartbeats 200000 in
theorem sp_X6_area (h0 : S.2.1 20 2 = 0) : Sp K MX6_area 2 0 0 [.ref 0] (hp 2 S) (fun v u => v = some (.int 0) ∧ u = hp 2 S) noX := by
  refine Sp_of (by decide) (Nat.le_of_ble_eq_true rfl) ?_
  refine G_aload_n dX6_area_0 rfl ?_
  refine G_get (k := 2) dX6_area_1 cIdx rfl wfl_X6_25 (by decide) rfl ?_
  refine G_getN (k := 2) dX6_area_4 cFence rfl wfn_X6_233 (by decide) rfl ?_
  rw [h0]
  refine G_iconst (v := 3) dX6_area_7 (by decide) ?_
  refine G_icmp_ge (tgt := 15) dX6_area_8 (by decide) (fun c_8 => ?_) (fun c_8 => ?_)
  · exact absurd c_8 (by decide)
  · refine G_iconst (v := 0) dX6_area_11 (by decide) ?_
    refine G_goto (tgt := 22) dX6_area_12 (by decide) ?_
    exact G_iret dX6_area_22 rfl rfl ⟨Nat.le_refl 0, Nat.le_refl 0⟩ ⟨rfl, rfl⟩
end AP
