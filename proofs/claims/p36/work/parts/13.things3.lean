section TH3
variable {K : GK} {ly : Nat} {S : St} {c : Nat}
/-- a thing comes: its layer and its tag, one more of them -/
def addS (S : St) (layer tag : Int32) : St := setI (setR (setR S 12 (rput (S.1 12) 80 (S.2.1 1 5) layer)) 14 (rput (S.1 14) 80 (S.2.1 1 5) tag)) 1 5 (S.2.1 1 5 + 1)
set_option maxHeartbeats 100000 in
theorem sp_X4_add {layer tag : Int32} : Sp K MX4_add 6 0 0 [.ref 1, .int layer, .int tag] (hp ly S) (fun v u => v = some (.int (S.2.1 1 5)) ∧ u = hp ly (addS S layer tag)) noX := by
  refine Sp_of (by decide) (Nat.le_of_ble_eq_true rfl) ?_
  refine G_aload_n dX4_add_0 rfl ?_
  refine G_get (k := 5) dX4_add_1 cThings rfl wfl_X4_36 (by decide) rfl ?_
  refine GS_istore_n (L' := [(3, _), (0, _), (1, _), (2, _)]) dX4_add_4 (by decide) rfl ?_
  refine G_aload_n dX4_add_5 rfl ?_
  refine G_get (k := 1) dX4_add_6 cThings rfl wfl_X4_23 (by decide) rfl ?_
  refine G_iload_n dX4_add_9 rfl ?_
  refine G_iload_n dX4_add_10 rfl ?_
  refine G_cVv (As := [_, _]) dX4_add_11 kV_X3_put wml_X4_40 (sp_X3_put rLayerOf) rfl (cRow rLayerOf) rfl rfl rfl (by decide) ⟨Nat.le_refl 0, Nat.le_refl 0⟩ (Nat.le_of_ble_eq_true rfl) ?_
  refine G_aload_n dX4_add_14 rfl ?_
  refine G_get (k := 2) dX4_add_15 cThings rfl wfl_X4_27 (by decide) rfl ?_
  refine G_iload_n dX4_add_18 rfl ?_
  refine G_iload_n dX4_add_19 rfl ?_
  refine G_cVv (As := [_, _]) dX4_add_20 kV_X3_put wml_X4_40 (sp_X3_put rTags) rfl (cRow rTags) rfl rfl rfl (by decide) ⟨Nat.le_refl 0, Nat.le_refl 0⟩ (Nat.le_of_ble_eq_true rfl) ?_
  refine G_aload_n dX4_add_23 rfl ?_
  refine G_dup dX4_add_24 rfl ?_
  refine G_get (k := 5) dX4_add_25 cThings rfl wfl_X4_36 (by decide) rfl ?_
  refine G_iconst (v := 1) dX4_add_28 (by decide) ?_
  refine G_iadd dX4_add_29 ?_
  refine G_setI (k := 5) dX4_add_30 (sThings (ly := ly)).1 (sThings (ly := ly)).2.1 (sThings (ly := ly)).2.2 rfl rfl wfl_X4_36 (by decide) rfl rfl ?_
  refine G_iload_n dX4_add_33 rfl ?_
  exact G_iret dX4_add_34 rfl rfl ⟨Nat.le_refl 0, Nat.le_refl 0⟩ ⟨rfl, rfl⟩
def jnP (g : Nat → Int32) (D Kp : Int32) (j : Nat) : Nat → Int32 := fun k => if k < j ∧ g k = D then Kp else g k
set_option maxHeartbeats 100000 in
theorem jnP_f {g : Nat → Int32} {D Kp : Int32} {j : Nat} (h : ¬ g j = D) : jnP g D Kp (j + 1) = jnP g D Kp j := by
  funext k
  unfold jnP
  by_cases hk : k = j
  · subst hk
    rw [if_neg (fun q => h q.2), if_neg (fun q => h q.2)]
  · by_cases q : k < j ∧ g k = D
    · rw [if_pos q, if_pos ⟨by omega, q.2⟩]
    · rw [if_neg q, if_neg (fun z => q ⟨by omega, z.2⟩)]
set_option maxHeartbeats 100000 in
theorem jnP_t {g : Nat → Int32} {D Kp : Int32} {j : Nat} (h : g j = D) : jnP g D Kp (j + 1) = upd (jnP g D Kp j) j Kp := by
  funext k
  unfold jnP upd
  by_cases hk : k = j
  · subst hk
    rw [if_pos ⟨by omega, h⟩, if_pos rfl]
  · rw [if_neg hk]
    show (if k < j + 1 ∧ g k = D then Kp else g k) = if k < j ∧ g k = D then Kp else g k
    by_cases q : k < j ∧ g k = D
    · rw [if_pos q, if_pos ⟨by omega, q.2⟩]
    · rw [if_neg q, if_neg (fun z => q ⟨by omega, z.2⟩)]
set_option maxHeartbeats 100000 in
theorem jnP_at {g : Nat → Int32} {D Kp : Int32} {j : Nat} : jnP g D Kp j j = g j := by unfold jnP; rw [if_neg (fun q => by omega)]
set_option maxHeartbeats 100000 in
theorem jnP_0 {g : Nat → Int32} {D Kp : Int32} : jnP g D Kp 0 = g := by funext k; unfold jnP; rw [if_neg (fun q => by omega)]
set_option maxHeartbeats 100000 in
theorem lp_X4_join (hc : S.2.1 1 5 = nI c) (h80 : c ≤ 80) {D Kp : Int32} : ∀ m j, j + m = c → G K MX4_joinClusters 6 0 0 0 0 22 [(5, .int (nI j)), (4, .int D), (3, .int Kp), (0, .ref 1)] [] (hp ly (setR S 18 (jnP (S.1 18) D Kp j))) (QcP K (fun v u => v = none ∧ u = hp ly (setR S 18 (jnP (S.1 18) D Kp c)))) (XcP K noX) := by
  intro m
  induction m with
  | zero =>
    intro j hj
    obtain rfl : j = c := by omega
    refine G_iload dX4_joinClusters_22 rfl ?_
    refine G_aload_n dX4_joinClusters_24 rfl ?_
    refine G_get (k := 5) dX4_joinClusters_25 cThings rfl wfl_X4_36 (by decide) rfl ?_
    rw [show (setR S 18 (jnP (S.1 18) D Kp j)).2.1 1 5 = nI j from hc]
    refine G_icmp_ge (tgt := 61) dX4_joinClusters_28 (by decide) (fun c_28 => ?_) (fun c_28 => ?_)
    · exact G_vret dX4_joinClusters_61 rfl ⟨Nat.le_refl 0, Nat.le_refl 0⟩ ⟨rfl, rfl⟩
    · exact absurd (nI_le (Nat.le_refl _) (by omega)) c_28
  | succ m ih =>
    intro j hj
    have hj8 : j < 80 := by omega
    have q := ih (j + 1) (by omega)
    refine G_iload dX4_joinClusters_22 rfl ?_
    refine G_aload_n dX4_joinClusters_24 rfl ?_
    refine G_get (k := 5) dX4_joinClusters_25 cThings rfl wfl_X4_36 (by decide) rfl ?_
    rw [show (setR S 18 (jnP (S.1 18) D Kp j)).2.1 1 5 = nI c from hc]
    refine G_icmp_ge (tgt := 61) dX4_joinClusters_28 (by decide) (fun c_28 => ?_) (fun c_28 => ?_)
    · exact absurd c_28 (nI_ge (show j < c by omega) (by omega))
    · refine G_aload_n dX4_joinClusters_31 rfl ?_
      refine G_get (k := 4) dX4_joinClusters_32 cThings rfl wfl_X4_33 (by decide) rfl ?_
      refine G_iload dX4_joinClusters_35 rfl ?_
      refine G_cVi (As := [_]) dX4_joinClusters_37 kV_X3_at wml_X4_44 (sp_X3_at rClus) rfl (cRow rClus) rfl rfl rfl (by decide) ⟨Nat.le_refl 0, Nat.le_refl 0⟩ (Nat.le_of_ble_eq_true rfl) ?_
      refine G_iload dX4_joinClusters_40 rfl ?_
      refine G_icmp_ne (tgt := 55) dX4_joinClusters_42 (by decide) (fun c_42 => ?_) (fun c_42 => ?_)
      · refine GS_iinc (v := 1) (L' := [(5, _), (4, _), (3, _), (0, _)]) dX4_joinClusters_55 rfl (by decide) (by decide) rfl ?_
        refine G_goto (tgt := 22) dX4_joinClusters_58 (by decide) ?_
        refine G_sub [0, 1, 2, 3] rfl ?_
        rw [nI_1 j]
        rw [rat_nI hj8 (by decide)] at c_42
        rw [show (setR S 18 (jnP (S.1 18) D Kp j)).1 18 j = S.1 18 j from jnP_at] at c_42
        first
          | (rw [jnP_t c_42] at q; rw [setR_twice, rput_nI hj8 (by decide)]; exact q)
          | (rw [jnP_f c_42] at q; exact q)
      · refine G_aload_n dX4_joinClusters_45 rfl ?_
        refine G_get (k := 4) dX4_joinClusters_46 cThings rfl wfl_X4_33 (by decide) rfl ?_
        refine G_iload dX4_joinClusters_49 rfl ?_
        refine G_iload_n dX4_joinClusters_51 rfl ?_
        refine G_cVv (As := [_, _]) dX4_joinClusters_52 kV_X3_put wml_X4_40 (sp_X3_put rClus) rfl (cRow rClus) rfl rfl rfl (by decide) ⟨Nat.le_refl 0, Nat.le_refl 0⟩ (Nat.le_of_ble_eq_true rfl) ?_
        refine GS_iinc (v := 1) (L' := [(5, _), (4, _), (3, _), (0, _)]) dX4_joinClusters_55 rfl (by decide) (by decide) rfl ?_
        refine G_goto (tgt := 22) dX4_joinClusters_58 (by decide) ?_
        refine G_sub [0, 1, 2, 3] rfl ?_
        rw [nI_1 j]
        rw [rat_nI hj8 (by decide)] at c_42
        rw [show (setR S 18 (jnP (S.1 18) D Kp j)).1 18 j = S.1 18 j from jnP_at] at c_42
        first
          | (rw [jnP_t c_42] at q; rw [setR_twice, rput_nI hj8 (by decide)]; exact q)
          | (rw [jnP_f c_42] at q; exact q)
set_option maxHeartbeats 100000 in
theorem sp_X4_joinClusters (hc : S.2.1 1 5 = nI c) (h80 : c ≤ 80) {one other : Int32} : Sp K MX4_joinClusters 6 0 0 [.ref 1, .int one, .int other] (hp ly S) (fun v u => v = none ∧ u = hp ly (setR S 18 (jn (S.1 18) c one other))) noX := by
  refine Sp_of (by decide) (Nat.le_of_ble_eq_true rfl) ?_
  refine G_iload_n dX4_joinClusters_0 rfl ?_
  refine G_iload_n dX4_joinClusters_1 rfl ?_
  refine G_icmp_ne (tgt := 6) dX4_joinClusters_2 (by decide) (fun c_2 => ?_) (fun c_2 => ?_)
  · refine G_iload_n dX4_joinClusters_6 rfl ?_
    refine G_iload_n dX4_joinClusters_7 rfl ?_
    refine G_min dX4_joinClusters_8 wml_X4_70 (by decide) ⟨Nat.le_refl 0, Nat.le_refl 0⟩ (Nat.le_of_ble_eq_true rfl) ?_
    refine GS_istore_n (L' := [(3, _), (0, _), (1, _), (2, _)]) dX4_joinClusters_11 (by decide) rfl ?_
    refine G_iload_n dX4_joinClusters_12 rfl ?_
    refine G_iload_n dX4_joinClusters_13 rfl ?_
    refine G_max dX4_joinClusters_14 wml_X4_76 (by decide) ⟨Nat.le_refl 0, Nat.le_refl 0⟩ (Nat.le_of_ble_eq_true rfl) ?_
    refine GS_istore (L' := [(4, _), (3, _), (0, _), (1, _), (2, _)]) dX4_joinClusters_17 (by decide) rfl ?_
    refine G_iconst (v := 0) dX4_joinClusters_19 (by decide) ?_
    refine GS_istore (L' := [(5, _), (4, _), (3, _), (0, _), (1, _), (2, _)]) dX4_joinClusters_20 (by decide) rfl ?_
    refine G_sub [0, 1, 2, 3] rfl ?_
    have q := lp_X4_join (K := K) (ly := ly) hc h80 (D := mx one other) (Kp := mn one other) c 0 (by omega)
    rw [jnP_0, setR_self] at q
    unfold jn
    rw [if_neg c_2]
    exact q
  · exact G_vret dX4_joinClusters_5 rfl ⟨Nat.le_refl 0, Nat.le_refl 0⟩ ⟨rfl, by unfold jn; rw [if_pos c_2, setR_self]⟩
set_option maxHeartbeats 100000 in
theorem lp_X4_gIn (hc : S.2.1 1 5 = nI c) (h80 : c ≤ 80) {layer far : Int32} {g : Nat → Int32} {t : Nat} (ht : t < c) {Qc : Array Value → State → Outcome → State → Prop} {XC : String → State → State → Prop} (kk : G K MX4_gatherClusters 12 0 0 0 0 104 [(3, .int (nI t)), (0, .ref 1), (1, .int layer), (2, .int far)] [] (hp ly (setR S 18 (gIn S c layer far g t t))) Qc XC) : ∀ m i, i + m = t → G K MX4_gatherClusters 12 0 0 0 0 22 [(4, .int (nI i)), (3, .int (nI t)), (0, .ref 1), (1, .int layer), (2, .int far)] [] (hp ly (setR S 18 (gIn S c layer far g t i))) Qc XC := by
  intro m
  induction m with
  | zero =>
    intro i hi
    obtain rfl : i = t := by omega
    refine G_iload dX4_gatherClusters_22 rfl ?_
    refine G_iload_n dX4_gatherClusters_24 rfl ?_
    refine G_icmp_ge (tgt := 104) dX4_gatherClusters_25 (by decide) (fun c_25 => ?_) (fun c_25 => ?_)
    · refine G_sub [1, 2, 3, 4] rfl ?_
      exact kk
    · exact absurd (nI_le (Nat.le_refl _) (by omega)) c_25
  | succ m ih =>
    intro i hi
    have hi8 : i < 80 := by omega
    have ht8 : t < 80 := by omega
    have q := ih (i + 1) (by omega)
    refine G_iload dX4_gatherClusters_22 rfl ?_
    refine G_iload_n dX4_gatherClusters_24 rfl ?_
    refine G_icmp_ge (tgt := 104) dX4_gatherClusters_25 (by decide) (fun c_25 => ?_) (fun c_25 => ?_)
    · exact absurd c_25 (nI_ge (show i < t by omega) (by omega))
    · refine G_aload_n dX4_gatherClusters_28 rfl ?_
      refine G_iload_n dX4_gatherClusters_29 rfl ?_
      refine G_iload_n dX4_gatherClusters_30 rfl ?_
      refine G_cVi (As := [_, _]) dX4_gatherClusters_31 kV_X4_isIn wml_X4_48 sp_X4_isIn rfl cThings rfl rfl rfl (by decide) ⟨Nat.le_refl 0, Nat.le_refl 0⟩ (Nat.le_of_ble_eq_true rfl) ?_
      refine G_if_eq (tgt := 51) dX4_gatherClusters_34 (by decide) (fun c_34 => ?_) (fun c_34 => ?_)
      · refine G_iconst (v := 0) dX4_gatherClusters_51 (by decide) ?_
        refine GS_istore (L' := [(5, _), (4, _), (3, _), (0, _), (1, _), (2, _)]) dX4_gatherClusters_52 (by decide) rfl ?_
        refine G_iload dX4_gatherClusters_54 rfl ?_
        refine G_if_eq (tgt := 98) dX4_gatherClusters_56 (by decide) (fun c_56 => ?_) (fun c_56 => ?_)
        · refine GS_iinc (v := 1) (L' := [(4, _), (5, _), (3, _), (0, _), (1, _), (2, _)]) dX4_gatherClusters_98 rfl (by decide) (by decide) rfl ?_
          refine G_goto (tgt := 22) dX4_gatherClusters_101 (by decide) ?_
          refine G_sub [0, 2, 3, 4, 5] rfl ?_
          first
            | exact absurd c_56 (by decide)
            | exact absurd rfl c_56
            | (have e : nr S layer far t i = false := pand_f1 (pand_f1 (isin_f (S := S) ht8 c_34)); rw [nI_1 i]; rw [gIn_f e] at q; exact q)
            | (have e : nr S layer far t i = false := pand_f1 (pand_f2 (isin_f (S := S) hi8 c_44)); rw [nI_1 i]; rw [gIn_f e] at q; exact q)
            | (have e : nr S layer far t i = false := pand_f2 (le_f c_74); rw [nI_1 i]; rw [gIn_f e] at q; exact q)
            | (have e : nr S layer far t i = true := pand_t (pand_t (isin_t (S := S) ht8 c_34) (isin_t (S := S) hi8 c_44)) (le_t c_74); rw [nI_1 i]; rw [gIn_t e] at q; rw [setR_twice, rat_nI ht8 (by decide), rat_nI hi8 (by decide)]; exact q)
        · refine G_aload_n dX4_gatherClusters_59 rfl ?_
          refine G_get (k := 0) dX4_gatherClusters_60 cThings rfl wfl_X4_14 (by decide) rfl ?_
          refine G_iload_n dX4_gatherClusters_63 rfl ?_
          refine G_aload_n dX4_gatherClusters_64 rfl ?_
          refine G_get (k := 0) dX4_gatherClusters_65 cThings rfl wfl_X4_14 (by decide) rfl ?_
          refine G_iload dX4_gatherClusters_68 rfl ?_
          refine G_cVi (As := [_, _, _]) dX4_gatherClusters_70 kV_X0_farBetween wml_X4_63 (sp_X0_farBetween bThings bThings) rfl (cBox bThings) rfl rfl rfl (by decide) ⟨Nat.le_refl 0, Nat.le_refl 0⟩ (Nat.le_of_ble_eq_true rfl) ?_
          refine G_iload_n dX4_gatherClusters_73 rfl ?_
          refine G_icmp_gt (tgt := 98) dX4_gatherClusters_74 (by decide) (fun c_74 => ?_) (fun c_74 => ?_)
          · refine GS_iinc (v := 1) (L' := [(4, _), (5, _), (3, _), (0, _), (1, _), (2, _)]) dX4_gatherClusters_98 rfl (by decide) (by decide) rfl ?_
            refine G_goto (tgt := 22) dX4_gatherClusters_101 (by decide) ?_
            refine G_sub [0, 2, 3, 4, 5] rfl ?_
            first
              | exact absurd c_56 (by decide)
              | exact absurd rfl c_56
              | (have e : nr S layer far t i = false := pand_f1 (pand_f1 (isin_f (S := S) ht8 c_34)); rw [nI_1 i]; rw [gIn_f e] at q; exact q)
              | (have e : nr S layer far t i = false := pand_f1 (pand_f2 (isin_f (S := S) hi8 c_44)); rw [nI_1 i]; rw [gIn_f e] at q; exact q)
              | (have e : nr S layer far t i = false := pand_f2 (le_f c_74); rw [nI_1 i]; rw [gIn_f e] at q; exact q)
              | (have e : nr S layer far t i = true := pand_t (pand_t (isin_t (S := S) ht8 c_34) (isin_t (S := S) hi8 c_44)) (le_t c_74); rw [nI_1 i]; rw [gIn_t e] at q; rw [setR_twice, rat_nI ht8 (by decide), rat_nI hi8 (by decide)]; exact q)
          · refine G_aload_n dX4_gatherClusters_77 rfl ?_
            refine G_aload_n dX4_gatherClusters_78 rfl ?_
            refine G_get (k := 4) dX4_gatherClusters_79 cThings rfl wfl_X4_33 (by decide) rfl ?_
            refine G_iload_n dX4_gatherClusters_82 rfl ?_
            refine G_cVi (As := [_]) dX4_gatherClusters_83 kV_X3_at wml_X4_44 (sp_X3_at rClus) rfl (cRow rClus) rfl rfl rfl (by decide) ⟨Nat.le_refl 0, Nat.le_refl 0⟩ (Nat.le_of_ble_eq_true rfl) ?_
            refine G_aload_n dX4_gatherClusters_86 rfl ?_
            refine G_get (k := 4) dX4_gatherClusters_87 cThings rfl wfl_X4_33 (by decide) rfl ?_
            refine G_iload dX4_gatherClusters_90 rfl ?_
            refine G_cVi (As := [_]) dX4_gatherClusters_92 kV_X3_at wml_X4_44 (sp_X3_at rClus) rfl (cRow rClus) rfl rfl rfl (by decide) ⟨Nat.le_refl 0, Nat.le_refl 0⟩ (Nat.le_of_ble_eq_true rfl) ?_
            refine G_cVv (As := [_, _]) dX4_gatherClusters_95 kV_X4_joinClusters wml_X4_67 (sp_X4_joinClusters (S := setR S 18 (gIn S c layer far g t i)) hc h80) rfl cThings rfl rfl rfl (by decide) ⟨Nat.le_refl 0, Nat.le_refl 0⟩ (Nat.le_of_ble_eq_true rfl) ?_
            refine GS_iinc (v := 1) (L' := [(4, _), (5, _), (3, _), (0, _), (1, _), (2, _)]) dX4_gatherClusters_98 rfl (by decide) (by decide) rfl ?_
            refine G_goto (tgt := 22) dX4_gatherClusters_101 (by decide) ?_
            refine G_sub [0, 2, 3, 4, 5] rfl ?_
            first
              | exact absurd c_56 (by decide)
              | exact absurd rfl c_56
              | (have e : nr S layer far t i = false := pand_f1 (pand_f1 (isin_f (S := S) ht8 c_34)); rw [nI_1 i]; rw [gIn_f e] at q; exact q)
              | (have e : nr S layer far t i = false := pand_f1 (pand_f2 (isin_f (S := S) hi8 c_44)); rw [nI_1 i]; rw [gIn_f e] at q; exact q)
              | (have e : nr S layer far t i = false := pand_f2 (le_f c_74); rw [nI_1 i]; rw [gIn_f e] at q; exact q)
              | (have e : nr S layer far t i = true := pand_t (pand_t (isin_t (S := S) ht8 c_34) (isin_t (S := S) hi8 c_44)) (le_t c_74); rw [nI_1 i]; rw [gIn_t e] at q; rw [setR_twice, rat_nI ht8 (by decide), rat_nI hi8 (by decide)]; exact q)
      · refine G_aload_n dX4_gatherClusters_37 rfl ?_
        refine G_iload dX4_gatherClusters_38 rfl ?_
        refine G_iload_n dX4_gatherClusters_40 rfl ?_
        refine G_cVi (As := [_, _]) dX4_gatherClusters_41 kV_X4_isIn wml_X4_48 sp_X4_isIn rfl cThings rfl rfl rfl (by decide) ⟨Nat.le_refl 0, Nat.le_refl 0⟩ (Nat.le_of_ble_eq_true rfl) ?_
        refine G_if_eq (tgt := 51) dX4_gatherClusters_44 (by decide) (fun c_44 => ?_) (fun c_44 => ?_)
        · refine G_iconst (v := 0) dX4_gatherClusters_51 (by decide) ?_
          refine GS_istore (L' := [(5, _), (4, _), (3, _), (0, _), (1, _), (2, _)]) dX4_gatherClusters_52 (by decide) rfl ?_
          refine G_iload dX4_gatherClusters_54 rfl ?_
          refine G_if_eq (tgt := 98) dX4_gatherClusters_56 (by decide) (fun c_56 => ?_) (fun c_56 => ?_)
          · refine GS_iinc (v := 1) (L' := [(4, _), (5, _), (3, _), (0, _), (1, _), (2, _)]) dX4_gatherClusters_98 rfl (by decide) (by decide) rfl ?_
            refine G_goto (tgt := 22) dX4_gatherClusters_101 (by decide) ?_
            refine G_sub [0, 2, 3, 4, 5] rfl ?_
            first
              | exact absurd c_56 (by decide)
              | exact absurd rfl c_56
              | (have e : nr S layer far t i = false := pand_f1 (pand_f1 (isin_f (S := S) ht8 c_34)); rw [nI_1 i]; rw [gIn_f e] at q; exact q)
              | (have e : nr S layer far t i = false := pand_f1 (pand_f2 (isin_f (S := S) hi8 c_44)); rw [nI_1 i]; rw [gIn_f e] at q; exact q)
              | (have e : nr S layer far t i = false := pand_f2 (le_f c_74); rw [nI_1 i]; rw [gIn_f e] at q; exact q)
              | (have e : nr S layer far t i = true := pand_t (pand_t (isin_t (S := S) ht8 c_34) (isin_t (S := S) hi8 c_44)) (le_t c_74); rw [nI_1 i]; rw [gIn_t e] at q; rw [setR_twice, rat_nI ht8 (by decide), rat_nI hi8 (by decide)]; exact q)
          · refine G_aload_n dX4_gatherClusters_59 rfl ?_
            refine G_get (k := 0) dX4_gatherClusters_60 cThings rfl wfl_X4_14 (by decide) rfl ?_
            refine G_iload_n dX4_gatherClusters_63 rfl ?_
            refine G_aload_n dX4_gatherClusters_64 rfl ?_
            refine G_get (k := 0) dX4_gatherClusters_65 cThings rfl wfl_X4_14 (by decide) rfl ?_
            refine G_iload dX4_gatherClusters_68 rfl ?_
            refine G_cVi (As := [_, _, _]) dX4_gatherClusters_70 kV_X0_farBetween wml_X4_63 (sp_X0_farBetween bThings bThings) rfl (cBox bThings) rfl rfl rfl (by decide) ⟨Nat.le_refl 0, Nat.le_refl 0⟩ (Nat.le_of_ble_eq_true rfl) ?_
            refine G_iload_n dX4_gatherClusters_73 rfl ?_
            refine G_icmp_gt (tgt := 98) dX4_gatherClusters_74 (by decide) (fun c_74 => ?_) (fun c_74 => ?_)
            · refine GS_iinc (v := 1) (L' := [(4, _), (5, _), (3, _), (0, _), (1, _), (2, _)]) dX4_gatherClusters_98 rfl (by decide) (by decide) rfl ?_
              refine G_goto (tgt := 22) dX4_gatherClusters_101 (by decide) ?_
              refine G_sub [0, 2, 3, 4, 5] rfl ?_
              first
                | exact absurd c_56 (by decide)
                | exact absurd rfl c_56
                | (have e : nr S layer far t i = false := pand_f1 (pand_f1 (isin_f (S := S) ht8 c_34)); rw [nI_1 i]; rw [gIn_f e] at q; exact q)
                | (have e : nr S layer far t i = false := pand_f1 (pand_f2 (isin_f (S := S) hi8 c_44)); rw [nI_1 i]; rw [gIn_f e] at q; exact q)
                | (have e : nr S layer far t i = false := pand_f2 (le_f c_74); rw [nI_1 i]; rw [gIn_f e] at q; exact q)
                | (have e : nr S layer far t i = true := pand_t (pand_t (isin_t (S := S) ht8 c_34) (isin_t (S := S) hi8 c_44)) (le_t c_74); rw [nI_1 i]; rw [gIn_t e] at q; rw [setR_twice, rat_nI ht8 (by decide), rat_nI hi8 (by decide)]; exact q)
            · refine G_aload_n dX4_gatherClusters_77 rfl ?_
              refine G_aload_n dX4_gatherClusters_78 rfl ?_
              refine G_get (k := 4) dX4_gatherClusters_79 cThings rfl wfl_X4_33 (by decide) rfl ?_
              refine G_iload_n dX4_gatherClusters_82 rfl ?_
              refine G_cVi (As := [_]) dX4_gatherClusters_83 kV_X3_at wml_X4_44 (sp_X3_at rClus) rfl (cRow rClus) rfl rfl rfl (by decide) ⟨Nat.le_refl 0, Nat.le_refl 0⟩ (Nat.le_of_ble_eq_true rfl) ?_
              refine G_aload_n dX4_gatherClusters_86 rfl ?_
              refine G_get (k := 4) dX4_gatherClusters_87 cThings rfl wfl_X4_33 (by decide) rfl ?_
              refine G_iload dX4_gatherClusters_90 rfl ?_
              refine G_cVi (As := [_]) dX4_gatherClusters_92 kV_X3_at wml_X4_44 (sp_X3_at rClus) rfl (cRow rClus) rfl rfl rfl (by decide) ⟨Nat.le_refl 0, Nat.le_refl 0⟩ (Nat.le_of_ble_eq_true rfl) ?_
              refine G_cVv (As := [_, _]) dX4_gatherClusters_95 kV_X4_joinClusters wml_X4_67 (sp_X4_joinClusters (S := setR S 18 (gIn S c layer far g t i)) hc h80) rfl cThings rfl rfl rfl (by decide) ⟨Nat.le_refl 0, Nat.le_refl 0⟩ (Nat.le_of_ble_eq_true rfl) ?_
              refine GS_iinc (v := 1) (L' := [(4, _), (5, _), (3, _), (0, _), (1, _), (2, _)]) dX4_gatherClusters_98 rfl (by decide) (by decide) rfl ?_
              refine G_goto (tgt := 22) dX4_gatherClusters_101 (by decide) ?_
              refine G_sub [0, 2, 3, 4, 5] rfl ?_
              first
                | exact absurd c_56 (by decide)
                | exact absurd rfl c_56
                | (have e : nr S layer far t i = false := pand_f1 (pand_f1 (isin_f (S := S) ht8 c_34)); rw [nI_1 i]; rw [gIn_f e] at q; exact q)
                | (have e : nr S layer far t i = false := pand_f1 (pand_f2 (isin_f (S := S) hi8 c_44)); rw [nI_1 i]; rw [gIn_f e] at q; exact q)
                | (have e : nr S layer far t i = false := pand_f2 (le_f c_74); rw [nI_1 i]; rw [gIn_f e] at q; exact q)
                | (have e : nr S layer far t i = true := pand_t (pand_t (isin_t (S := S) ht8 c_34) (isin_t (S := S) hi8 c_44)) (le_t c_74); rw [nI_1 i]; rw [gIn_t e] at q; rw [setR_twice, rat_nI ht8 (by decide), rat_nI hi8 (by decide)]; exact q)
        · refine G_iconst (v := 1) dX4_gatherClusters_47 (by decide) ?_
          refine G_goto (tgt := 52) dX4_gatherClusters_48 (by decide) ?_
          refine GS_istore (L' := [(5, _), (4, _), (3, _), (0, _), (1, _), (2, _)]) dX4_gatherClusters_52 (by decide) rfl ?_
          refine G_iload dX4_gatherClusters_54 rfl ?_
          refine G_if_eq (tgt := 98) dX4_gatherClusters_56 (by decide) (fun c_56 => ?_) (fun c_56 => ?_)
          · refine GS_iinc (v := 1) (L' := [(4, _), (5, _), (3, _), (0, _), (1, _), (2, _)]) dX4_gatherClusters_98 rfl (by decide) (by decide) rfl ?_
            refine G_goto (tgt := 22) dX4_gatherClusters_101 (by decide) ?_
            refine G_sub [0, 2, 3, 4, 5] rfl ?_
            first
              | exact absurd c_56 (by decide)
              | exact absurd rfl c_56
              | (have e : nr S layer far t i = false := pand_f1 (pand_f1 (isin_f (S := S) ht8 c_34)); rw [nI_1 i]; rw [gIn_f e] at q; exact q)
              | (have e : nr S layer far t i = false := pand_f1 (pand_f2 (isin_f (S := S) hi8 c_44)); rw [nI_1 i]; rw [gIn_f e] at q; exact q)
              | (have e : nr S layer far t i = false := pand_f2 (le_f c_74); rw [nI_1 i]; rw [gIn_f e] at q; exact q)
              | (have e : nr S layer far t i = true := pand_t (pand_t (isin_t (S := S) ht8 c_34) (isin_t (S := S) hi8 c_44)) (le_t c_74); rw [nI_1 i]; rw [gIn_t e] at q; rw [setR_twice, rat_nI ht8 (by decide), rat_nI hi8 (by decide)]; exact q)
          · refine G_aload_n dX4_gatherClusters_59 rfl ?_
            refine G_get (k := 0) dX4_gatherClusters_60 cThings rfl wfl_X4_14 (by decide) rfl ?_
            refine G_iload_n dX4_gatherClusters_63 rfl ?_
            refine G_aload_n dX4_gatherClusters_64 rfl ?_
            refine G_get (k := 0) dX4_gatherClusters_65 cThings rfl wfl_X4_14 (by decide) rfl ?_
            refine G_iload dX4_gatherClusters_68 rfl ?_
            refine G_cVi (As := [_, _, _]) dX4_gatherClusters_70 kV_X0_farBetween wml_X4_63 (sp_X0_farBetween bThings bThings) rfl (cBox bThings) rfl rfl rfl (by decide) ⟨Nat.le_refl 0, Nat.le_refl 0⟩ (Nat.le_of_ble_eq_true rfl) ?_
            refine G_iload_n dX4_gatherClusters_73 rfl ?_
            refine G_icmp_gt (tgt := 98) dX4_gatherClusters_74 (by decide) (fun c_74 => ?_) (fun c_74 => ?_)
            · refine GS_iinc (v := 1) (L' := [(4, _), (5, _), (3, _), (0, _), (1, _), (2, _)]) dX4_gatherClusters_98 rfl (by decide) (by decide) rfl ?_
              refine G_goto (tgt := 22) dX4_gatherClusters_101 (by decide) ?_
              refine G_sub [0, 2, 3, 4, 5] rfl ?_
              first
                | exact absurd c_56 (by decide)
                | exact absurd rfl c_56
                | (have e : nr S layer far t i = false := pand_f1 (pand_f1 (isin_f (S := S) ht8 c_34)); rw [nI_1 i]; rw [gIn_f e] at q; exact q)
                | (have e : nr S layer far t i = false := pand_f1 (pand_f2 (isin_f (S := S) hi8 c_44)); rw [nI_1 i]; rw [gIn_f e] at q; exact q)
                | (have e : nr S layer far t i = false := pand_f2 (le_f c_74); rw [nI_1 i]; rw [gIn_f e] at q; exact q)
                | (have e : nr S layer far t i = true := pand_t (pand_t (isin_t (S := S) ht8 c_34) (isin_t (S := S) hi8 c_44)) (le_t c_74); rw [nI_1 i]; rw [gIn_t e] at q; rw [setR_twice, rat_nI ht8 (by decide), rat_nI hi8 (by decide)]; exact q)
            · refine G_aload_n dX4_gatherClusters_77 rfl ?_
              refine G_aload_n dX4_gatherClusters_78 rfl ?_
              refine G_get (k := 4) dX4_gatherClusters_79 cThings rfl wfl_X4_33 (by decide) rfl ?_
              refine G_iload_n dX4_gatherClusters_82 rfl ?_
              refine G_cVi (As := [_]) dX4_gatherClusters_83 kV_X3_at wml_X4_44 (sp_X3_at rClus) rfl (cRow rClus) rfl rfl rfl (by decide) ⟨Nat.le_refl 0, Nat.le_refl 0⟩ (Nat.le_of_ble_eq_true rfl) ?_
              refine G_aload_n dX4_gatherClusters_86 rfl ?_
              refine G_get (k := 4) dX4_gatherClusters_87 cThings rfl wfl_X4_33 (by decide) rfl ?_
              refine G_iload dX4_gatherClusters_90 rfl ?_
              refine G_cVi (As := [_]) dX4_gatherClusters_92 kV_X3_at wml_X4_44 (sp_X3_at rClus) rfl (cRow rClus) rfl rfl rfl (by decide) ⟨Nat.le_refl 0, Nat.le_refl 0⟩ (Nat.le_of_ble_eq_true rfl) ?_
              refine G_cVv (As := [_, _]) dX4_gatherClusters_95 kV_X4_joinClusters wml_X4_67 (sp_X4_joinClusters (S := setR S 18 (gIn S c layer far g t i)) hc h80) rfl cThings rfl rfl rfl (by decide) ⟨Nat.le_refl 0, Nat.le_refl 0⟩ (Nat.le_of_ble_eq_true rfl) ?_
              refine GS_iinc (v := 1) (L' := [(4, _), (5, _), (3, _), (0, _), (1, _), (2, _)]) dX4_gatherClusters_98 rfl (by decide) (by decide) rfl ?_
              refine G_goto (tgt := 22) dX4_gatherClusters_101 (by decide) ?_
              refine G_sub [0, 2, 3, 4, 5] rfl ?_
              first
                | exact absurd c_56 (by decide)
                | exact absurd rfl c_56
                | (have e : nr S layer far t i = false := pand_f1 (pand_f1 (isin_f (S := S) ht8 c_34)); rw [nI_1 i]; rw [gIn_f e] at q; exact q)
                | (have e : nr S layer far t i = false := pand_f1 (pand_f2 (isin_f (S := S) hi8 c_44)); rw [nI_1 i]; rw [gIn_f e] at q; exact q)
                | (have e : nr S layer far t i = false := pand_f2 (le_f c_74); rw [nI_1 i]; rw [gIn_f e] at q; exact q)
                | (have e : nr S layer far t i = true := pand_t (pand_t (isin_t (S := S) ht8 c_34) (isin_t (S := S) hi8 c_44)) (le_t c_74); rw [nI_1 i]; rw [gIn_t e] at q; rw [setR_twice, rat_nI ht8 (by decide), rat_nI hi8 (by decide)]; exact q)
set_option maxHeartbeats 100000 in
theorem lp_X4_gOut (hc : S.2.1 1 5 = nI c) (h80 : c ≤ 80) {layer far : Int32} : ∀ m t, t + m = c → G K MX4_gatherClusters 12 0 0 0 0 2 [(3, .int (nI t)), (0, .ref 1), (1, .int layer), (2, .int far)] [] (hp ly (setR S 18 (gOut S c layer far (S.1 18) t))) (QcP K (fun v u => v = none ∧ u = hp ly (setR S 18 (gOut S c layer far (S.1 18) c)))) (XcP K noX) := by
  intro m
  induction m with
  | zero =>
    intro t ht
    obtain rfl : t = c := by omega
    refine G_iload_n dX4_gatherClusters_2 rfl ?_
    refine G_aload_n dX4_gatherClusters_3 rfl ?_
    refine G_get (k := 5) dX4_gatherClusters_4 cThings rfl wfl_X4_36 (by decide) rfl ?_
    rw [show (setR S 18 (gOut S t layer far (S.1 18) t)).2.1 1 5 = nI t from hc]
    refine G_icmp_ge (tgt := 110) dX4_gatherClusters_7 (by decide) (fun c_7 => ?_) (fun c_7 => ?_)
    · exact G_vret dX4_gatherClusters_110 rfl ⟨Nat.le_refl 0, Nat.le_refl 0⟩ ⟨rfl, rfl⟩
    · exact absurd (nI_le (Nat.le_refl _) (by omega)) c_7
  | succ m ih =>
    intro t ht
    have ht8 : t < 80 := by omega
    have q := ih (t + 1) (by omega)
    refine G_iload_n dX4_gatherClusters_2 rfl ?_
    refine G_aload_n dX4_gatherClusters_3 rfl ?_
    refine G_get (k := 5) dX4_gatherClusters_4 cThings rfl wfl_X4_36 (by decide) rfl ?_
    rw [show (setR S 18 (gOut S c layer far (S.1 18) t)).2.1 1 5 = nI c from hc]
    refine G_icmp_ge (tgt := 110) dX4_gatherClusters_7 (by decide) (fun c_7 => ?_) (fun c_7 => ?_)
    · exact absurd c_7 (nI_ge (show t < c by omega) (by omega))
    · refine G_aload_n dX4_gatherClusters_10 rfl ?_
      refine G_get (k := 4) dX4_gatherClusters_11 cThings rfl wfl_X4_33 (by decide) rfl ?_
      refine G_iload_n dX4_gatherClusters_14 rfl ?_
      refine G_iload_n dX4_gatherClusters_15 rfl ?_
      refine G_cVv (As := [_, _]) dX4_gatherClusters_16 kV_X3_put wml_X4_40 (sp_X3_put rClus) rfl (cRow rClus) rfl rfl rfl (by decide) ⟨Nat.le_refl 0, Nat.le_refl 0⟩ (Nat.le_of_ble_eq_true rfl) ?_
      refine G_iconst (v := 0) dX4_gatherClusters_19 (by decide) ?_
      refine GS_istore (L' := [(4, _), (3, _), (0, _), (1, _), (2, _)]) dX4_gatherClusters_20 (by decide) rfl ?_
      refine G_sub [0, 1, 2, 3, 4] rfl ?_
      rw [setR_twice, rput_nI ht8 (by decide)]
      have z := lp_X4_gIn (K := K) (ly := ly) (S := S) hc h80 (layer := layer) (far := far) (g := upd (gOut S c layer far (S.1 18) t) t (nI t)) (show t < c by omega) (Qc := QcP K (fun v u => v = none ∧ u = hp ly (setR S 18 (gOut S c layer far (S.1 18) c)))) (XC := XcP K noX) (by
        refine GS_iinc (v := 1) (L' := [(3, _), (0, _), (1, _), (2, _)]) dX4_gatherClusters_104 rfl (by decide) (by decide) rfl ?_
        refine G_goto (tgt := 2) dX4_gatherClusters_107 (by decide) ?_
        refine G_sub [0, 1, 2, 3] rfl ?_
        rw [nI_1 t]
        exact q) t 0 (by omega)
      exact z
set_option maxHeartbeats 100000 in
theorem sp_X4_gatherClusters (hc : S.2.1 1 5 = nI c) (h80 : c ≤ 80) {layer far : Int32} : Sp K MX4_gatherClusters 12 0 0 [.ref 1, .int layer, .int far] (hp ly S) (fun v u => v = none ∧ u = hp ly (setR S 18 (gOut S c layer far (S.1 18) c))) noX := by
  refine Sp_of (by decide) (Nat.le_of_ble_eq_true rfl) ?_
  refine G_iconst (v := 0) dX4_gatherClusters_0 (by decide) ?_
  refine GS_istore_n (L' := [(3, _), (0, _), (1, _), (2, _)]) dX4_gatherClusters_1 (by decide) rfl ?_
  refine G_sub [0, 1, 2, 3] rfl ?_
  have q := lp_X4_gOut (K := K) (ly := ly) hc h80 (layer := layer) (far := far) c 0 (by omega)
  rw [gOut, setR_self] at q
  exact q
set_option maxHeartbeats 100000 in
theorem lp_X4_countClusters (hc : S.2.1 1 5 = nI c) (h80 : c ≤ 80) {layer : Int32} : ∀ m j, j + m = c → G K MX4_countClusters 8 0 0 0 0 4 [(3, .int (nI j)), (2, .int (nI (cnt (rootP S layer (S.1 18)) j))), (0, .ref 1), (1, .int layer)] [] (hp ly S) (QcP K (fun v u => v = some (.int (nI (cnt (rootP S layer (S.1 18)) c))) ∧ u = hp ly S)) (XcP K noX) := by
  intro m
  induction m with
  | zero =>
    intro j hj
    obtain rfl : j = c := by omega
    refine G_iload_n dX4_countClusters_4 rfl ?_
    refine G_aload_n dX4_countClusters_5 rfl ?_
    refine G_get (k := 5) dX4_countClusters_6 cThings rfl wfl_X4_36 (by decide) rfl ?_
    rw [hc]
    refine G_icmp_ge (tgt := 42) dX4_countClusters_9 (by decide) (fun c_9 => ?_) (fun c_9 => ?_)
    · refine G_iload_n dX4_countClusters_42 rfl ?_
      exact G_iret dX4_countClusters_43 rfl rfl ⟨Nat.le_refl 0, Nat.le_refl 0⟩ ⟨rfl, rfl⟩
    · exact absurd (nI_le (Nat.le_refl _) (by omega)) c_9
  | succ m ih =>
    intro j hj
    have hj8 : j < 80 := by omega
    have q := ih (j + 1) (by omega)
    refine G_iload_n dX4_countClusters_4 rfl ?_
    refine G_aload_n dX4_countClusters_5 rfl ?_
    refine G_get (k := 5) dX4_countClusters_6 cThings rfl wfl_X4_36 (by decide) rfl ?_
    rw [hc]
    refine G_icmp_ge (tgt := 42) dX4_countClusters_9 (by decide) (fun c_9 => ?_) (fun c_9 => ?_)
    · exact absurd c_9 (nI_ge (show j < c by omega) (by omega))
    · refine G_aload_n dX4_countClusters_12 rfl ?_
      refine G_iload_n dX4_countClusters_13 rfl ?_
      refine G_iload_n dX4_countClusters_14 rfl ?_
      refine G_cVi (As := [_, _]) dX4_countClusters_15 kV_X4_isIn wml_X4_48 sp_X4_isIn rfl cThings rfl rfl rfl (by decide) ⟨Nat.le_refl 0, Nat.le_refl 0⟩ (Nat.le_of_ble_eq_true rfl) ?_
      refine G_if_eq (tgt := 36) dX4_countClusters_18 (by decide) (fun c_18 => ?_) (fun c_18 => ?_)
      · refine GS_iinc (v := 1) (L' := [(3, _), (2, _), (0, _), (1, _)]) dX4_countClusters_36 rfl (by decide) (by decide) rfl ?_
        refine G_goto (tgt := 4) dX4_countClusters_39 (by decide) ?_
        refine G_sub [0, 1, 2, 3] rfl ?_
        rw [nI_1 j]
        first
          | (have e : rootP S layer (S.1 18) j = false := pand_f1 (isin_f hj8 c_18); rw [cnt_f e] at q; exact q)
          | (rw [rat_nI hj8 (by decide)] at c_30; have e : rootP S layer (S.1 18) j = false := pand_f2 (decide_eq_false c_30); rw [cnt_f e] at q; exact q)
          | (rw [rat_nI hj8 (by decide)] at c_30; have e : rootP S layer (S.1 18) j = true := pand_t (isin_t hj8 c_18) (decide_eq_true c_30); rw [cnt_t e] at q; rw [nI_1]; exact q)
      · refine G_aload_n dX4_countClusters_21 rfl ?_
        refine G_get (k := 4) dX4_countClusters_22 cThings rfl wfl_X4_33 (by decide) rfl ?_
        refine G_iload_n dX4_countClusters_25 rfl ?_
        refine G_cVi (As := [_]) dX4_countClusters_26 kV_X3_at wml_X4_44 (sp_X3_at rClus) rfl (cRow rClus) rfl rfl rfl (by decide) ⟨Nat.le_refl 0, Nat.le_refl 0⟩ (Nat.le_of_ble_eq_true rfl) ?_
        refine G_iload_n dX4_countClusters_29 rfl ?_
        refine G_icmp_ne (tgt := 36) dX4_countClusters_30 (by decide) (fun c_30 => ?_) (fun c_30 => ?_)
        · refine GS_iinc (v := 1) (L' := [(3, _), (2, _), (0, _), (1, _)]) dX4_countClusters_36 rfl (by decide) (by decide) rfl ?_
          refine G_goto (tgt := 4) dX4_countClusters_39 (by decide) ?_
          refine G_sub [0, 1, 2, 3] rfl ?_
          rw [nI_1 j]
          first
            | (have e : rootP S layer (S.1 18) j = false := pand_f1 (isin_f hj8 c_18); rw [cnt_f e] at q; exact q)
            | (rw [rat_nI hj8 (by decide)] at c_30; have e : rootP S layer (S.1 18) j = false := pand_f2 (decide_eq_false c_30); rw [cnt_f e] at q; exact q)
            | (rw [rat_nI hj8 (by decide)] at c_30; have e : rootP S layer (S.1 18) j = true := pand_t (isin_t hj8 c_18) (decide_eq_true c_30); rw [cnt_t e] at q; rw [nI_1]; exact q)
        · refine GS_iinc (v := 1) (L' := [(2, _), (3, _), (0, _), (1, _)]) dX4_countClusters_33 rfl (by decide) (by decide) rfl ?_
          refine GS_iinc (v := 1) (L' := [(3, _), (2, _), (0, _), (1, _)]) dX4_countClusters_36 rfl (by decide) (by decide) rfl ?_
          refine G_goto (tgt := 4) dX4_countClusters_39 (by decide) ?_
          refine G_sub [0, 1, 2, 3] rfl ?_
          rw [nI_1 j]
          first
            | (have e : rootP S layer (S.1 18) j = false := pand_f1 (isin_f hj8 c_18); rw [cnt_f e] at q; exact q)
            | (rw [rat_nI hj8 (by decide)] at c_30; have e : rootP S layer (S.1 18) j = false := pand_f2 (decide_eq_false c_30); rw [cnt_f e] at q; exact q)
            | (rw [rat_nI hj8 (by decide)] at c_30; have e : rootP S layer (S.1 18) j = true := pand_t (isin_t hj8 c_18) (decide_eq_true c_30); rw [cnt_t e] at q; rw [nI_1]; exact q)
set_option maxHeartbeats 100000 in
theorem sp_X4_countClusters (hc : S.2.1 1 5 = nI c) (h80 : c ≤ 80) {layer : Int32} : Sp K MX4_countClusters 8 0 0 [.ref 1, .int layer] (hp ly S) (fun v u => v = some (.int (nI (cnt (rootP S layer (S.1 18)) c))) ∧ u = hp ly S) noX := by
  refine Sp_of (by decide) (Nat.le_of_ble_eq_true rfl) ?_
  refine G_iconst (v := 0) dX4_countClusters_0 (by decide) ?_
  refine GS_istore_n (L' := [(2, _), (0, _), (1, _)]) dX4_countClusters_1 (by decide) rfl ?_
  refine G_iconst (v := 0) dX4_countClusters_2 (by decide) ?_
  refine GS_istore_n (L' := [(3, _), (2, _), (0, _), (1, _)]) dX4_countClusters_3 (by decide) rfl ?_
  refine G_sub [0, 1, 2, 3] rfl ?_
  exact lp_X4_countClusters hc h80 c 0 (by omega)
set_option maxHeartbeats 100000 in
theorem lp_X4_grtIn (hc : S.2.1 1 5 = nI c) (h80 : c ≤ 80) {layer : Int32} {z : Nat} (hz : z < c) {Qc : Array Value → State → Outcome → State → Prop} {XC : String → State → State → Prop} (kk : G K MX4_greatestCluster 8 0 0 0 0 4 [(3, .int (nI (z + 1))), (2, .int (grt S c layer (S.1 18) (z + 1))), (0, .ref 1), (1, .int layer)] [] (hp ly S) Qc XC) : ∀ m j, j + m = c → G K MX4_greatestCluster 8 0 0 0 0 18 [(5, .int (nI j)), (4, .int (nI (cnt (labP S layer (S.1 18) (nI z)) j))), (2, .int (grt S c layer (S.1 18) z)), (3, .int (nI z)), (0, .ref 1), (1, .int layer)] [] (hp ly S) Qc XC := by
  intro m
  induction m with
  | zero =>
    intro j hj
    obtain rfl : j = c := by omega
    refine G_iload dX4_greatestCluster_18 rfl ?_
    refine G_aload_n dX4_greatestCluster_20 rfl ?_
    refine G_get (k := 5) dX4_greatestCluster_21 cThings rfl wfl_X4_36 (by decide) rfl ?_
    rw [hc]
    refine G_icmp_ge (tgt := 59) dX4_greatestCluster_24 (by decide) (fun c_24 => ?_) (fun c_24 => ?_)
    · refine G_iload_n dX4_greatestCluster_59 rfl ?_
      refine G_iload dX4_greatestCluster_60 rfl ?_
      refine G_max dX4_greatestCluster_62 wml_X4_76 (by decide) ⟨Nat.le_refl 0, Nat.le_refl 0⟩ (Nat.le_of_ble_eq_true rfl) ?_
      refine GS_istore_n (L' := [(2, _), (5, _), (4, _), (3, _), (0, _), (1, _)]) dX4_greatestCluster_65 (by decide) rfl ?_
      refine GS_iinc (v := 1) (L' := [(3, _), (2, _), (5, _), (4, _), (0, _), (1, _)]) dX4_greatestCluster_66 rfl (by decide) (by decide) rfl ?_
      refine G_goto (tgt := 4) dX4_greatestCluster_69 (by decide) ?_
      refine G_sub [0, 1, 4, 5] rfl ?_
      rw [nI_1 z]
      exact kk
    · exact absurd (nI_le (Nat.le_refl _) (by omega)) c_24
  | succ m ih =>
    intro j hj
    have hj8 : j < 80 := by omega
    have q := ih (j + 1) (by omega)
    refine G_iload dX4_greatestCluster_18 rfl ?_
    refine G_aload_n dX4_greatestCluster_20 rfl ?_
    refine G_get (k := 5) dX4_greatestCluster_21 cThings rfl wfl_X4_36 (by decide) rfl ?_
    rw [hc]
    refine G_icmp_ge (tgt := 59) dX4_greatestCluster_24 (by decide) (fun c_24 => ?_) (fun c_24 => ?_)
    · exact absurd c_24 (nI_ge (show j < c by omega) (by omega))
    · refine G_aload_n dX4_greatestCluster_27 rfl ?_
      refine G_iload dX4_greatestCluster_28 rfl ?_
      refine G_iload_n dX4_greatestCluster_30 rfl ?_
      refine G_cVi (As := [_, _]) dX4_greatestCluster_31 kV_X4_isIn wml_X4_48 sp_X4_isIn rfl cThings rfl rfl rfl (by decide) ⟨Nat.le_refl 0, Nat.le_refl 0⟩ (Nat.le_of_ble_eq_true rfl) ?_
      refine G_if_eq (tgt := 53) dX4_greatestCluster_34 (by decide) (fun c_34 => ?_) (fun c_34 => ?_)
      · refine GS_iinc (v := 1) (L' := [(5, _), (4, _), (2, _), (3, _), (0, _), (1, _)]) dX4_greatestCluster_53 rfl (by decide) (by decide) rfl ?_
        refine G_goto (tgt := 18) dX4_greatestCluster_56 (by decide) ?_
        refine G_sub [0, 1, 2, 3, 4, 5] rfl ?_
        rw [nI_1 j]
        first
          | (have e : labP S layer (S.1 18) (nI z) j = false := pand_f1 (isin_f hj8 c_34); rw [cnt_f e] at q; exact q)
          | (rw [rat_nI hj8 (by decide)] at c_47; have e : labP S layer (S.1 18) (nI z) j = false := pand_f2 (decide_eq_false c_47); rw [cnt_f e] at q; exact q)
          | (rw [rat_nI hj8 (by decide)] at c_47; have e : labP S layer (S.1 18) (nI z) j = true := pand_t (isin_t hj8 c_34) (decide_eq_true c_47); rw [cnt_t e] at q; rw [nI_1]; exact q)
      · refine G_aload_n dX4_greatestCluster_37 rfl ?_
        refine G_get (k := 4) dX4_greatestCluster_38 cThings rfl wfl_X4_33 (by decide) rfl ?_
        refine G_iload dX4_greatestCluster_41 rfl ?_
        refine G_cVi (As := [_]) dX4_greatestCluster_43 kV_X3_at wml_X4_44 (sp_X3_at rClus) rfl (cRow rClus) rfl rfl rfl (by decide) ⟨Nat.le_refl 0, Nat.le_refl 0⟩ (Nat.le_of_ble_eq_true rfl) ?_
        refine G_iload_n dX4_greatestCluster_46 rfl ?_
        refine G_icmp_ne (tgt := 53) dX4_greatestCluster_47 (by decide) (fun c_47 => ?_) (fun c_47 => ?_)
        · refine GS_iinc (v := 1) (L' := [(5, _), (4, _), (2, _), (3, _), (0, _), (1, _)]) dX4_greatestCluster_53 rfl (by decide) (by decide) rfl ?_
          refine G_goto (tgt := 18) dX4_greatestCluster_56 (by decide) ?_
          refine G_sub [0, 1, 2, 3, 4, 5] rfl ?_
          rw [nI_1 j]
          first
            | (have e : labP S layer (S.1 18) (nI z) j = false := pand_f1 (isin_f hj8 c_34); rw [cnt_f e] at q; exact q)
            | (rw [rat_nI hj8 (by decide)] at c_47; have e : labP S layer (S.1 18) (nI z) j = false := pand_f2 (decide_eq_false c_47); rw [cnt_f e] at q; exact q)
            | (rw [rat_nI hj8 (by decide)] at c_47; have e : labP S layer (S.1 18) (nI z) j = true := pand_t (isin_t hj8 c_34) (decide_eq_true c_47); rw [cnt_t e] at q; rw [nI_1]; exact q)
        · refine GS_iinc (v := 1) (L' := [(4, _), (5, _), (2, _), (3, _), (0, _), (1, _)]) dX4_greatestCluster_50 rfl (by decide) (by decide) rfl ?_
          refine GS_iinc (v := 1) (L' := [(5, _), (4, _), (2, _), (3, _), (0, _), (1, _)]) dX4_greatestCluster_53 rfl (by decide) (by decide) rfl ?_
          refine G_goto (tgt := 18) dX4_greatestCluster_56 (by decide) ?_
          refine G_sub [0, 1, 2, 3, 4, 5] rfl ?_
          rw [nI_1 j]
          first
            | (have e : labP S layer (S.1 18) (nI z) j = false := pand_f1 (isin_f hj8 c_34); rw [cnt_f e] at q; exact q)
            | (rw [rat_nI hj8 (by decide)] at c_47; have e : labP S layer (S.1 18) (nI z) j = false := pand_f2 (decide_eq_false c_47); rw [cnt_f e] at q; exact q)
            | (rw [rat_nI hj8 (by decide)] at c_47; have e : labP S layer (S.1 18) (nI z) j = true := pand_t (isin_t hj8 c_34) (decide_eq_true c_47); rw [cnt_t e] at q; rw [nI_1]; exact q)
set_option maxHeartbeats 100000 in
theorem lp_X4_greatest (hc : S.2.1 1 5 = nI c) (h80 : c ≤ 80) {layer : Int32} : ∀ m j, j + m = c → G K MX4_greatestCluster 8 0 0 0 0 4 [(3, .int (nI j)), (2, .int (grt S c layer (S.1 18) j)), (0, .ref 1), (1, .int layer)] [] (hp ly S) (QcP K (fun v u => v = some (.int (grt S c layer (S.1 18) c)) ∧ u = hp ly S)) (XcP K noX) := by
  intro m
  induction m with
  | zero =>
    intro j hj
    obtain rfl : j = c := by omega
    refine G_iload_n dX4_greatestCluster_4 rfl ?_
    refine G_aload_n dX4_greatestCluster_5 rfl ?_
    refine G_get (k := 5) dX4_greatestCluster_6 cThings rfl wfl_X4_36 (by decide) rfl ?_
    rw [hc]
    refine G_icmp_ge (tgt := 72) dX4_greatestCluster_9 (by decide) (fun c_9 => ?_) (fun c_9 => ?_)
    · refine G_iload_n dX4_greatestCluster_72 rfl ?_
      exact G_iret dX4_greatestCluster_73 rfl rfl ⟨Nat.le_refl 0, Nat.le_refl 0⟩ ⟨rfl, rfl⟩
    · exact absurd (nI_le (Nat.le_refl _) (by omega)) c_9
  | succ m ih =>
    intro j hj
    have q := ih (j + 1) (by omega)
    refine G_iload_n dX4_greatestCluster_4 rfl ?_
    refine G_aload_n dX4_greatestCluster_5 rfl ?_
    refine G_get (k := 5) dX4_greatestCluster_6 cThings rfl wfl_X4_36 (by decide) rfl ?_
    rw [hc]
    refine G_icmp_ge (tgt := 72) dX4_greatestCluster_9 (by decide) (fun c_9 => ?_) (fun c_9 => ?_)
    · exact absurd c_9 (nI_ge (show j < c by omega) (by omega))
    · refine G_iconst (v := 0) dX4_greatestCluster_12 (by decide) ?_
      refine GS_istore (L' := [(4, _), (3, _), (2, _), (0, _), (1, _)]) dX4_greatestCluster_13 (by decide) rfl ?_
      refine G_iconst (v := 0) dX4_greatestCluster_15 (by decide) ?_
      refine GS_istore (L' := [(5, _), (4, _), (3, _), (2, _), (0, _), (1, _)]) dX4_greatestCluster_16 (by decide) rfl ?_
      refine G_sub [0, 1, 3, 2, 4, 5] rfl ?_
      exact lp_X4_grtIn hc h80 (show j < c by omega) q c 0 (by omega)
set_option maxHeartbeats 100000 in
theorem sp_X4_greatestCluster (hc : S.2.1 1 5 = nI c) (h80 : c ≤ 80) {layer : Int32} : Sp K MX4_greatestCluster 8 0 0 [.ref 1, .int layer] (hp ly S) (fun v u => v = some (.int (grt S c layer (S.1 18) c)) ∧ u = hp ly S) noX := by
  refine Sp_of (by decide) (Nat.le_of_ble_eq_true rfl) ?_
  refine G_iconst (v := 0) dX4_greatestCluster_0 (by decide) ?_
  refine GS_istore_n (L' := [(2, _), (0, _), (1, _)]) dX4_greatestCluster_1 (by decide) rfl ?_
  refine G_iconst (v := 0) dX4_greatestCluster_2 (by decide) ?_
  refine GS_istore_n (L' := [(3, _), (2, _), (0, _), (1, _)]) dX4_greatestCluster_3 (by decide) rfl ?_
  refine G_sub [0, 1, 2, 3] rfl ?_
  exact lp_X4_greatest hc h80 c 0 (by omega)
end TH3
