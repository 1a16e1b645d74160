section AQ
variable {K : GK} {S : St} {c lr : Nat} {ly t t' : Nat}
set_option maxHeartbeats 200000 in
theorem Int32_a (a b c : Int32) : a + b + c = a + (b + c) := Int32.add_assoc a b c
set_option maxHeartbeats 200000 in
theorem lp_cvI (ht : isTree ly t) (ht' : isTree ly t') (ok' : okC S t') {far : Int32} {f j : Nat} (hj : j < 11) (ih : ∀ u v : Int32, Sp K MX6_countVisitedPairs (f + 10) 0 0 [.ref t, .int u, .ref t', .int v, .int far, .int (nI (j + 1))] (hp ly S) (fun v2 w => v2 = some (.int (cvp S t t' far f u v)) ∧ w = hp ly S) noX) {u v : Int32} {i : Nat} {base : Int32} {Qc : Array Value → State → Outcome → State → Prop} {XC : String → State → State → Prop} (kk : G K MX6_countVisitedPairs (f + 11) 0 0 0 0 65 [(9, .int (nI (i + 1))), (8, .int (base + smI (fun j2 => cvp S t t' far f (dnV S t u i) (dnV S t' v j2)) (nbV S t' v))), (7, .int (rat (tCt S t') 1205 v)), (6, .int (rat (tCt S t) 1205 u)), (0, .ref t), (1, .int u), (2, .ref t'), (3, .int v), (4, .int far), (5, .int (nI j))] [] (hp ly S) Qc XC) : ∀ d q, q + d = nbV S t' v → G K MX6_countVisitedPairs (f + 11) 0 0 0 0 98 [(11, .int (nI q)), (10, .int (dnV S t u i)), (9, .int (nI i)), (8, .int (base + smI (fun j2 => cvp S t t' far f (dnV S t u i) (dnV S t' v j2)) q)), (7, .int (rat (tCt S t') 1205 v)), (6, .int (rat (tCt S t) 1205 u)), (0, .ref t), (1, .int u), (2, .ref t'), (3, .int v), (4, .int far), (5, .int (nI j))] [] (hp ly S) Qc XC := by
  obtain ⟨n, hn8, hn⟩ := ok' v
  have hb : nbV S t' v = if n = 0 then 1 else n := by
    unfold nbV
    rw [hn]
    rcases Nat.eq_zero_or_pos n with e | e
    · subst e; rfl
    · rw [if_neg (nI_ne0 e (by omega)), if_neg (by omega), nI_clamp (by omega)]
  have hb8 : nbV S t' v ≤ 8 := by rw [hb]; split <;> omega
  have hb1 : 1 ≤ nbV S t' v := by rw [hb]; split <;> omega
  intro d
  induction d with
  | zero =>
    intro q hq
    obtain rfl : q = nbV S t' v := by omega
    refine G_iload dX6_countVisitedPairs_98 rfl ?_
    refine G_if_eq (tgt := 110) dX6_countVisitedPairs_100 (by decide) (fun c_100 => ?_) (fun c_100 => ?_)
    · exact absurd c_100 (nI_ne0 (by omega) (by omega))
    · refine G_iload dX6_countVisitedPairs_103 rfl ?_
      refine G_iload dX6_countVisitedPairs_105 rfl ?_
      refine G_icmp_ge (tgt := 154) dX6_countVisitedPairs_107 (by decide) (fun c_107 => ?_) (fun c_107 => ?_)
      · refine GS_iinc (v := 1) (L' := [(9, _), (11, _), (10, _), (8, _), (7, _), (6, _), (0, _), (1, _), (2, _), (3, _), (4, _), (5, _)]) dX6_countVisitedPairs_154 rfl (by decide) (by decide) rfl ?_
        refine G_goto (tgt := 65) dX6_countVisitedPairs_157 (by decide) ?_
        refine G_sub [0, 3, 4, 5, 6, 7, 8, 9, 10, 11] rfl ?_
        rw [nI_1 i]
        exact kk
      · rw [hn] at c_107
        exact absurd (nI_le (show n ≤ nbV S t' v by rw [hb]; split <;> omega) (by omega)) c_107
  | succ d ih2 =>
    intro q hq
    have z := ih2 (q + 1) (by omega)
    rw [smI, ← Int32_a] at z
    refine G_iload dX6_countVisitedPairs_98 rfl ?_
    refine G_if_eq (tgt := 110) dX6_countVisitedPairs_100 (by decide) (fun c_100 => ?_) (fun c_100 => ?_)
    · refine G_iload dX6_countVisitedPairs_110 rfl ?_
      refine G_if_ne (tgt := 119) dX6_countVisitedPairs_112 (by decide) (fun c_112 => ?_) (fun c_112 => ?_)
      · refine G_aload_n dX6_countVisitedPairs_119 rfl ?_
        refine G_iload_n dX6_countVisitedPairs_120 rfl ?_
        refine G_iload dX6_countVisitedPairs_121 rfl ?_
        refine G_cVi (As := [_, _]) dX6_countVisitedPairs_123 kV_X5_belowAt wml_X6_346 (sp_X5_belowAt ht') rfl (cTree ht') rfl rfl rfl (by omega) ⟨Nat.le_refl 0, Nat.le_refl 0⟩ (Nat.le_of_ble_eq_true rfl) ?_
        first
          | rw [show belV S t' v (nI q) = dnV S t' v q by unfold dnV; rw [if_neg c_112]]
          | (have e9 : dnV S t' v q = v := by (unfold dnV; rw [if_pos c_112])
             rw [show G K MX6_countVisitedPairs (f + 11) 0 0 0 0 126 _ [.int v] (hp ly S) Qc XC = G K MX6_countVisitedPairs (f + 11) 0 0 0 0 126 _ [.int (dnV S t' v q)] (hp ly S) Qc XC by rw [e9]])
        refine GS_istore (L' := [(12, _), (11, _), (10, _), (9, _), (8, _), (7, _), (6, _), (0, _), (1, _), (2, _), (3, _), (4, _), (5, _)]) dX6_countVisitedPairs_126 (by decide) rfl ?_
        refine G_iload dX6_countVisitedPairs_128 rfl ?_
        refine G_aload_n dX6_countVisitedPairs_130 rfl ?_
        refine G_iload dX6_countVisitedPairs_131 rfl ?_
        refine G_aload_n dX6_countVisitedPairs_133 rfl ?_
        refine G_iload dX6_countVisitedPairs_134 rfl ?_
        refine G_iload dX6_countVisitedPairs_136 rfl ?_
        refine G_iload dX6_countVisitedPairs_138 rfl ?_
        refine G_iconst (v := 1) dX6_countVisitedPairs_140 (by decide) ?_
        refine G_iadd dX6_countVisitedPairs_141 ?_
        rw [nI_1 j]
        refine G_cSi (As := [_, _, _, _, _, _]) dX6_countVisitedPairs_142 kT_X6_countVisitedPairs wml_X6_220 (ih _ _) rfl rfl (by omega) ⟨Nat.le_refl 0, Nat.le_refl 0⟩ (Nat.le_of_ble_eq_true rfl) ?_
        refine G_iadd dX6_countVisitedPairs_145 ?_
        refine GS_istore (L' := [(8, _), (12, _), (11, _), (10, _), (9, _), (7, _), (6, _), (0, _), (1, _), (2, _), (3, _), (4, _), (5, _)]) dX6_countVisitedPairs_146 (by decide) rfl ?_
        refine GS_iinc (v := 1) (L' := [(11, _), (8, _), (12, _), (10, _), (9, _), (7, _), (6, _), (0, _), (1, _), (2, _), (3, _), (4, _), (5, _)]) dX6_countVisitedPairs_148 rfl (by decide) (by decide) rfl ?_
        refine G_goto (tgt := 98) dX6_countVisitedPairs_151 (by decide) ?_
        refine G_sub [0, 3, 4, 1, 5, 6, 7, 8, 9, 10, 11, 12] rfl ?_
        rw [nI_1 q]
        exact z
      · refine G_iload_n dX6_countVisitedPairs_115 rfl ?_
        refine G_goto (tgt := 126) dX6_countVisitedPairs_116 (by decide) ?_
        first
          | rw [show belV S t' v (nI q) = dnV S t' v q by unfold dnV; rw [if_neg c_112]]
          | (have e9 : dnV S t' v q = v := by (unfold dnV; rw [if_pos c_112])
             rw [show G K MX6_countVisitedPairs (f + 11) 0 0 0 0 126 _ [.int v] (hp ly S) Qc XC = G K MX6_countVisitedPairs (f + 11) 0 0 0 0 126 _ [.int (dnV S t' v q)] (hp ly S) Qc XC by rw [e9]])
        refine GS_istore (L' := [(12, _), (11, _), (10, _), (9, _), (8, _), (7, _), (6, _), (0, _), (1, _), (2, _), (3, _), (4, _), (5, _)]) dX6_countVisitedPairs_126 (by decide) rfl ?_
        refine G_iload dX6_countVisitedPairs_128 rfl ?_
        refine G_aload_n dX6_countVisitedPairs_130 rfl ?_
        refine G_iload dX6_countVisitedPairs_131 rfl ?_
        refine G_aload_n dX6_countVisitedPairs_133 rfl ?_
        refine G_iload dX6_countVisitedPairs_134 rfl ?_
        refine G_iload dX6_countVisitedPairs_136 rfl ?_
        refine G_iload dX6_countVisitedPairs_138 rfl ?_
        refine G_iconst (v := 1) dX6_countVisitedPairs_140 (by decide) ?_
        refine G_iadd dX6_countVisitedPairs_141 ?_
        rw [nI_1 j]
        refine G_cSi (As := [_, _, _, _, _, _]) dX6_countVisitedPairs_142 kT_X6_countVisitedPairs wml_X6_220 (ih _ _) rfl rfl (by omega) ⟨Nat.le_refl 0, Nat.le_refl 0⟩ (Nat.le_of_ble_eq_true rfl) ?_
        refine G_iadd dX6_countVisitedPairs_145 ?_
        refine GS_istore (L' := [(8, _), (12, _), (11, _), (10, _), (9, _), (7, _), (6, _), (0, _), (1, _), (2, _), (3, _), (4, _), (5, _)]) dX6_countVisitedPairs_146 (by decide) rfl ?_
        refine GS_iinc (v := 1) (L' := [(11, _), (8, _), (12, _), (10, _), (9, _), (7, _), (6, _), (0, _), (1, _), (2, _), (3, _), (4, _), (5, _)]) dX6_countVisitedPairs_148 rfl (by decide) (by decide) rfl ?_
        refine G_goto (tgt := 98) dX6_countVisitedPairs_151 (by decide) ?_
        refine G_sub [0, 3, 4, 1, 5, 6, 7, 8, 9, 10, 11, 12] rfl ?_
        rw [nI_1 q]
        exact z
    · refine G_iload dX6_countVisitedPairs_103 rfl ?_
      refine G_iload dX6_countVisitedPairs_105 rfl ?_
      refine G_icmp_ge (tgt := 154) dX6_countVisitedPairs_107 (by decide) (fun c_107 => ?_) (fun c_107 => ?_)
      · rw [hn] at c_107
        exact absurd c_107 (nI_ge (show q < n by
          have h9 : ¬ q = 0 := fun e => c_100 (by rw [e]; rfl)
          have h8 : q < if n = 0 then 1 else n := by rw [← hb]; omega
          split at h8 <;> omega) (by omega))
      · refine G_iload dX6_countVisitedPairs_110 rfl ?_
        refine G_if_ne (tgt := 119) dX6_countVisitedPairs_112 (by decide) (fun c_112 => ?_) (fun c_112 => ?_)
        · refine G_aload_n dX6_countVisitedPairs_119 rfl ?_
          refine G_iload_n dX6_countVisitedPairs_120 rfl ?_
          refine G_iload dX6_countVisitedPairs_121 rfl ?_
          refine G_cVi (As := [_, _]) dX6_countVisitedPairs_123 kV_X5_belowAt wml_X6_346 (sp_X5_belowAt ht') rfl (cTree ht') rfl rfl rfl (by omega) ⟨Nat.le_refl 0, Nat.le_refl 0⟩ (Nat.le_of_ble_eq_true rfl) ?_
          first
            | rw [show belV S t' v (nI q) = dnV S t' v q by unfold dnV; rw [if_neg c_112]]
            | (have e9 : dnV S t' v q = v := by (unfold dnV; rw [if_pos c_112])
               rw [show G K MX6_countVisitedPairs (f + 11) 0 0 0 0 126 _ [.int v] (hp ly S) Qc XC = G K MX6_countVisitedPairs (f + 11) 0 0 0 0 126 _ [.int (dnV S t' v q)] (hp ly S) Qc XC by rw [e9]])
          refine GS_istore (L' := [(12, _), (11, _), (10, _), (9, _), (8, _), (7, _), (6, _), (0, _), (1, _), (2, _), (3, _), (4, _), (5, _)]) dX6_countVisitedPairs_126 (by decide) rfl ?_
          refine G_iload dX6_countVisitedPairs_128 rfl ?_
          refine G_aload_n dX6_countVisitedPairs_130 rfl ?_
          refine G_iload dX6_countVisitedPairs_131 rfl ?_
          refine G_aload_n dX6_countVisitedPairs_133 rfl ?_
          refine G_iload dX6_countVisitedPairs_134 rfl ?_
          refine G_iload dX6_countVisitedPairs_136 rfl ?_
          refine G_iload dX6_countVisitedPairs_138 rfl ?_
          refine G_iconst (v := 1) dX6_countVisitedPairs_140 (by decide) ?_
          refine G_iadd dX6_countVisitedPairs_141 ?_
          rw [nI_1 j]
          refine G_cSi (As := [_, _, _, _, _, _]) dX6_countVisitedPairs_142 kT_X6_countVisitedPairs wml_X6_220 (ih _ _) rfl rfl (by omega) ⟨Nat.le_refl 0, Nat.le_refl 0⟩ (Nat.le_of_ble_eq_true rfl) ?_
          refine G_iadd dX6_countVisitedPairs_145 ?_
          refine GS_istore (L' := [(8, _), (12, _), (11, _), (10, _), (9, _), (7, _), (6, _), (0, _), (1, _), (2, _), (3, _), (4, _), (5, _)]) dX6_countVisitedPairs_146 (by decide) rfl ?_
          refine GS_iinc (v := 1) (L' := [(11, _), (8, _), (12, _), (10, _), (9, _), (7, _), (6, _), (0, _), (1, _), (2, _), (3, _), (4, _), (5, _)]) dX6_countVisitedPairs_148 rfl (by decide) (by decide) rfl ?_
          refine G_goto (tgt := 98) dX6_countVisitedPairs_151 (by decide) ?_
          refine G_sub [0, 3, 4, 1, 5, 6, 7, 8, 9, 10, 11, 12] rfl ?_
          rw [nI_1 q]
          exact z
        · refine G_iload_n dX6_countVisitedPairs_115 rfl ?_
          refine G_goto (tgt := 126) dX6_countVisitedPairs_116 (by decide) ?_
          first
            | rw [show belV S t' v (nI q) = dnV S t' v q by unfold dnV; rw [if_neg c_112]]
            | (have e9 : dnV S t' v q = v := by (unfold dnV; rw [if_pos c_112])
               rw [show G K MX6_countVisitedPairs (f + 11) 0 0 0 0 126 _ [.int v] (hp ly S) Qc XC = G K MX6_countVisitedPairs (f + 11) 0 0 0 0 126 _ [.int (dnV S t' v q)] (hp ly S) Qc XC by rw [e9]])
          refine GS_istore (L' := [(12, _), (11, _), (10, _), (9, _), (8, _), (7, _), (6, _), (0, _), (1, _), (2, _), (3, _), (4, _), (5, _)]) dX6_countVisitedPairs_126 (by decide) rfl ?_
          refine G_iload dX6_countVisitedPairs_128 rfl ?_
          refine G_aload_n dX6_countVisitedPairs_130 rfl ?_
          refine G_iload dX6_countVisitedPairs_131 rfl ?_
          refine G_aload_n dX6_countVisitedPairs_133 rfl ?_
          refine G_iload dX6_countVisitedPairs_134 rfl ?_
          refine G_iload dX6_countVisitedPairs_136 rfl ?_
          refine G_iload dX6_countVisitedPairs_138 rfl ?_
          refine G_iconst (v := 1) dX6_countVisitedPairs_140 (by decide) ?_
          refine G_iadd dX6_countVisitedPairs_141 ?_
          rw [nI_1 j]
          refine G_cSi (As := [_, _, _, _, _, _]) dX6_countVisitedPairs_142 kT_X6_countVisitedPairs wml_X6_220 (ih _ _) rfl rfl (by omega) ⟨Nat.le_refl 0, Nat.le_refl 0⟩ (Nat.le_of_ble_eq_true rfl) ?_
          refine G_iadd dX6_countVisitedPairs_145 ?_
          refine GS_istore (L' := [(8, _), (12, _), (11, _), (10, _), (9, _), (7, _), (6, _), (0, _), (1, _), (2, _), (3, _), (4, _), (5, _)]) dX6_countVisitedPairs_146 (by decide) rfl ?_
          refine GS_iinc (v := 1) (L' := [(11, _), (8, _), (12, _), (10, _), (9, _), (7, _), (6, _), (0, _), (1, _), (2, _), (3, _), (4, _), (5, _)]) dX6_countVisitedPairs_148 rfl (by decide) (by decide) rfl ?_
          refine G_goto (tgt := 98) dX6_countVisitedPairs_151 (by decide) ?_
          refine G_sub [0, 3, 4, 1, 5, 6, 7, 8, 9, 10, 11, 12] rfl ?_
          rw [nI_1 q]
          exact z
set_option maxHeartbeats 200000 in
theorem lp_cvO (ht : isTree ly t) (ht' : isTree ly t') (ok' : okC S t') {far : Int32} {f j : Nat} (hj : j < 11) (ih : ∀ u v : Int32, Sp K MX6_countVisitedPairs (f + 10) 0 0 [.ref t, .int u, .ref t', .int v, .int far, .int (nI (j + 1))] (hp ly S) (fun v2 w => v2 = some (.int (cvp S t t' far f u v)) ∧ w = hp ly S) noX) {u v : Int32} (ok : okC S t) : ∀ d q, q + d = nbV S t u → G K MX6_countVisitedPairs (f + 11) 0 0 0 0 65 [(9, .int (nI q)), (8, .int (1 + smI (fun i => smI (fun j2 => cvp S t t' far f (dnV S t u i) (dnV S t' v j2)) (nbV S t' v)) q)), (7, .int (rat (tCt S t') 1205 v)), (6, .int (rat (tCt S t) 1205 u)), (0, .ref t), (1, .int u), (2, .ref t'), (3, .int v), (4, .int far), (5, .int (nI j))] [] (hp ly S) (QcP K (fun v2 w => v2 = some (.int (1 + smI (fun i => smI (fun j2 => cvp S t t' far f (dnV S t u i) (dnV S t' v j2)) (nbV S t' v)) (nbV S t u))) ∧ w = hp ly S)) (XcP K noX) := by
  obtain ⟨n, hn8, hn⟩ := ok u
  have hb : nbV S t u = if n = 0 then 1 else n := by
    unfold nbV
    rw [hn]
    rcases Nat.eq_zero_or_pos n with e | e
    · subst e; rfl
    · rw [if_neg (nI_ne0 e (by omega)), if_neg (by omega), nI_clamp (by omega)]
  have hb8 : nbV S t u ≤ 8 := by rw [hb]; split <;> omega
  have hb1 : 1 ≤ nbV S t u := by rw [hb]; split <;> omega
  intro d
  induction d with
  | zero =>
    intro q hq
    obtain rfl : q = nbV S t u := by omega
    refine G_iload dX6_countVisitedPairs_65 rfl ?_
    refine G_if_eq (tgt := 77) dX6_countVisitedPairs_67 (by decide) (fun c_67 => ?_) (fun c_67 => ?_)
    · exact absurd c_67 (nI_ne0 (by omega) (by omega))
    · refine G_iload dX6_countVisitedPairs_70 rfl ?_
      refine G_iload dX6_countVisitedPairs_72 rfl ?_
      refine G_icmp_ge (tgt := 160) dX6_countVisitedPairs_74 (by decide) (fun c_74 => ?_) (fun c_74 => ?_)
      · refine G_iload dX6_countVisitedPairs_160 rfl ?_
        exact G_iret dX6_countVisitedPairs_162 rfl rfl ⟨Nat.le_refl 0, Nat.le_refl 0⟩ ⟨rfl, rfl⟩
      · rw [hn] at c_74
        exact absurd (nI_le (show n ≤ nbV S t u by rw [hb]; split <;> omega) (by omega)) c_74
  | succ d ih2 =>
    intro q hq
    have z := ih2 (q + 1) (by omega)
    rw [smI, ← Int32_a] at z
    refine G_iload dX6_countVisitedPairs_65 rfl ?_
    refine G_if_eq (tgt := 77) dX6_countVisitedPairs_67 (by decide) (fun c_67 => ?_) (fun c_67 => ?_)
    · refine G_iload dX6_countVisitedPairs_77 rfl ?_
      refine G_if_ne (tgt := 86) dX6_countVisitedPairs_79 (by decide) (fun c_79 => ?_) (fun c_79 => ?_)
      · refine G_aload_n dX6_countVisitedPairs_86 rfl ?_
        refine G_iload_n dX6_countVisitedPairs_87 rfl ?_
        refine G_iload dX6_countVisitedPairs_88 rfl ?_
        refine G_cVi (As := [_, _]) dX6_countVisitedPairs_90 kV_X5_belowAt wml_X6_346 (sp_X5_belowAt ht) rfl (cTree ht) rfl rfl rfl (by omega) ⟨Nat.le_refl 0, Nat.le_refl 0⟩ (Nat.le_of_ble_eq_true rfl) ?_
        first
          | rw [show belV S t u (nI q) = dnV S t u q by unfold dnV; rw [if_neg c_79]]
          | (have e9 : dnV S t u q = u := by (unfold dnV; rw [if_pos c_79])
             rw [show G K MX6_countVisitedPairs (f + 11) 0 0 0 0 93 _ [.int u] (hp ly S) _ _ = G K MX6_countVisitedPairs (f + 11) 0 0 0 0 93 _ [.int (dnV S t u q)] (hp ly S) _ _ by rw [e9]])
        refine GS_istore (L' := [(10, _), (9, _), (8, _), (7, _), (6, _), (0, _), (1, _), (2, _), (3, _), (4, _), (5, _)]) dX6_countVisitedPairs_93 (by decide) rfl ?_
        refine G_iconst (v := 0) dX6_countVisitedPairs_95 (by decide) ?_
        refine GS_istore (L' := [(11, _), (10, _), (9, _), (8, _), (7, _), (6, _), (0, _), (1, _), (2, _), (3, _), (4, _), (5, _)]) dX6_countVisitedPairs_96 (by decide) rfl ?_
        refine G_sub [0, 1, 2, 3, 4, 5, 6, 7, 8, 9, 10, 11] rfl ?_
        have y := lp_cvI (i := q) (base := 1 + smI (fun i => smI (fun j2 => cvp S t t' far f (dnV S t u i) (dnV S t' v j2)) (nbV S t' v)) q) ht ht' ok' hj ih z (nbV S t' v) 0 (by omega)
        rw [show smI _ 0 = 0 from rfl, Int32.add_zero] at y
        exact y
      · refine G_iload_n dX6_countVisitedPairs_82 rfl ?_
        refine G_goto (tgt := 93) dX6_countVisitedPairs_83 (by decide) ?_
        first
          | rw [show belV S t u (nI q) = dnV S t u q by unfold dnV; rw [if_neg c_79]]
          | (have e9 : dnV S t u q = u := by (unfold dnV; rw [if_pos c_79])
             rw [show G K MX6_countVisitedPairs (f + 11) 0 0 0 0 93 _ [.int u] (hp ly S) _ _ = G K MX6_countVisitedPairs (f + 11) 0 0 0 0 93 _ [.int (dnV S t u q)] (hp ly S) _ _ by rw [e9]])
        refine GS_istore (L' := [(10, _), (9, _), (8, _), (7, _), (6, _), (0, _), (1, _), (2, _), (3, _), (4, _), (5, _)]) dX6_countVisitedPairs_93 (by decide) rfl ?_
        refine G_iconst (v := 0) dX6_countVisitedPairs_95 (by decide) ?_
        refine GS_istore (L' := [(11, _), (10, _), (9, _), (8, _), (7, _), (6, _), (0, _), (1, _), (2, _), (3, _), (4, _), (5, _)]) dX6_countVisitedPairs_96 (by decide) rfl ?_
        refine G_sub [0, 1, 2, 3, 4, 5, 6, 7, 8, 9, 10, 11] rfl ?_
        have y := lp_cvI (i := q) (base := 1 + smI (fun i => smI (fun j2 => cvp S t t' far f (dnV S t u i) (dnV S t' v j2)) (nbV S t' v)) q) ht ht' ok' hj ih z (nbV S t' v) 0 (by omega)
        rw [show smI _ 0 = 0 from rfl, Int32.add_zero] at y
        exact y
    · refine G_iload dX6_countVisitedPairs_70 rfl ?_
      refine G_iload dX6_countVisitedPairs_72 rfl ?_
      refine G_icmp_ge (tgt := 160) dX6_countVisitedPairs_74 (by decide) (fun c_74 => ?_) (fun c_74 => ?_)
      · rw [hn] at c_74
        exact absurd c_74 (nI_ge (show q < n by
          have h9 : ¬ q = 0 := fun e => c_67 (by rw [e]; rfl)
          have h8 : q < if n = 0 then 1 else n := by rw [← hb]; omega
          split at h8 <;> omega) (by omega))
      · refine G_iload dX6_countVisitedPairs_77 rfl ?_
        refine G_if_ne (tgt := 86) dX6_countVisitedPairs_79 (by decide) (fun c_79 => ?_) (fun c_79 => ?_)
        · refine G_aload_n dX6_countVisitedPairs_86 rfl ?_
          refine G_iload_n dX6_countVisitedPairs_87 rfl ?_
          refine G_iload dX6_countVisitedPairs_88 rfl ?_
          refine G_cVi (As := [_, _]) dX6_countVisitedPairs_90 kV_X5_belowAt wml_X6_346 (sp_X5_belowAt ht) rfl (cTree ht) rfl rfl rfl (by omega) ⟨Nat.le_refl 0, Nat.le_refl 0⟩ (Nat.le_of_ble_eq_true rfl) ?_
          first
            | rw [show belV S t u (nI q) = dnV S t u q by unfold dnV; rw [if_neg c_79]]
            | (have e9 : dnV S t u q = u := by (unfold dnV; rw [if_pos c_79])
               rw [show G K MX6_countVisitedPairs (f + 11) 0 0 0 0 93 _ [.int u] (hp ly S) _ _ = G K MX6_countVisitedPairs (f + 11) 0 0 0 0 93 _ [.int (dnV S t u q)] (hp ly S) _ _ by rw [e9]])
          refine GS_istore (L' := [(10, _), (9, _), (8, _), (7, _), (6, _), (0, _), (1, _), (2, _), (3, _), (4, _), (5, _)]) dX6_countVisitedPairs_93 (by decide) rfl ?_
          refine G_iconst (v := 0) dX6_countVisitedPairs_95 (by decide) ?_
          refine GS_istore (L' := [(11, _), (10, _), (9, _), (8, _), (7, _), (6, _), (0, _), (1, _), (2, _), (3, _), (4, _), (5, _)]) dX6_countVisitedPairs_96 (by decide) rfl ?_
          refine G_sub [0, 1, 2, 3, 4, 5, 6, 7, 8, 9, 10, 11] rfl ?_
          have y := lp_cvI (i := q) (base := 1 + smI (fun i => smI (fun j2 => cvp S t t' far f (dnV S t u i) (dnV S t' v j2)) (nbV S t' v)) q) ht ht' ok' hj ih z (nbV S t' v) 0 (by omega)
          rw [show smI _ 0 = 0 from rfl, Int32.add_zero] at y
          exact y
        · refine G_iload_n dX6_countVisitedPairs_82 rfl ?_
          refine G_goto (tgt := 93) dX6_countVisitedPairs_83 (by decide) ?_
          first
            | rw [show belV S t u (nI q) = dnV S t u q by unfold dnV; rw [if_neg c_79]]
            | (have e9 : dnV S t u q = u := by (unfold dnV; rw [if_pos c_79])
               rw [show G K MX6_countVisitedPairs (f + 11) 0 0 0 0 93 _ [.int u] (hp ly S) _ _ = G K MX6_countVisitedPairs (f + 11) 0 0 0 0 93 _ [.int (dnV S t u q)] (hp ly S) _ _ by rw [e9]])
          refine GS_istore (L' := [(10, _), (9, _), (8, _), (7, _), (6, _), (0, _), (1, _), (2, _), (3, _), (4, _), (5, _)]) dX6_countVisitedPairs_93 (by decide) rfl ?_
          refine G_iconst (v := 0) dX6_countVisitedPairs_95 (by decide) ?_
          refine GS_istore (L' := [(11, _), (10, _), (9, _), (8, _), (7, _), (6, _), (0, _), (1, _), (2, _), (3, _), (4, _), (5, _)]) dX6_countVisitedPairs_96 (by decide) rfl ?_
          refine G_sub [0, 1, 2, 3, 4, 5, 6, 7, 8, 9, 10, 11] rfl ?_
          have y := lp_cvI (i := q) (base := 1 + smI (fun i => smI (fun j2 => cvp S t t' far f (dnV S t u i) (dnV S t' v j2)) (nbV S t' v)) q) ht ht' ok' hj ih z (nbV S t' v) 0 (by omega)
          rw [show smI _ 0 = 0 from rfl, Int32.add_zero] at y
          exact y
set_option maxHeartbeats 200000 in
theorem sp_cvp (ht : isTree ly t) (ht' : isTree ly t') (ok : okC S t) (ok' : okC S t') {far : Int32} : ∀ f j, j + f = 11 → ∀ u v : Int32, Sp K MX6_countVisitedPairs (f + 10) 0 0 [.ref t, .int u, .ref t', .int v, .int far, .int (nI j)] (hp ly S) (fun v2 w => v2 = some (.int (cvp S t t' far f u v)) ∧ w = hp ly S) noX := by
  intro f
  induction f with
  | zero =>
    intro j hj u v
    obtain rfl : j = 11 := by omega
    refine Sp_of (by decide) (Nat.le_of_ble_eq_true rfl) ?_
    refine G_iload dX6_countVisitedPairs_0 rfl ?_
    refine G_bipush (v := 11) dX6_countVisitedPairs_2 (by decide) ?_
    refine G_icmp_lt (tgt := 9) dX6_countVisitedPairs_4 (by decide) (fun c_4 => ?_) (fun c_4 => ?_)
    · exact absurd c_4 (by decide)
    · refine G_iconst (v := 0) dX6_countVisitedPairs_7 (by decide) ?_
      exact G_iret dX6_countVisitedPairs_8 rfl rfl ⟨Nat.le_refl 0, Nat.le_refl 0⟩ ⟨rfl, rfl⟩
  | succ f ih =>
    intro j hj u v
    have hj11 : j < 11 := by omega
    refine Sp_of (by decide) (Nat.le_of_ble_eq_true rfl) ?_
    refine G_iload dX6_countVisitedPairs_0 rfl ?_
    refine G_bipush (v := 11) dX6_countVisitedPairs_2 (by decide) ?_
    refine G_icmp_lt (tgt := 9) dX6_countVisitedPairs_4 (by decide) (fun c_4 => ?_) (fun c_4 => ?_)
    · refine G_aload_n dX6_countVisitedPairs_9 rfl ?_
      refine G_getN (k := 4) dX6_countVisitedPairs_10 (cTree ht) rfl wfn_X6_197 (by decide) rfl ?_
      refine G_iload_n dX6_countVisitedPairs_13 rfl ?_
      refine G_cVi (As := [_]) dX6_countVisitedPairs_14 kV_X3_at wml_X6_116 (sp_X3_at (tCount ht)) rfl (cRow (tCount ht)) rfl rfl rfl (by omega) ⟨Nat.le_refl 0, Nat.le_refl 0⟩ (Nat.le_of_ble_eq_true rfl) ?_
      refine GS_istore (L' := [(6, _), (0, _), (1, _), (2, _), (3, _), (4, _), (5, _)]) dX6_countVisitedPairs_17 (by decide) rfl ?_
      refine G_aload_n dX6_countVisitedPairs_19 rfl ?_
      refine G_getN (k := 4) dX6_countVisitedPairs_20 (cTree ht') rfl wfn_X6_197 (by decide) rfl ?_
      refine G_iload_n dX6_countVisitedPairs_23 rfl ?_
      refine G_cVi (As := [_]) dX6_countVisitedPairs_24 kV_X3_at wml_X6_116 (sp_X3_at (tCount ht')) rfl (cRow (tCount ht')) rfl rfl rfl (by omega) ⟨Nat.le_refl 0, Nat.le_refl 0⟩ (Nat.le_of_ble_eq_true rfl) ?_
      refine GS_istore (L' := [(7, _), (6, _), (0, _), (1, _), (2, _), (3, _), (4, _), (5, _)]) dX6_countVisitedPairs_27 (by decide) rfl ?_
      refine G_iload dX6_countVisitedPairs_29 rfl ?_
      refine G_if_ne (tgt := 39) dX6_countVisitedPairs_31 (by decide) (fun c_31 => ?_) (fun c_31 => ?_)
      · refine G_aload_n dX6_countVisitedPairs_39 rfl ?_
        refine G_getN (k := 0) dX6_countVisitedPairs_40 (cTree ht) rfl wfn_X6_172 (by decide) rfl ?_
        refine G_iload_n dX6_countVisitedPairs_43 rfl ?_
        refine G_aload_n dX6_countVisitedPairs_44 rfl ?_
        refine G_getN (k := 0) dX6_countVisitedPairs_45 (cTree ht') rfl wfn_X6_172 (by decide) rfl ?_
        refine G_iload_n dX6_countVisitedPairs_48 rfl ?_
        refine G_cVi (As := [_, _, _]) dX6_countVisitedPairs_49 kV_X0_farBetween wml_X6_342 (sp_X0_farBetween (bTree ht) (bTree ht')) rfl (cBox (bTree ht)) rfl rfl rfl (by omega) ⟨Nat.le_refl 0, Nat.le_refl 0⟩ (Nat.le_of_ble_eq_true rfl) ?_
        refine G_iload dX6_countVisitedPairs_52 rfl ?_
        refine G_icmp_le (tgt := 59) dX6_countVisitedPairs_54 (by decide) (fun c_54 => ?_) (fun c_54 => ?_)
        · refine G_iconst (v := 1) dX6_countVisitedPairs_59 (by decide) ?_
          refine GS_istore (L' := [(8, _), (7, _), (6, _), (0, _), (1, _), (2, _), (3, _), (4, _), (5, _)]) dX6_countVisitedPairs_60 (by decide) rfl ?_
          refine G_iconst (v := 0) dX6_countVisitedPairs_62 (by decide) ?_
          refine GS_istore (L' := [(9, _), (8, _), (7, _), (6, _), (0, _), (1, _), (2, _), (3, _), (4, _), (5, _)]) dX6_countVisitedPairs_63 (by decide) rfl ?_
          refine G_sub [0, 1, 2, 3, 4, 5, 6, 7, 8, 9] rfl ?_
          first
            | (have e9 : cvp S t t' far (f + 1) u v = 1 + smI (fun i => smI (fun j2 => cvp S t t' far f (dnV S t u i) (dnV S t' v j2)) (nbV S t' v)) (nbV S t u) := by (rw [cvp, if_neg (fun q => q.elim (fun q => c_31 q.1) (fun q => absurd (Int32.lt_of_lt_of_le q c_54) Int32.lt_irrefl))])
               rw [e9]
               exact lp_cvO ht ht' ok' hj11 (ih (j + 1) (by omega)) ok (nbV S t u) 0 (by omega))
            | (have e9 : cvp S t t' far (f + 1) u v = 1 + smI (fun i => smI (fun j2 => cvp S t t' far f (dnV S t u i) (dnV S t' v j2)) (nbV S t' v)) (nbV S t u) := by (rw [cvp, if_neg (fun q => q.elim (fun q => c_36 q.2) (fun q => absurd (Int32.lt_of_lt_of_le q c_54) Int32.lt_irrefl))])
               rw [e9]
               exact lp_cvO ht ht' ok' hj11 (ih (j + 1) (by omega)) ok (nbV S t u) 0 (by omega))
        · refine G_iconst (v := 1) dX6_countVisitedPairs_57 (by decide) ?_
          exact G_iret dX6_countVisitedPairs_58 rfl rfl ⟨Nat.le_refl 0, Nat.le_refl 0⟩ ⟨by rw [cvp]; first | rw [if_pos (Or.inr (i32_nle c_54))] | rw [if_pos (Or.inl ⟨c_31, c_36⟩)], rfl⟩
      · refine G_iload dX6_countVisitedPairs_34 rfl ?_
        refine G_if_eq (tgt := 57) dX6_countVisitedPairs_36 (by decide) (fun c_36 => ?_) (fun c_36 => ?_)
        · refine G_iconst (v := 1) dX6_countVisitedPairs_57 (by decide) ?_
          exact G_iret dX6_countVisitedPairs_58 rfl rfl ⟨Nat.le_refl 0, Nat.le_refl 0⟩ ⟨by rw [cvp]; first | rw [if_pos (Or.inr (i32_nle c_54))] | rw [if_pos (Or.inl ⟨c_31, c_36⟩)], rfl⟩
        · refine G_aload_n dX6_countVisitedPairs_39 rfl ?_
          refine G_getN (k := 0) dX6_countVisitedPairs_40 (cTree ht) rfl wfn_X6_172 (by decide) rfl ?_
          refine G_iload_n dX6_countVisitedPairs_43 rfl ?_
          refine G_aload_n dX6_countVisitedPairs_44 rfl ?_
          refine G_getN (k := 0) dX6_countVisitedPairs_45 (cTree ht') rfl wfn_X6_172 (by decide) rfl ?_
          refine G_iload_n dX6_countVisitedPairs_48 rfl ?_
          refine G_cVi (As := [_, _, _]) dX6_countVisitedPairs_49 kV_X0_farBetween wml_X6_342 (sp_X0_farBetween (bTree ht) (bTree ht')) rfl (cBox (bTree ht)) rfl rfl rfl (by omega) ⟨Nat.le_refl 0, Nat.le_refl 0⟩ (Nat.le_of_ble_eq_true rfl) ?_
          refine G_iload dX6_countVisitedPairs_52 rfl ?_
          refine G_icmp_le (tgt := 59) dX6_countVisitedPairs_54 (by decide) (fun c_54 => ?_) (fun c_54 => ?_)
          · refine G_iconst (v := 1) dX6_countVisitedPairs_59 (by decide) ?_
            refine GS_istore (L' := [(8, _), (7, _), (6, _), (0, _), (1, _), (2, _), (3, _), (4, _), (5, _)]) dX6_countVisitedPairs_60 (by decide) rfl ?_
            refine G_iconst (v := 0) dX6_countVisitedPairs_62 (by decide) ?_
            refine GS_istore (L' := [(9, _), (8, _), (7, _), (6, _), (0, _), (1, _), (2, _), (3, _), (4, _), (5, _)]) dX6_countVisitedPairs_63 (by decide) rfl ?_
            refine G_sub [0, 1, 2, 3, 4, 5, 6, 7, 8, 9] rfl ?_
            first
              | (have e9 : cvp S t t' far (f + 1) u v = 1 + smI (fun i => smI (fun j2 => cvp S t t' far f (dnV S t u i) (dnV S t' v j2)) (nbV S t' v)) (nbV S t u) := by (rw [cvp, if_neg (fun q => q.elim (fun q => c_31 q.1) (fun q => absurd (Int32.lt_of_lt_of_le q c_54) Int32.lt_irrefl))])
                 rw [e9]
                 exact lp_cvO ht ht' ok' hj11 (ih (j + 1) (by omega)) ok (nbV S t u) 0 (by omega))
              | (have e9 : cvp S t t' far (f + 1) u v = 1 + smI (fun i => smI (fun j2 => cvp S t t' far f (dnV S t u i) (dnV S t' v j2)) (nbV S t' v)) (nbV S t u) := by (rw [cvp, if_neg (fun q => q.elim (fun q => c_36 q.2) (fun q => absurd (Int32.lt_of_lt_of_le q c_54) Int32.lt_irrefl))])
                 rw [e9]
                 exact lp_cvO ht ht' ok' hj11 (ih (j + 1) (by omega)) ok (nbV S t u) 0 (by omega))
          · refine G_iconst (v := 1) dX6_countVisitedPairs_57 (by decide) ?_
            exact G_iret dX6_countVisitedPairs_58 rfl rfl ⟨Nat.le_refl 0, Nat.le_refl 0⟩ ⟨by rw [cvp]; first | rw [if_pos (Or.inr (i32_nle c_54))] | rw [if_pos (Or.inl ⟨c_31, c_36⟩)], rfl⟩
    · exact absurd (show nI j < nI 11 from nI_lt hj11 (by decide)) c_4
end AQ
