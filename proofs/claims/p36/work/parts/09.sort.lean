section RS
variable {K : GK} {r a n : Nat}
theorem i32_nle {x y : Int32} (h : ¬ x ≤ y) : y < x := by
  rw [Int32.lt_iff_toInt_lt]; rw [Int32.le_iff_toInt_le] at h; omega
theorem i32_nlt {x y : Int32} (h : ¬ x < y) : y ≤ x := by
  rw [Int32.le_iff_toInt_le]; rw [Int32.lt_iff_toInt_lt] at h; omega
theorem lp_sortIn (hra : a ≠ r) (hn : n < 2 ^ 30) (a0 i b0 : Nat) (key : Int32) (ha0 : a0 < 2 ^ 30) {Qc : Array Value → State → Outcome → State → Prop} {XC : String → State → State → Prop} : ∀ (hole : Nat) (h : VH) (f : Nat → Int32), hole < n → h.2[r]? = some (.inr (3, [.ref a])) → h.2[a]? = some (.inl (0, n, .inl f)) →
    G K MX3_sortPart 2 0 0 0 0 91 [(5, .int (nI i)), (3, .int (nI a0)), (4, .int (nI b0)), (0, .ref r)] [] (h.1, h.2.set a (.inl (0, n, .inl (insA f a0 key hole)))) Qc XC →
    G K MX3_sortPart 2 0 0 0 0 40 [(7, .int (nI hole)), (6, .int key), (5, .int (nI i)), (3, .int (nI a0)), (4, .int (nI b0)), (0, .ref r)] [] h Qc XC := by
  intro hole
  induction hole with
  | zero =>
    intro h f hh hr ha hp
    refine G_iload dX3_sortPart_40 rfl ?_
    refine G_iload_n dX3_sortPart_42 rfl ?_
    refine G_icmp_le (tgt := 82) dX3_sortPart_43 (by decide) (fun c_43 => ?_) (fun c_43 => ?_)
    · refine G_aload_n dX3_sortPart_82 rfl ?_
      refine G_get (k := 0) dX3_sortPart_83 hr rfl wfl_X3_13 (by decide) rfl ?_
      refine G_iload dX3_sortPart_86 rfl ?_
      refine G_iload dX3_sortPart_88 rfl ?_
      refine G_iast dX3_sortPart_90 ha (vp_in_nI hh (by omega)) ?_
      refine G_sub [2, 3, 4, 5] rfl ?_
      rw [nI_clamp (show 0 < 2 ^ 31 by omega)]
      exact hp
    · exact absurd (nI_le (Nat.zero_le a0) (by omega)) c_43
  | succ hole ih =>
    intro h f hh hr ha hp
    rcases Nat.lt_or_ge a0 (hole + 1) with hlt | hge
    · refine G_iload dX3_sortPart_40 rfl ?_
      refine G_iload_n dX3_sortPart_42 rfl ?_
      refine G_icmp_le (tgt := 82) dX3_sortPart_43 (by decide) (fun c_43 => ?_) (fun c_43 => ?_)
      · exact absurd c_43 (nI_ge hlt (by omega))
      · refine G_aload_n dX3_sortPart_46 rfl ?_
        refine G_get (k := 0) dX3_sortPart_47 hr rfl wfl_X3_13 (by decide) rfl ?_
        refine G_iload dX3_sortPart_50 rfl ?_
        refine G_iconst (v := 1) dX3_sortPart_52 (by decide) ?_
        refine G_isub dX3_sortPart_53 ?_
        rw [nI_pred hole]
        refine G_iald dX3_sortPart_54 ha (vp_in_nI (show hole < n by omega) (by omega)) ?_
        refine G_iload dX3_sortPart_55 rfl ?_
        refine G_icmp_le (tgt := 82) dX3_sortPart_57 (by decide) (fun c_57 => ?_) (fun c_57 => ?_)
        · refine G_aload_n dX3_sortPart_82 rfl ?_
          refine G_get (k := 0) dX3_sortPart_83 hr rfl wfl_X3_13 (by decide) rfl ?_
          refine G_iload dX3_sortPart_86 rfl ?_
          refine G_iload dX3_sortPart_88 rfl ?_
          refine G_iast dX3_sortPart_90 ha (vp_in_nI hh (by omega)) ?_
          refine G_sub [2, 3, 4, 5] rfl ?_
          rw [nI_clamp (show hole + 1 < 2 ^ 31 by omega)]
          rw [nI_clamp (show hole < 2 ^ 31 by omega)] at c_57
          rw [insA, if_neg (fun q => absurd c_57 (fun z => absurd (Int32.lt_of_lt_of_le q.2 z) (Int32.lt_irrefl)))] at hp
          exact hp
        · refine G_aload_n dX3_sortPart_60 rfl ?_
          refine G_get (k := 0) dX3_sortPart_61 hr rfl wfl_X3_13 (by decide) rfl ?_
          refine G_iload dX3_sortPart_64 rfl ?_
          refine G_aload_n dX3_sortPart_66 rfl ?_
          refine G_get (k := 0) dX3_sortPart_67 hr rfl wfl_X3_13 (by decide) rfl ?_
          refine G_iload dX3_sortPart_70 rfl ?_
          refine G_iconst (v := 1) dX3_sortPart_72 (by decide) ?_
          refine G_isub dX3_sortPart_73 ?_
          rw [nI_pred hole]
          refine G_iald dX3_sortPart_74 ha (vp_in_nI (show hole < n by omega) (by omega)) ?_
          refine G_iast dX3_sortPart_75 ha (vp_in_nI hh (by omega)) ?_
          refine GS_iinc (v := (-1)) (L' := [(7, _), (6, _), (5, _), (3, _), (4, _), (0, _)]) dX3_sortPart_76 rfl (by decide) (by decide) rfl ?_
          refine G_goto (tgt := 40) dX3_sortPart_79 (by decide) ?_
          refine G_sub [0, 1, 2, 3, 4, 5] rfl ?_
          rw [pk_m1 hole, nI_clamp (show hole + 1 < 2 ^ 31 by omega), nI_clamp (show hole < 2 ^ 31 by omega)]
          rw [nI_clamp (show hole < 2 ^ 31 by omega)] at c_57
          refine ih _ _ (by omega) (set_ne hr hra) (set_at ha) ?_
          rw [insA, if_pos ⟨hlt, i32_nle c_57⟩] at hp
          show G K MX3_sortPart 2 0 0 0 0 91 _ [] (h.1, (h.2.set a _).set a _) Qc XC
          rw [List.set_set]
          exact hp
    · refine G_iload dX3_sortPart_40 rfl ?_
      refine G_iload_n dX3_sortPart_42 rfl ?_
      refine G_icmp_le (tgt := 82) dX3_sortPart_43 (by decide) (fun c_43 => ?_) (fun c_43 => ?_)
      · refine G_aload_n dX3_sortPart_82 rfl ?_
        refine G_get (k := 0) dX3_sortPart_83 hr rfl wfl_X3_13 (by decide) rfl ?_
        refine G_iload dX3_sortPart_86 rfl ?_
        refine G_iload dX3_sortPart_88 rfl ?_
        refine G_iast dX3_sortPart_90 ha (vp_in_nI hh (by omega)) ?_
        refine G_sub [2, 3, 4, 5] rfl ?_
        rw [nI_clamp (show hole + 1 < 2 ^ 31 by omega)]
        rw [insA, if_neg (fun q => by omega)] at hp
        exact hp
      · exact absurd (nI_le hge (by omega)) c_43
theorem lp_sortOut (hra : a ≠ r) (hn : n < 2 ^ 30) (a0 b0 : Nat) (ha0 : a0 < 2 ^ 30) (hb0 : b0 ≤ n) (P : Option Value → VH → Prop) : ∀ (c i : Nat) (h : VH) (f : Nat → Int32), i + c = b0 → h.2[r]? = some (.inr (3, [.ref a])) → h.2[a]? = some (.inl (0, n, .inl f)) →
    P none (h.1, h.2.set a (.inl (0, n, .inl (srtA f a0 i c)))) →
    G K MX3_sortPart 2 0 0 0 0 20 [(5, .int (nI i)), (3, .int (nI a0)), (4, .int (nI b0)), (0, .ref r)] [] h (QcP K P) (XcP K noX) := by
  intro c
  induction c with
  | zero =>
    intro i h f hi hr ha hp
    refine G_iload dX3_sortPart_20 rfl ?_
    refine G_iload dX3_sortPart_22 rfl ?_
    refine G_icmp_ge (tgt := 97) dX3_sortPart_24 (by decide) (fun c_24 => ?_) (fun c_24 => ?_)
    · exact G_vret dX3_sortPart_97 rfl ⟨Nat.le_refl 0, Nat.le_refl 0⟩ (by rw [srtA, set_same ha] at hp; exact hp)
    · exact absurd (nI_le (show b0 ≤ i by omega) (by omega)) c_24
  | succ c ih =>
    intro i h f hi hr ha hp
    refine G_iload dX3_sortPart_20 rfl ?_
    refine G_iload dX3_sortPart_22 rfl ?_
    refine G_icmp_ge (tgt := 97) dX3_sortPart_24 (by decide) (fun c_24 => ?_) (fun c_24 => ?_)
    · exact absurd c_24 (nI_ge (show i < b0 by omega) (by omega))
    · refine G_aload_n dX3_sortPart_27 rfl ?_
      refine G_get (k := 0) dX3_sortPart_28 hr rfl wfl_X3_13 (by decide) rfl ?_
      refine G_iload dX3_sortPart_31 rfl ?_
      refine G_iald dX3_sortPart_33 ha (vp_in_nI (show i < n by omega) (by omega)) ?_
      refine GS_istore (L' := [(6, _), (5, _), (3, _), (4, _), (0, _)]) dX3_sortPart_34 (by decide) rfl ?_
      refine G_iload dX3_sortPart_36 rfl ?_
      refine GS_istore (L' := [(7, _), (6, _), (5, _), (3, _), (4, _), (0, _)]) dX3_sortPart_38 (by decide) rfl ?_
      refine G_sub [0, 1, 2, 3, 4, 5] rfl ?_
      rw [nI_clamp (show i < 2 ^ 31 by omega)]
      refine lp_sortIn hra hn a0 i b0 (f i) ha0 i h f (by omega) hr ha ?_
      refine GS_iinc (v := 1) (L' := [(5, _), (3, _), (4, _), (0, _)]) dX3_sortPart_91 rfl (by decide) (by decide) rfl ?_
      refine G_goto (tgt := 20) dX3_sortPart_94 (by decide) ?_
      refine G_sub [0, 1, 2, 3] rfl ?_
      rw [nI_1 i]
      refine ih (i + 1) _ _ (by omega) (set_ne hr hra) (set_at ha) ?_
      show P none (h.1, (h.2.set a _).set a _)
      rw [List.set_set]
      exact hp
theorem sp_X3_sortPart0 {h : VH} {f : Nat → Int32} (hr : h.2[r]? = some (.inr (3, [.ref a]))) (ha : h.2[a]? = some (.inl (0, n, .inl f))) (hra : a ≠ r) (hn : n < 2 ^ 30) (a0 b0 : Nat) (ha0 : a0 ≤ b0) (hb0 : b0 ≤ n) : Sp K MX3_sortPart 2 0 0 [.ref r, .int (nI a0), .int (nI b0)] h (fun v u => v = none ∧ u = (h.1, h.2.set a (.inl (0, n, .inl (srtA f a0 a0 (b0 - a0)))))) noX := by
  refine Sp_of (by decide) (Nat.le_of_ble_eq_true rfl) ?_
  refine G_iload_n dX3_sortPart_0 rfl ?_
  refine G_iconst (v := 0) dX3_sortPart_1 (by decide) ?_
  refine G_max dX3_sortPart_2 wml_X3_7 (by decide) ⟨Nat.le_refl 0, Nat.le_refl 0⟩ (Nat.le_of_ble_eq_true rfl) ?_
  rw [if_neg (nI_pos (show a0 < 2 ^ 31 by omega))]
  refine GS_istore_n (L' := [(3, _), (0, _), (1, _), (2, _)]) dX3_sortPart_5 (by decide) rfl ?_
  refine G_iload_n dX3_sortPart_6 rfl ?_
  refine G_aload_n dX3_sortPart_7 rfl ?_
  refine G_get (k := 0) dX3_sortPart_8 hr rfl wfl_X3_13 (by decide) rfl ?_
  refine G_alen (t := 0) dX3_sortPart_11 ha rfl ?_
  refine G_min dX3_sortPart_12 wml_X3_19 (by decide) ⟨Nat.le_refl 0, Nat.le_refl 0⟩ (Nat.le_of_ble_eq_true rfl) ?_
  rw [if_neg (nI_nlt hb0 (by omega))]
  refine GS_istore (L' := [(4, _), (3, _), (0, _), (1, _), (2, _)]) dX3_sortPart_15 (by decide) rfl ?_
  refine G_iload_n dX3_sortPart_17 rfl ?_
  refine GS_istore (L' := [(5, _), (4, _), (3, _), (0, _), (1, _), (2, _)]) dX3_sortPart_18 (by decide) rfl ?_
  refine G_sub [0, 2, 1, 3] rfl ?_
  exact lp_sortOut hra hn a0 b0 (by omega) hb0 _ (b0 - a0) a0 h f (by omega) hr ha ⟨rfl, rfl⟩
end RS
section CR
variable {K : GK} {M : MD} {d mc ms uc us pc : Nat} {L : List (Nat × Value)} {h h' : VH} {Qc : Array Value → State → Outcome → State → Prop} {XC : String → State → State → Prop}
/-! calls whose answer and cells are told exactly, that make nothing and throw nothing -/
theorem G_cVi {M' : MD} {n d' a ci idx : Nat} {r : vw_C} {fs As rest st : List Value} {z : Int32} (hdg : decode M.2.1 pc = .ok (.invokevirtual idx, 3)) (hcv : CV M' n) (hlink : Cond.methodLink M.1.cls idx M'.1 ∈ tbG) (hSp : Sp K M' d' 0 0 (.ref a :: As) h (fun v u => v = some (.int z) ∧ u = h') noX) (hst : st = As.reverse ++ .ref a :: rest)
    (hc : h.2[a]? = some (.inr (ci, fs))) (hr : gcl[ci]? = some r) (hrc : r.1 = M'.1.cls) (hn : As.length = n) (hd : d' + 1 ≤ d) (hcs : uc ≤ mc ∧ us ≤ ms) (hw : (rest.map fun v => v.category).sum ≤ 8)
    (kk : G K M d mc ms uc us (pc + 3) L (.int z :: rest) h' Qc XC) : G K M d mc ms uc us pc L st h Qc XC :=
  G_callV hdg hcv hlink hSp hst hc hr hrc hn hd hcs hw (fun v u q => by obtain ⟨rfl, rfl⟩ := q; exact kk) (fun _ _ q => q.elim)
theorem G_cVl {M' : MD} {n d' a ci idx : Nat} {r : vw_C} {fs As rest st : List Value} {z : Int64} (hdg : decode M.2.1 pc = .ok (.invokevirtual idx, 3)) (hcv : CV M' n) (hlink : Cond.methodLink M.1.cls idx M'.1 ∈ tbG) (hSp : Sp K M' d' 0 0 (.ref a :: As) h (fun v u => v = some (.long z) ∧ u = h') noX) (hst : st = As.reverse ++ .ref a :: rest)
    (hc : h.2[a]? = some (.inr (ci, fs))) (hr : gcl[ci]? = some r) (hrc : r.1 = M'.1.cls) (hn : As.length = n) (hd : d' + 1 ≤ d) (hcs : uc ≤ mc ∧ us ≤ ms) (hw : (rest.map fun v => v.category).sum ≤ 8)
    (kk : G K M d mc ms uc us (pc + 3) L (.long z :: rest) h' Qc XC) : G K M d mc ms uc us pc L st h Qc XC :=
  G_callV hdg hcv hlink hSp hst hc hr hrc hn hd hcs hw (fun v u q => by obtain ⟨rfl, rfl⟩ := q; exact kk) (fun _ _ q => q.elim)
theorem G_cVr {M' : MD} {n d' a ci idx : Nat} {r : vw_C} {fs As rest st : List Value} {z : Nat} (hdg : decode M.2.1 pc = .ok (.invokevirtual idx, 3)) (hcv : CV M' n) (hlink : Cond.methodLink M.1.cls idx M'.1 ∈ tbG) (hSp : Sp K M' d' 0 0 (.ref a :: As) h (fun v u => v = some (.ref z) ∧ u = h') noX) (hst : st = As.reverse ++ .ref a :: rest)
    (hc : h.2[a]? = some (.inr (ci, fs))) (hr : gcl[ci]? = some r) (hrc : r.1 = M'.1.cls) (hn : As.length = n) (hd : d' + 1 ≤ d) (hcs : uc ≤ mc ∧ us ≤ ms) (hw : (rest.map fun v => v.category).sum ≤ 8)
    (kk : G K M d mc ms uc us (pc + 3) L (.ref z :: rest) h' Qc XC) : G K M d mc ms uc us pc L st h Qc XC :=
  G_callV hdg hcv hlink hSp hst hc hr hrc hn hd hcs hw (fun v u q => by obtain ⟨rfl, rfl⟩ := q; exact kk) (fun _ _ q => q.elim)
theorem G_cVv {M' : MD} {n d' a ci idx : Nat} {r : vw_C} {fs As rest st : List Value} (hdg : decode M.2.1 pc = .ok (.invokevirtual idx, 3)) (hcv : CV M' n) (hlink : Cond.methodLink M.1.cls idx M'.1 ∈ tbG) (hSp : Sp K M' d' 0 0 (.ref a :: As) h (fun v u => v = none ∧ u = h') noX) (hst : st = As.reverse ++ .ref a :: rest)
    (hc : h.2[a]? = some (.inr (ci, fs))) (hr : gcl[ci]? = some r) (hrc : r.1 = M'.1.cls) (hn : As.length = n) (hd : d' + 1 ≤ d) (hcs : uc ≤ mc ∧ us ≤ ms) (hw : (rest.map fun v => v.category).sum ≤ 8)
    (kk : G K M d mc ms uc us (pc + 3) L rest h' Qc XC) : G K M d mc ms uc us pc L st h Qc XC :=
  G_callV hdg hcv hlink hSp hst hc hr hrc hn hd hcs hw (fun v u q => by obtain ⟨rfl, rfl⟩ := q; exact kk) (fun _ _ q => q.elim)
theorem G_cSi {M' : MD} {n d' idx : Nat} {As rest st : List Value} {z : Int32} (hdg : decode M.2.1 pc = .ok (.invokestatic idx, 3)) (hcv : CT M' n) (hlink : Cond.methodLink M.1.cls idx M'.1 ∈ tbG) (hSp : Sp K M' d' 0 0 As h (fun v u => v = some (.int z) ∧ u = h') noX) (hst : st = As.reverse ++ rest)
    (hn : As.length = n) (hd : d' + 1 ≤ d) (hcs : uc ≤ mc ∧ us ≤ ms) (hw : (rest.map fun v => v.category).sum ≤ 8)
    (kk : G K M d mc ms uc us (pc + 3) L (.int z :: rest) h' Qc XC) : G K M d mc ms uc us pc L st h Qc XC :=
  G_callS hdg hcv hlink hSp hst hn hd hcs hw (fun v u q => by obtain ⟨rfl, rfl⟩ := q; exact kk) (fun _ _ q => q.elim)
theorem G_cSv {M' : MD} {n d' idx : Nat} {As rest st : List Value} (hdg : decode M.2.1 pc = .ok (.invokestatic idx, 3)) (hcv : CT M' n) (hlink : Cond.methodLink M.1.cls idx M'.1 ∈ tbG) (hSp : Sp K M' d' 0 0 As h (fun v u => v = none ∧ u = h') noX) (hst : st = As.reverse ++ rest)
    (hn : As.length = n) (hd : d' + 1 ≤ d) (hcs : uc ≤ mc ∧ us ≤ ms) (hw : (rest.map fun v => v.category).sum ≤ 8)
    (kk : G K M d mc ms uc us (pc + 3) L rest h' Qc XC) : G K M d mc ms uc us pc L st h Qc XC :=
  G_callS hdg hcv hlink hSp hst hn hd hcs hw (fun v u q => by obtain ⟨rfl, rfl⟩ := q; exact kk) (fun _ _ q => q.elim)
end CR
section RP
variable {K : GK} {ly : Nat} {S : St} {r n : Nat}
theorem sp_X3_at (hr : isRow ly r n) {i : Int32} : Sp K MX3_at 2 0 0 [.ref r, .int i] (hp ly S) (fun v u => v = some (.int (rat (S.1 (r + 1)) n i)) ∧ u = hp ly S) noX := sp_X3_at0 (cRow hr) (cArr hr) hr.2.2.2.2.2 i
theorem sp_X3_put (hr : isRow ly r n) {i x : Int32} : Sp K MX3_put 2 0 0 [.ref r, .int i, .int x] (hp ly S) (fun v u => v = none ∧ u = hp ly (setR S (r + 1) (rput (S.1 (r + 1)) n i x))) noX := by
  have q := sp_X3_put0 (K := K) (cRow (S := S) hr) (cArr hr) hr.2.2.2.2.2 i x
  rw [hp_setR hr.2.1 hr.2.2.2.1] at q
  exact q
theorem sp_X3_addTo (hr : isRow ly r n) {i x : Int32} : Sp K MX3_addTo 2 0 0 [.ref r, .int i, .int x] (hp ly S) (fun v u => v = none ∧ u = hp ly (setR S (r + 1) (rput (S.1 (r + 1)) n i (S.1 (r + 1) i.toNatClampNeg + x)))) noX := by
  have q := sp_X3_addTo0 (K := K) (cRow (S := S) hr) (cArr hr) hr.2.2.2.2.2 i x
  rw [hp_setR hr.2.1 hr.2.2.2.1] at q
  exact q
theorem sp_X3_fill (hr : isRow ly r n) {x : Int32} : Sp K MX3_fill 2 0 0 [.ref r, .int x] (hp ly S) (fun v u => v = none ∧ u = hp ly (setR S (r + 1) (rfil (S.1 (r + 1)) n x 0))) noX := by
  have q := sp_X3_fill0 (K := K) (cRow (S := S) hr) (cArr hr) hr.2.2.2.2.2 (by omega) x
  rw [hp_setR hr.2.1 hr.2.2.2.1] at q
  exact q
theorem sp_X3_sortPart (hr : isRow ly r n) (hn : n < 2 ^ 30) {a0 b0 : Nat} (ha0 : a0 ≤ b0) (hb0 : b0 ≤ n) : Sp K MX3_sortPart 2 0 0 [.ref r, .int (nI a0), .int (nI b0)] (hp ly S) (fun v u => v = none ∧ u = hp ly (setR S (r + 1) (srtA (S.1 (r + 1)) a0 a0 (b0 - a0)))) noX := by
  have q := sp_X3_sortPart0 (K := K) (cRow (S := S) hr) (cArr hr) (by omega) hn a0 b0 ha0 hb0
  rw [hp_setR hr.2.1 hr.2.2.2.1] at q
  exact q
end RP
