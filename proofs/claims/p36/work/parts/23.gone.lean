/-! the exception of a thing that is gone; isGone catches it -/
def IOB : String := "java/lang/IndexOutOfBoundsException"
def goneT : String := "the thing is gone"
def exN : List String := ["java/lang/RuntimeException", "java/lang/Exception"]
set_option maxHeartbeats 200000 in
theorem exW1 : ∀ w ∈ (vx_atS RX6 190 IOB exN).filter goodWord, w ∈ tbG := by decide +kernel
set_option maxHeartbeats 200000 in
theorem exW2 : ∀ w ∈ (vx_atS RX6 190 IOB exN).filter (fun w => !goodWord w), w ∈ tbN := by decide +kernel
set_option maxHeartbeats 200000 in
theorem exW3 : ∀ w ∈ Cond.classLink RX6 186 IOB :: Cond.initialized IOB :: vx_atS RX6 190 IOB exN, vx_ot w = true := by decide +kernel
set_option maxHeartbeats 200000 in
theorem isNw_on {w : Cond} (h : isNw w = true) : w.onTables = true := by
  cases w <;> first | rfl | (exact absurd h (by decide)) | (cases h)
set_option maxHeartbeats 200000 in
theorem tbN_use {K : GK} {s : State} {args : Array Value} (h : Kst K s) {w : Cond} (hw : w ∈ tbN) : w.before args s = true := va_Nw.use (isNw_on (List.mem_filter.mp hw).2) (h.1 w hw)
-- what a throw needs of the state beside the words
def Exc (K : GK) (s : State) : Prop := va_AO RX2 s ∧ (∃ sa, vk_R RX6 310 goneT sa s) ∧ vx_Zq Bundle.tN "UNASSIGNED_STACK" Bundle.steD (kF K) s s.heap ∧ vx_Zq Bundle.tN "SUPPRESSED_SENTINEL" Bundle.listD (kF K) s s.heap
section EX
variable {K : GK} {M : MD} {d mc ms uc us pc : Nat} {L : List (Nat × Value)} {h : VH} {Qc : Array Value → State → Outcome → State → Prop} {XC : String → State → State → Prop}
set_option maxHeartbeats 200000 in
theorem G_gone {rest : List Value} {X : String → VH → Prop} (hM : M.1.cls = RX6) (hx : exT M.1 = []) (hE : ∀ s, kE K s → Exc K s)
    (d0 : decode M.2.1 pc = .ok (.new 186, 3)) (d3 : decode M.2.1 (pc + 3) = .ok (.dup, 1)) (d4 : decode M.2.1 (pc + 4) = .ok (.ldc_w 310, 3)) (d7 : decode M.2.1 (pc + 7) = .ok (.invokespecial 190, 3)) (d10 : decode M.2.1 (pc + 10) = .ok (.athrow, 1))
    (hd : 6 ≤ d) (hcs : uc + 1 ≤ mc ∧ us + 6 ≤ ms) (hw : (rest.map fun v => v.category).sum ≤ 8) (hp : X IOB (false, h.2)) : G K M d mc ms uc us pc L rest h Qc (XcP K X) := by
  intro hK p e R s m args below meth c H locs ls F hS hP hl
  have hKs := F.2.2.2.2.2.2.2.2.2.2.2.2
  have hR := F.2.2.2.2.2.2.2.2.1
  have hRl := F.2.2.2.2.2.2.2.2.2.1
  have hRc := F.2.2.2.2.2.2.2.2.2.2.1
  have hRs := F.2.2.2.2.2.2.2.2.2.2.2.1
  have hts := F.2.2.2.2.1
  obtain ⟨-, ⟨sa, hstr⟩, hU, hN⟩ := hE s hKs.2.2.2.1
  have hown := F.2.2.2.1
  rw [hM] at hown
  refine vx_throwSW (names := exN) (text := goneT) (A := kF K) F.1 F.2.1 hK.2.2.1 hown (by decide +kernel) (by decide +kernel) (hts _ wcl_X6_186) (hts _ wii_java_lang_IndexOutOfBoundsException) hstr
    (vx_hat (B := tbN) (fun w hw => hts w (exW1 w hw)) exW2 (fun w hw => tbN_use hKs hw)) exW3 hU hN hS (hl.1.trans F.2.2.1.symm) d0 d3 d4 d7 d10 ?_ ?_ ?_ (by omega) (by omega) F.2.2.2.2.2.2.1 ?_ hS.2.2 hcs.1 hcs.2
  · rw [F.2.2.2.2.2.2.2.1.2, hx]
    exact fun z hz => nomatch hz
  · show 2 + 3 < R.frames
    omega
  · rw [vv_sum]
    show _ + (13 * (2 + 1) + 43) ≤ R.locals
    omega
  · intro t hA h1 h2
    refine ⟨⟨(false, h.2), hp, ?_, (fun q => Bool.noConfusion q), Nat.le_trans hP.2.2 h1⟩, Nat.le_trans hS.1 h1, fun q q1 q2 => (h2 q (Nat.lt_of_lt_of_le q1 hS.1)).trans (hS.2.1 q q1 q2)⟩
    exact va_P.kept hP.1 fun k q hq => h2 q.1 ((hP.1 k q hq).lt)
set_option maxHeartbeats 200000 in
theorem GX_out {X : String → VH → Prop} {E : String} {st : List Value} (hx : exT M.1 = []) (hcs : uc ≤ mc ∧ us ≤ ms) (hp : X E h) : GX K M d mc ms uc us pc L st h E Qc (XcP K X) := by
  intro hK p e R s m args below meth c H locs ls q ce F hS hP hl h1 h2 h3
  refine vx_out ?_ F.2.2.2.2.2.2.1 h1 h2 h3 (fun t ht hA => ⟨⟨h, hp, by rw [ht]; exact hP⟩, hS.F ht⟩) hS.2.2 hcs.1 hcs.2
  rw [F.2.2.2.2.2.2.2.1.2, hx]
  exact fun z hz => nomatch hz
abbrev ML_isGone : MD := (yL_isGone, cL_isGone, 3, some .boolean)
set_option maxHeartbeats 200000 in
theorem exT_gone : exT yL_isGone = [] ++ ⟨0, 8, 9, 115⟩ :: [] := by
  unfold exT
  rw [if_pos (by decide)]
  rfl
-- isGone's handler
set_option maxHeartbeats 200000 in
theorem GX_catch {st : List Value} (kk : G K ML_isGone d mc ms uc us 10 [] [] h Qc XC) : GX K ML_isGone d mc ms uc us 3 L st h IOB Qc XC := by
  intro hK p e R s m args below meth c H locs ls q ce F hS hP hl h1 h2 h3
  have hts := F.2.2.2.2.1
  refine vx_catch (own := RL) (name := IOB) F.2.2.2.1 [] ⟨0, 8, 9, 115⟩ [] (F.2.2.2.2.2.2.2.1.2.trans exT_gone) (fun z hz => nomatch hz) (by decide) (by decide) (hts _ wcl_L_115) (tbN_use F.2.2.2.2.2.2.2.2.2.2.2.2 wca_java_lang_IndexOutOfBoundsException_java_lang_IndexOutOfBoundsException) h1 h2 h3 ?_
  exact lv_astore_n F.1 F.2.1 dL_isGone_9 rfl hl (by decide) rfl (fun ls' hl' => kk hK p e R s m args below meth c H locs ls' F hS hP ⟨hl'.1, hl'.2.1, fun q hq => nomatch hq⟩)
-- isGone's contract
def SpI (K : GK) (d mc ms : Nat) (as : List Value) (h : VH) (P : Option Value → VH → Prop) : Prop :=
  Kok K → Met (kL K) yL_isGone (Cond.codeWith yL_isGone cL_isGone 3 (some .boolean) [(0, 8, 9, 115)] :: tbG) (Rm d mc ms) (Pc0 K as h) (QcP K P) mc ms (kF K)
set_option maxHeartbeats 200000 in
theorem SpI_of {as : List Value} {P : Option Value → VH → Prop} (hn : ((as.map fun v => v.category).sum) ≤ 3) (hG : G K ML_isGone d mc ms 0 0 0 (lv_args 0 as) [] h (QcP K P) (XcP K noX)) : SpI K d mc ms as h P := by
  intro hK
  have key : vx_Met (kL K) yL_isGone (Cond.codeWith yL_isGone cL_isGone 3 (some .boolean) [(0, 8, 9, 115)] :: tbG) (Rm d mc ms) (Pc0 K as h) (QcP K P) (XcP K noX) mc ms (kF K) := by
    refine vx_ofWH (cc := cL_isGone) (maxL := 3) (ret := some .boolean) (by decide) rfl ?_
    intro p e s m args below meth c s₁ B hml hv
    obtain ⟨rfl, hP, hKs⟩ := hv
    have hts9 := atoms_spec (ws := Cond.codeWith yL_isGone cL_isGone 3 (some .boolean) [(0, 8, 9, 115)] :: tbG) B.pre
    have hts : ∀ w ∈ tbG, w.before (as.map (vv K)).toArray s = true := fun w hw => hts9 w (List.mem_cons_of_mem _ hw)
    have htab : c.exceptionTable.toList = tableOf [(0, 8, 9, 115)] := vx_table (x := yL_isGone) B (hts9 _ List.mem_cons_self)
    have hlen : (lg_sl (as.map (vv K))).length ≤ 3 := by
      refine Nat.le_trans (Nat.le_of_eq ?_) hn
      clear hn hG hP hKs hts9 hts B htab
      induction as with
      | nil => rfl
      | cons a as ih =>
        simp only [List.map_cons, List.sum_cons]
        rw [← ih]
        unfold lg_sl
        rw [List.flatMap_cons, List.length_append]
        congr 1
        cases a <;> rfl
    have hl := lv_entry (as.map (vv K)) (n := 3) hlen
    rw [lv_args_map] at hl
    rw [lg_entry_eq]
    exact hG hK p e (Rm d mc ms) s m _ below meth c s.heap [] _ ⟨B.exec, B.bytes, hml, findClass_of_methodNamed B.named, hts, B.returns, B.notSynchronized, ⟨(name_of_methodNamed B.named B.method).1, htab.trans exT_gone.symm⟩, Nat.le_refl _, Nat.le_refl _, Nat.le_refl _, Nat.le_refl _, hKs⟩ va_S.rf hP hl
  intro p e ha hf1 hf2 s m args below hfr happ hP hKt
  obtain ⟨n, o, a1, a2, a3, hq⟩ := key p e ha hf1 hf2 s m args below hfr happ hP hKt
  refine ⟨n, o, a1, a2, a3, ?_⟩
  rcases hq with q | ⟨q, ho, E, ce, L9, ⟨⟨u, hx, -⟩, -⟩, -⟩
  · exact q
  · exact hx.elim
set_option maxHeartbeats 200000 in
theorem G_callG {d' mc' ms' idx : Nat} {As rest st : List Value} {P : Option Value → VH → Prop} (hdg : decode M.2.1 pc = .ok (.invokestatic idx, 3)) (hlink : Cond.methodLink M.1.cls idx yL_isGone ∈ tbG) (hSp : SpI K d' mc' ms' As h P) (hst : st = As.reverse ++ rest)
    (hn : As.length = 2) (hd : d' + 1 ≤ d) (hcs : uc + mc' ≤ mc ∧ us + ms' ≤ ms) (hw : (rest.map fun v => v.category).sum ≤ 8)
    (kk : ∀ v u, P v u → G K M d mc ms (uc + mc') (us + ms') (pc + 3) L (v.toList ++ rest) u Qc XC) : G K M d mc ms uc us pc L st h Qc XC := by
  intro hK p e R s m args below meth c H locs ls F hS hP hl
  subst hst
  have hR := F.2.2.2.2.2.2.2.2.1
  have hRl := F.2.2.2.2.2.2.2.2.2.1
  have hRc := F.2.2.2.2.2.2.2.2.2.2.1
  have hRs := F.2.2.2.2.2.2.2.2.2.2.2.1
  have hKs := F.2.2.2.2.2.2.2.2.2.2.2.2
  have hts := F.2.2.2.2.1
  have hg : GoodIn tbG (va_wsS M.1.cls idx yL_isGone (Cond.codeWith yL_isGone cL_isGone 3 (some .boolean) [(0, 8, 9, 115)] :: tbG)) := tb_good (fun z hz => by
    unfold va_wsS at hz
    rcases List.mem_append.mp hz with q | q
    · simp only [List.mem_cons, List.not_mem_nil, or_false] at q
      rcases q with rfl | rfl | rfl
      · exact hlink
      · exact wst_L_isGone
      · exact wii_L
    · rcases List.mem_cons.mp q with e | e
      · exact e ▸ wco_L_isGone
      · exact e)
  have hrun := vx_runSW (l := kL K) (e := e) (below := below) (meth := meth) (locs := locs) (As := As.map (vv K)) (rest := rest.map (vv K)) (g := F0 m pc ls _) ⟨F.1, F.2.1, F.2.2.1, F.2.2.2.1, hts⟩ (hSp hK)
    (vx_cwSW 2 hts hg rfl rfl rfl ⟨by decide +kernel, by decide +kernel, by decide +kernel⟩ ⟨Nat.le_trans hd hR, by show 8 + (3 + 11) + (64 * d' + 40) ≤ R.locals; omega⟩)
    ⟨blind hK, fun U hU hW => ⟨rfl, by rw [hU]; exact hP, Kst_call hK hKs hS hU hW⟩⟩ rfl ((List.length_map _).trans hn) hl.1 rfl (lv_room (by rw [vv_sum]; exact hw)) hdg ⟨Nat.le_trans hcs.1 hRc, Nat.le_trans hcs.2 hRs⟩
  rw [List.map_append, List.map_reverse]
  exact G_back (X := noX) hK (fun T hT X9 => Or.inl (hrun T hT X9)) F hS hl kk (fun E u q => q.elim)
-- fewer cells were made than are counted
set_option maxHeartbeats 200000 in
theorem G_widen {uc' us' : Nat} {st : List Value} (h1 : uc ≤ uc') (h2 : us ≤ us') (kk : G K M d mc ms uc' us' pc L st h Qc XC) : G K M d mc ms uc us pc L st h Qc XC := fun hK p e R s m args below meth c H locs ls F hS hP hl => W.widen h1 h2 (kk hK p e R s m args below meth c H locs ls F hS hP hl)
end EX
def offS (S : St) : St := (S.1, S.2.1, false)
section GO
variable {K : GK} {S : St} {c k lr : Nat}
set_option maxHeartbeats 200000 in
theorem sp_X6_layerOfThing_gone (hE : ∀ s, kE K s → Exc K s) (hc : tc S = nI c) (h80 : c ≤ 80) (hk : k < c) (hl : S.1 12 k = -1) : Sp K MX6_layerOfThing 6 1 6 [.ref 0, .int (nI k)] (hp 2 S) (fun _ _ => False) (fun E u => E = IOB ∧ u = hp 2 (offS S)) := by
  refine Sp_of (by decide) (Nat.le_of_ble_eq_true rfl) ?_
  refine G_iload_n dX6_layerOfThing_0 rfl ?_
  refine G_if_lt (tgt := 15) dX6_layerOfThing_1 (by decide) (fun c_1 => ?_) (fun c_1 => ?_)
  · first
      | exact absurd c_1 (nI_pos (by omega))
      | exact absurd (nI_lt hk (by omega)) c_12
  · refine G_iload_n dX6_layerOfThing_4 rfl ?_
    refine G_aload_n dX6_layerOfThing_5 rfl ?_
    refine G_get (k := 0) dX6_layerOfThing_6 cIdx rfl wfl_X6_10 (by decide) rfl ?_
    refine G_getN (k := 5) dX6_layerOfThing_9 cThings rfl wfn_X6_106 (by decide) rfl ?_
    rw [show S.2.1 1 5 = nI c from hc]
    refine G_icmp_lt (tgt := 26) dX6_layerOfThing_12 (by decide) (fun c_12 => ?_) (fun c_12 => ?_)
    · refine G_aload_n dX6_layerOfThing_26 rfl ?_
      refine G_get (k := 0) dX6_layerOfThing_27 cIdx rfl wfl_X6_10 (by decide) rfl ?_
      refine G_getN (k := 1) dX6_layerOfThing_30 cThings rfl wfn_X6_132 (by decide) rfl ?_
      refine G_iload_n dX6_layerOfThing_33 rfl ?_
      refine G_cVi (As := [_]) dX6_layerOfThing_34 kV_X3_at wml_X6_116 (sp_X3_at rLayerOf) rfl (cRow rLayerOf) rfl rfl rfl (by decide) (by decide) (Nat.le_of_ble_eq_true rfl) ?_
      rw [rat_nI (show k < 80 by omega) (by decide), show S.1 (11 + 1) k = -1 from hl]
      refine G_iconst (v := (-1)) dX6_layerOfThing_37 (by decide) ?_
      refine G_icmp_ne (tgt := 52) dX6_layerOfThing_38 (by decide) (fun c_38 => ?_) (fun c_38 => ?_)
      · exact absurd c_38 (by decide)
      · exact G_gone rfl (by decide) hE dX6_layerOfThing_41 dX6_layerOfThing_44 dX6_layerOfThing_45 dX6_layerOfThing_48 dX6_layerOfThing_51 (by decide) (by decide) (by decide) ⟨rfl, rfl⟩
    · first
        | exact absurd c_1 (nI_pos (by omega))
        | exact absurd (nI_lt hk (by omega)) c_12
set_option maxHeartbeats 200000 in
theorem sp_X6_of_gone (hE : ∀ s, kE K s → Exc K s) (hc : tc S = nI c) (h80 : c ≤ 80) (hk : k < c) (hl : S.1 12 k = -1) {w : Int32} : Sp K MX6_of 10 1 6 [.ref 0, .int (nI k), .int w] (hp 2 S) (fun _ _ => False) (fun E u => E = IOB ∧ u = hp 2 (offS S)) := by
  refine Sp_of (by decide) (Nat.le_of_ble_eq_true rfl) ?_
  refine G_aload_n dX6_of_0 rfl ?_
  refine G_iload_n dX6_of_1 rfl ?_
  refine G_callV (As := [_]) dX6_of_2 kV_X6_layerOfThing wml_X6_109 (sp_X6_layerOfThing_gone hE hc h80 hk hl) rfl cIdx rfl rfl rfl (by decide) (by decide) (by decide) (fun v u q => q.elim) (fun E u q => ?_)
  exact GX_out (by decide) (by decide) q
set_option maxHeartbeats 200000 in
theorem sp_L_isGone_no (hlr : lr < 2) (hc : tc S = nI c) (h80 : c ≤ 80) (hk : k < c) (hl : S.1 12 k = nI lr) : SpI K 11 1 6 [.ref 0, .int (nI k)] (hp 2 S) (fun v u => v = some (.int 0) ∧ u = hp 2 S) := by
  refine SpI_of (Nat.le_of_ble_eq_true rfl) ?_
  refine G_aload_n dL_isGone_0 rfl ?_
  refine G_iload_n dL_isGone_1 rfl ?_
  refine G_iconst (v := 0) dL_isGone_2 (by decide) ?_
  refine G_cVi (As := [_, _]) dL_isGone_3 kV_X6_of wml_L_57 (sp_X6_of hlr hc h80 hk hl (w := 0) (by decide)) rfl cIdx rfl rfl rfl (by decide) (by decide) (Nat.le_of_ble_eq_true rfl) ?_
  refine G_pop dL_isGone_6 rfl ?_
  refine G_iconst (v := 0) dL_isGone_7 (by decide) ?_
  exact G_iret dL_isGone_8 rfl rfl (by decide) ⟨rfl, rfl⟩
set_option maxHeartbeats 200000 in
theorem sp_L_isGone_yes (hE : ∀ s, kE K s → Exc K s) (hc : tc S = nI c) (h80 : c ≤ 80) (hk : k < c) (hl : S.1 12 k = -1) : SpI K 11 1 6 [.ref 0, .int (nI k)] (hp 2 S) (fun v u => v = some (.int 1) ∧ u = hp 2 (offS S)) := by
  refine SpI_of (Nat.le_of_ble_eq_true rfl) ?_
  refine G_aload_n dL_isGone_0 rfl ?_
  refine G_iload_n dL_isGone_1 rfl ?_
  refine G_iconst (v := 0) dL_isGone_2 (by decide) ?_
  refine G_callV (As := [_, _]) dL_isGone_3 kV_X6_of wml_L_57 (sp_X6_of_gone hE hc h80 hk hl) rfl cIdx rfl rfl rfl (by decide) (by decide) (by decide) (fun v u q => q.elim) (fun E u q => ?_)
  obtain ⟨rfl, rfl⟩ := q
  refine GX_catch ?_
  refine G_iconst (v := 1) dL_isGone_10 (by decide) ?_
  exact G_iret dL_isGone_11 rfl rfl (by decide) ⟨rfl, rfl⟩
end GO
