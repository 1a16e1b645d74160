section GN
variable {K : GK} {M : MD} {d mc ms uc us pc : Nat} {L : List (Nat × Value)} {h : VH} {Qc : Array Value → State → Outcome → State → Prop} {XC : String → State → State → Prop}
/-- a new object: the next cell -/
theorem G_new {rest : List Value} {ci idx N : Nat} {C : String} {T : u_T} {fs : List Value} (hdg : decode M.2.1 pc = .ok (.new idx, 3)) (hb : h.1 = true) (hc : gcl[ci]? = some (C, T, N)) (hlink : Cond.classLink M.1.cls idx C ∈ tbG) (hinst : Cond.instantiable C N ∈ tbG) (hini : Cond.initialized C ∈ tbG) (hfs : ∀ j, j < N → defaultValue (gty ci j) = vp_V (fs.map (vv K)) j) (hcs : uc + 1 ≤ mc ∧ us + N ≤ ms)
    (kk : G K M d mc ms (uc + 1) (us + N) (pc + 3) L (.ref h.2.length :: rest) (true, h.2 ++ [.inr (ci, fs)]) Qc XC) : G K M d mc ms uc us pc L rest h Qc XC := by
  intro hK p e R s m args below meth c H locs ls F hS hP hl
  have hKa := F.2.2.2.2.2.2.2.2.2.2.2.2.2.1
  have hKn := hKa.1 ci _ hc
  refine W.newcK F.1 F.2.1 F.2.2.2.1 (F.2.2.2.2.1 _ hlink) (F.2.2.2.2.1 _ hinst) (F.2.2.2.2.1 _ hini) rfl hdg (Nat.le_trans hcs.1 F.2.2.2.2.2.2.2.2.2.2.1) (Nat.le_trans hcs.2 F.2.2.2.2.2.2.2.2.2.2.2.1) hKn.2.1 rfl fun H1 kC9 hkC e1 z1 o1 => ?_
  have e0 : kA K h.2.length = H.size := hP.2.1 hb 0
  have hS1 : va_S (kF K) s.heap H1 locs := ⟨Nat.le_trans hS.1 (by omega), fun x h1 h2 => (o1 x (Nat.lt_of_lt_of_le h1 hS.1)).trans (hS.2.1 x h1 h2), hS.2.2⟩
  have q := kk hK p e R s m args below meth c H1 locs ls F hS1 (Ph_push hb hP (e := .inr (ci, fs)) ⟨_, hc, (u_born (gty ci) F.2.2.2.2.1 (gcl_ok ci _ hc).1 hKn hkC e1 (gcl_ok ci _ hc).2.1).to hfs⟩ z1 o1) hl
  rw [← e0]
  exact q
theorem G_newa {rest : List Value} {n : Int32} {N : Nat} (hdg : decode M.2.1 pc = .ok (.newarray .int, 2)) (hb : h.1 = true) (harr : Cond.arrayClass FieldType.int ∈ tbG) (hn : ¬ n < 0) (hN : n.toNatClampNeg = N) (hbytes : N * 4 ≤ 536870912) (hcs : uc + 1 ≤ mc ∧ us + N ≤ ms)
    (kk : G K M d mc ms (uc + 1) (us + N) (pc + 2) L (.ref h.2.length :: rest) (true, h.2 ++ [.inl (0, N, .inl (fun _ => 0))]) Qc XC) : G K M d mc ms uc us pc L (.int n :: rest) h Qc XC := by
  intro hK p e R s m args below meth c H locs ls F hS hP hl
  have hKa := F.2.2.2.2.2.2.2.2.2.2.2.2.2.1
  refine va_newaK (atype := .int) F.1 F.2.1 (F.2.2.2.2.1 _ harr) rfl hdg rfl hn hN hbytes (Nat.le_trans hcs.1 F.2.2.2.2.2.2.2.2.2.2.1) (Nat.le_trans hcs.2 F.2.2.2.2.2.2.2.2.2.2.2.1) rfl fun H1 cA e1 z1 o1 hAr hNm => ?_
  have e0 : kA K h.2.length = H.size := hP.2.1 hb 0
  have ec : cA = kC K 0 := Option.some.inj (hNm.symm.trans (hKa.2 0 _ (ktys_at rfl)).2)
  have hS1 : va_S (kF K) s.heap H1 locs := ⟨Nat.le_trans hS.1 (by omega), fun x h1 h2 => (o1 x (Nat.lt_of_lt_of_le h1 hS.1)).trans (hS.2.1 x h1 h2), hS.2.2⟩
  have q := kk hK p e R s m args below meth c H1 locs ls F hS1 (Ph_push hb hP (e := .inl (0, N, .inl (fun _ => 0))) (by
    show H1[H.size]? = some (vp_cell (kC K 0) (N, .inl (fun _ => 0)))
    rw [e1, vp_cell_i, ec]; rfl) z1 o1) hl
  rw [← e0]
  exact q
/-- Object's constructor -/
theorem G_objInit {rest : List Value} {a idx : Nat} (hdg : decode M.2.1 pc = .ok (.invokespecial idx, 3)) (hlink : Cond.methodLink M.1.cls idx objectInit ∈ tbG) (hinst : Cond.instanceMethod objectInit ∈ tbG) (hcode : Cond.code objectInit ⟨#[0xb1]⟩ 1 none ∈ tbG) (hd : 1 ≤ d) (hw : (rest.map fun v => v.category).sum ≤ 8)
    (kk : G K M d mc ms uc us (pc + 3) L rest h Qc XC) : G K M d mc ms uc us pc L (.ref a :: rest) h Qc XC := by
  intro hK p e R s m args below meth c H locs ls F hS hP hl
  have hR := F.2.2.2.2.2.2.2.2.1
  have hRl := F.2.2.2.2.2.2.2.2.2.1
  refine W.objInit F.1 F.2.1 F.2.2.2.1 (F.2.2.2.2.1 _ hlink) (F.2.2.2.2.1 _ hinst) (F.2.2.2.2.1 _ hcode) (g := F0 m pc ls _) rfl (by rw [F.2.2.1]; exact hl.1) rfl hdg (by omega) ?_ ?_
  · have h8 : ((rest.map (vv K)).map fun v => v.category).sum ≤ 8 := by rw [vv_sum]; exact hw
    have hm : 2 * (F0 m pc ls ((Value.ref a :: rest).map (vv K))).monitorRoom + ((rest.map (vv K)).map fun v => v.category).sum ≤ 8 := lv_room h8
    omega
  · exact W.eq rfl (kk hK p e R s m args below meth c H locs ls F hS hP hl)
theorem G_max {rest : List Value} {idx : Nat} {x y : Int32} (hdg : decode M.2.1 pc = .ok (.invokestatic idx, 3)) (hlink : Cond.methodLink M.1.cls idx Lib.Math.max.name ∈ tbG) (hd : 1 ≤ d) (hcs : uc ≤ mc ∧ us ≤ ms) (hw : (rest.map fun v => v.category).sum ≤ 8)
    (kk : G K M d mc ms uc us (pc + 3) L (.int (if x < y then y else x) :: rest) h Qc XC) : G K M d mc ms uc us pc L (.int y :: .int x :: rest) h Qc XC := by
  intro hK p e R s m args below meth c H locs ls F hS hP hl
  have hR := F.2.2.2.2.2.2.2.2.1
  have hRl := F.2.2.2.2.2.2.2.2.2.1
  exact va_mmax F.1 F.2.1 (by rw [F.2.2.1]; exact hl.1.symm) F.2.2.2.1 (F.2.2.2.2.1 _ hlink) (F.2.2.2.2.1 _ wst_J9_max_7cf53) (F.2.2.2.2.1 _ wii_J9) (F.2.2.2.2.1 _ wco_J9_max_7cf53) (by omega) (by rw [vv_sum]; omega) (Nat.le_trans hcs.1 F.2.2.2.2.2.2.2.2.2.2.1) (Nat.le_trans hcs.2 F.2.2.2.2.2.2.2.2.2.2.2.1) hdg (kk hK p e R s m args below meth c H locs ls F hS hP hl)
theorem G_min {rest : List Value} {idx : Nat} {x y : Int32} (hdg : decode M.2.1 pc = .ok (.invokestatic idx, 3)) (hlink : Cond.methodLink M.1.cls idx Lib.Math.min.name ∈ tbG) (hd : 1 ≤ d) (hcs : uc ≤ mc ∧ us ≤ ms) (hw : (rest.map fun v => v.category).sum ≤ 8)
    (kk : G K M d mc ms uc us (pc + 3) L (.int (if y < x then y else x) :: rest) h Qc XC) : G K M d mc ms uc us pc L (.int y :: .int x :: rest) h Qc XC := by
  intro hK p e R s m args below meth c H locs ls F hS hP hl
  have hR := F.2.2.2.2.2.2.2.2.1
  have hRl := F.2.2.2.2.2.2.2.2.2.1
  exact va_mmin F.1 F.2.1 (by rw [F.2.2.1]; exact hl.1.symm) F.2.2.2.1 (F.2.2.2.2.1 _ hlink) (F.2.2.2.2.1 _ wst_J9_min_7cf53) (F.2.2.2.2.1 _ wii_J9) (F.2.2.2.2.1 _ wco_J9_min_7cf53) (by omega) (by rw [vv_sum]; omega) (Nat.le_trans hcs.1 F.2.2.2.2.2.2.2.2.2.2.1) (Nat.le_trans hcs.2 F.2.2.2.2.2.2.2.2.2.2.2.1) hdg (kk hK p e R s m args below meth c H locs ls F hS hP hl)
/-! calls -/
/-- the facts of a method that is called: its words, how many arguments -/
def CV (M : MD) (n : Nat) : Prop := Cond.instanceMethod M.1 ∈ tbG ∧ Cond.selects M.1.cls M.1 M.1 ∈ tbG ∧ Cond.initialized M.1.cls ∈ tbG ∧ Cond.code M.1 M.2.1 M.2.2.1 M.2.2.2 ∈ tbG ∧ (M.1.cls ≠ "java/lang/invoke/MethodHandle" ∧ M.1.cls ≠ "java/lang/invoke/VarHandle" ∧ (parseMethodDescriptor M.1.desc).map (fun d => d.parameters.length) = some n) ∧ M.2.2.1 ≤ 45
def CT (M : MD) (n : Nat) : Prop := Cond.static M.1 ∈ tbG ∧ Cond.initialized M.1.cls ∈ tbG ∧ Cond.code M.1 M.2.1 M.2.2.1 M.2.2.2 ∈ tbG ∧ (M.1.cls ≠ "java/lang/invoke/MethodHandle" ∧ M.1.cls ≠ "java/lang/invoke/VarHandle" ∧ (parseMethodDescriptor M.1.desc).map (fun d => d.parameters.length) = some n) ∧ M.2.2.1 ≤ 45
def CI (M : MD) (n : Nat) : Prop := M.1.name = "<init>" ∧ M.2.2.2 = none ∧ Cond.instanceMethod M.1 ∈ tbG ∧ Cond.initialized M.1.cls ∈ tbG ∧ Cond.code M.1 M.2.1 M.2.2.1 M.2.2.2 ∈ tbG ∧ (M.1.cls ≠ "java/lang/invoke/MethodHandle" ∧ M.1.cls ≠ "java/lang/invoke/VarHandle" ∧ (parseMethodDescriptor M.1.desc).map (fun d => d.parameters.length) = some n) ∧ M.2.2.1 ≤ 45
theorem Kst_call {K : GK} (hK : Kok K) {s U : State} {H : Heap} {locs : List Loc} (h : Kst K s) (hS : va_S (kF K) s.heap H locs) (hU : U.heap = H) (hW : s.WarmedH U.vm) : Kst K U := by
  have hk : ∀ q : Nat, q < s.heap.size → ¬ kB K ≤ q → U.heap[q]? = s.heap[q]? := fun q h1 h2 => by rw [hU]; exact hS.2.1 q h1 h2
  have hz : s.heap.size ≤ U.heap.size := by rw [hU]; exact hS.1
  refine ⟨fun w hw => ?_, h.2.1.moved hW.alike, Nat.le_trans h.2.2.1 hz, hK.2.2.2.2.2 s U hW hz hk h.2.2.2.1, ?_⟩
  · have h1 := h.1 w hw
    have h2 := (List.mem_filter.mp hw).2
    cases w <;> first | exact va_Nw.warmF hW h1 | exact va_Nw.warmM hW h1 | exact va_Nw.warmC hW h1 | exact va_Nw.warmD hW h1 | (exact absurd h2 (by decide)) | (cases h2)
  · refine va_X.kept (va_X.moved hW.alike h.2.2.2.2) (hk _ (Nat.lt_of_lt_of_le hK.2.2.2.1 h.2.2.1) (Nat.not_le.mpr hK.2.2.2.1))
theorem Kst_blind {K : GK} (hK : Kok K) {U : State} {g : JFrame} {mk : MethodId} {a : Array Value} (h : Kst K U) : Kst K (U.calling g mk a) :=
  Kst_call hK (H := U.heap) (locs := []) h va_S.rf rfl (State.WarmedH.refl U)
theorem blind {K : GK} (hK : Kok K) {as : List Value} {h : VH} : FrameBlind (Pc0 K as h) := fun _ _ _ _ q => ⟨q.1, q.2.1, Kst_blind hK q.2.2⟩
theorem gi_tbG : GoodIn tbG tbG := tb_good (fun _ h => h)
theorem code_in {w : Cond} (h : w ∈ tbG) : GoodIn tbG (w :: tbG) := tb_good (fun z hz => by rcases List.mem_cons.mp hz with e | e; exact e ▸ h; exact e)
/-- what comes back from a call -/
theorem G_back {p : Program} {e : Env} {R : Room} {s : State} {m : MethodId} {args a : Array Value} {below : List Frame} {meth : Method} {c : Code} {H : Heap} {locs : List Loc} {ls : Array Slot} {st0 : List Value} {rest : List Value} {mc' ms' : Nat} {P : Option Value → VH → Prop} {X : String → VH → Prop}
    (hK : Kok K) (hr : vx_Run p (kL K) e R s m args below meth c H locs uc us mc' ms' (F0 m pc ls st0) (rest.map (vv K)) (QcP K P a) (XcP K X) (kF K)) (F : Fr K M d mc ms p R s m args meth c) (hS : va_S (kF K) s.heap H locs) (hl : lv_has ls M.2.2.1 (L.map (vl K)))
    (kk : ∀ v u, P v u → G K M d mc ms (uc + mc') (us + ms') (pc + 3) L (v.toList ++ rest) u Qc XC) (kx : ∀ E u, X E u → GX K M d mc ms (uc + mc') (us + ms') pc L rest u E Qc XC) :
    W p (kL K) e R s m args below meth c H locs uc us (vx_MQ below Qc XC args s mc ms (kF K)) (F0 m pc ls st0) := by
  intro T hT X9
  rcases hr T hT X9 with ⟨v, st₀, t, T', Lc, h0, X', hLc, e1, e2, ⟨⟨v', u, hv, hp, hu⟩, hF⟩, st⟩ | ⟨q, st₀, t, T', Lc, E, ce, h0, X', hLc, e1, e2, ⟨⟨u, hx, hu⟩, hF⟩, hce, hcv, hcl, st⟩
  · cases hv
    obtain ⟨-, -, k3⟩ := vx_keep h0 e1 hS (fun _ _ h => h) (fun _ h => h) hLc hF
    obtain ⟨t2, a1, b1⟩ := kk v' u hp hK p e R s m args below meth c T'.heap (locs ++ Lc) ls F k3 (by rw [e1]; exact hu) hl T' rfl X'
    refine ⟨t2, st t2 ?_, b1⟩
    rw [show (v'.map (vv K)).toList ++ rest.map (vv K) = (v'.toList ++ rest).map (vv K) by cases v' <;> rfl]
    exact a1
  · obtain ⟨-, -, k3⟩ := vx_keep h0 e1 hS (fun _ _ h => h) (fun _ h => h) hLc hF
    obtain ⟨t2, a1, b1⟩ := kx E u hx hK p e R s m args below meth c T'.heap (locs ++ Lc) ls q ce F k3 (by rw [e1]; exact hu) hl (by rw [e1]; exact hce) hcv hcl T' rfl X'
    exact ⟨t2, st.trans a1, b1⟩
theorem G_callV {M' : MD} {n d' mc' ms' a ci idx : Nat} {r : vw_C} {fs As rest st : List Value} {P : Option Value → VH → Prop} {X : String → VH → Prop} (hdg : decode M.2.1 pc = .ok (.invokevirtual idx, 3)) (hcv : CV M' n) (hlink : Cond.methodLink M.1.cls idx M'.1 ∈ tbG) (hSp : Sp K M' d' mc' ms' (.ref a :: As) h P X) (hst : st = As.reverse ++ .ref a :: rest)
    (hc : h.2[a]? = some (.inr (ci, fs))) (hr : gcl[ci]? = some r) (hrc : r.1 = M'.1.cls) (hn : As.length = n) (hd : d' + 1 ≤ d) (hcs : uc + mc' ≤ mc ∧ us + ms' ≤ ms) (hw : (rest.map fun v => v.category).sum ≤ 8)
    (kk : ∀ v u, P v u → G K M d mc ms (uc + mc') (us + ms') (pc + 3) L (v.toList ++ rest) u Qc XC) (kx : ∀ E u, X E u → GX K M d mc ms (uc + mc') (us + ms') pc L rest u E Qc XC) : G K M d mc ms uc us pc L st h Qc XC := by
  intro hK p e R s m args below meth c H locs ls F hS hP hl
  subst hst
  obtain ⟨hci, hcsl, hcin, hcco, hcd, hcm⟩ := hcv
  have hR := F.2.2.2.2.2.2.2.2.1
  have hRl := F.2.2.2.2.2.2.2.2.2.1
  have hRc := F.2.2.2.2.2.2.2.2.2.2.1
  have hRs := F.2.2.2.2.2.2.2.2.2.2.2.1
  have hKs := F.2.2.2.2.2.2.2.2.2.2.2.2
  have hts := F.2.2.2.2.1
  have hB : CallB R s args M.1.cls idx M'.1 M'.2.1 M'.2.2.1 M'.2.2.2 (Cond.code M'.1 M'.2.1 M'.2.2.1 M'.2.2.2 :: tbG) (Rm d' mc' ms') mc' ms' n :=
    callB_of n hts (code_in hcco) rfl rfl rfl (hts _ hcin) (hts _ hlink) hcd ⟨Nat.le_trans hd hR, by show 8 + (M'.2.2.1 + 11) + (64 * d' + 40) ≤ R.locals; omega⟩
  obtain ⟨cellB, hB1, hB2, hB3⟩ := va_recv hKs.2.1 hP.1 hr (vW_at hc)
  have hrun := vx_runV (l := kL K) (e := e) (below := below) (meth := meth) (locs := locs) (As := As.map (vv K)) (rest := rest.map (vv K)) (b := kA K a) (C := M'.1.cls) (g := F0 m pc ls _) ⟨F.1, F.2.1, F.2.2.1, F.2.2.2.1, hts⟩ (hSp hK) ⟨hB, hts _ hci, hts _ hcsl⟩
    ⟨blind hK, ⟨cellB, hB1, hB2, by rw [← hrc]; exact hB3⟩, fun U hU hW => ⟨rfl, by rw [hU]; exact hP, Kst_call hK hKs hS hU hW⟩⟩ rfl ((List.length_map _).trans hn) hl.1 rfl (lv_room (by rw [vv_sum]; exact hw)) hdg ⟨Nat.le_trans hcs.1 hRc, Nat.le_trans hcs.2 hRs⟩
  rw [List.map_append, List.map_reverse]
  exact G_back hK hrun F hS hl kk kx
theorem G_callS {M' : MD} {n d' mc' ms' idx : Nat} {As rest st : List Value} {P : Option Value → VH → Prop} {X : String → VH → Prop} (hdg : decode M.2.1 pc = .ok (.invokestatic idx, 3)) (hcv : CT M' n) (hlink : Cond.methodLink M.1.cls idx M'.1 ∈ tbG) (hSp : Sp K M' d' mc' ms' As h P X) (hst : st = As.reverse ++ rest)
    (hn : As.length = n) (hd : d' + 1 ≤ d) (hcs : uc + mc' ≤ mc ∧ us + ms' ≤ ms) (hw : (rest.map fun v => v.category).sum ≤ 8)
    (kk : ∀ v u, P v u → G K M d mc ms (uc + mc') (us + ms') (pc + 3) L (v.toList ++ rest) u Qc XC) (kx : ∀ E u, X E u → GX K M d mc ms (uc + mc') (us + ms') pc L rest u E Qc XC) : G K M d mc ms uc us pc L st h Qc XC := by
  intro hK p e R s m args below meth c H locs ls F hS hP hl
  subst hst
  obtain ⟨hci, hcin, hcco, hcd, hcm⟩ := hcv
  have hR := F.2.2.2.2.2.2.2.2.1
  have hRl := F.2.2.2.2.2.2.2.2.2.1
  have hRc := F.2.2.2.2.2.2.2.2.2.2.1
  have hRs := F.2.2.2.2.2.2.2.2.2.2.2.1
  have hKs := F.2.2.2.2.2.2.2.2.2.2.2.2
  have hts := F.2.2.2.2.1
  have hB : CallB R s args M.1.cls idx M'.1 M'.2.1 M'.2.2.1 M'.2.2.2 (Cond.code M'.1 M'.2.1 M'.2.2.1 M'.2.2.2 :: tbG) (Rm d' mc' ms') mc' ms' n :=
    callB_of n hts (code_in hcco) rfl rfl rfl (hts _ hcin) (hts _ hlink) hcd ⟨Nat.le_trans hd hR, by show 8 + (M'.2.2.1 + 11) + (64 * d' + 40) ≤ R.locals; omega⟩
  have hrun := vx_runS (l := kL K) (e := e) (below := below) (meth := meth) (locs := locs) (As := As.map (vv K)) (rest := rest.map (vv K)) (g := F0 m pc ls _) ⟨F.1, F.2.1, F.2.2.1, F.2.2.2.1, hts⟩ (hSp hK) ⟨hB, hts _ hci⟩
    ⟨blind hK, fun U hU hW => ⟨rfl, by rw [hU]; exact hP, Kst_call hK hKs hS hU hW⟩⟩ rfl ((List.length_map _).trans hn) hl.1 rfl (lv_room (by rw [vv_sum]; exact hw)) hdg ⟨Nat.le_trans hcs.1 hRc, Nat.le_trans hcs.2 hRs⟩
  rw [List.map_append, List.map_reverse]
  exact G_back hK hrun F hS hl kk kx
theorem G_callI {M' : MD} {n d' mc' ms' a idx : Nat} {As rest st : List Value} {P : Option Value → VH → Prop} {X : String → VH → Prop} (hdg : decode M.2.1 pc = .ok (.invokespecial idx, 3)) (hcv : CI M' n) (hlink : Cond.methodLink M.1.cls idx M'.1 ∈ tbG) (hSp : Sp K M' d' mc' ms' (.ref a :: As) h P X) (hst : st = As.reverse ++ .ref a :: rest)
    (hn : As.length = n) (hd : d' + 1 ≤ d) (hcs : uc + mc' ≤ mc ∧ us + ms' ≤ ms) (hw : (rest.map fun v => v.category).sum ≤ 8)
    (kk : ∀ v u, P v u → G K M d mc ms (uc + mc') (us + ms') (pc + 3) L (v.toList ++ rest) u Qc XC) (kx : ∀ E u, X E u → GX K M d mc ms (uc + mc') (us + ms') pc L rest u E Qc XC) : G K M d mc ms uc us pc L st h Qc XC := by
  intro hK p e R s m args below meth c H locs ls F hS hP hl
  subst hst
  obtain ⟨hnm, hrt, hci, hcin, hcco, hcd, hcm⟩ := hcv
  have hR := F.2.2.2.2.2.2.2.2.1
  have hRl := F.2.2.2.2.2.2.2.2.2.1
  have hRc := F.2.2.2.2.2.2.2.2.2.2.1
  have hRs := F.2.2.2.2.2.2.2.2.2.2.2.1
  have hKs := F.2.2.2.2.2.2.2.2.2.2.2.2
  have hts := F.2.2.2.2.1
  have hSp9 := hSp hK
  rw [hrt] at hSp9 hcco
  have hB : CallB R s args M.1.cls idx M'.1 M'.2.1 M'.2.2.1 none (Cond.code M'.1 M'.2.1 M'.2.2.1 none :: tbG) (Rm d' mc' ms') mc' ms' n :=
    callB_of n hts (code_in hcco) rfl rfl rfl (hts _ hcin) (hts _ hlink) hcd ⟨Nat.le_trans hd hR, by show 8 + (M'.2.2.1 + 11) + (64 * d' + 40) ≤ R.locals; omega⟩
  have hrun := vx_runI (l := kL K) (e := e) (below := below) (meth := meth) (locs := locs) (As := As.map (vv K)) (rest := rest.map (vv K)) (b := kA K a) (g := F0 m pc ls _) ⟨F.1, F.2.1, F.2.2.1, F.2.2.2.1, hts⟩ hSp9 ⟨hB, hnm, hts _ hci⟩
    ⟨blind hK, fun U hU hW => ⟨rfl, by rw [hU]; exact hP, Kst_call hK hKs hS hU hW⟩⟩ rfl ((List.length_map _).trans hn) hl.1 rfl (lv_room (by rw [vv_sum]; exact hw)) hdg ⟨Nat.le_trans hcs.1 hRc, Nat.le_trans hcs.2 hRs⟩
  rw [List.map_append, List.map_reverse]
  exact G_back hK hrun F hS hl kk kx
theorem G_callIN {M' : MD} {n d' mc' ms' a idx : Nat} {host : String} {As rest st : List Value} {P : Option Value → VH → Prop} {X : String → VH → Prop} (hdg : decode M.2.1 pc = .ok (.invokespecial idx, 3)) (hcv : CI M' n) (hlink : Cond.methodLinkNest M.1.cls idx M'.1 host ∈ tbN) (hSp : Sp K M' d' mc' ms' (.ref a :: As) h P X) (hst : st = As.reverse ++ .ref a :: rest)
    (hn : As.length = n) (hd : d' + 1 ≤ d) (hcs : uc + mc' ≤ mc ∧ us + ms' ≤ ms) (hw : (rest.map fun v => v.category).sum ≤ 8)
    (kk : ∀ v u, P v u → G K M d mc ms (uc + mc') (us + ms') (pc + 3) L (v.toList ++ rest) u Qc XC) (kx : ∀ E u, X E u → GX K M d mc ms (uc + mc') (us + ms') pc L rest u E Qc XC) : G K M d mc ms uc us pc L st h Qc XC := by
  intro hK p e R s m args below meth c H locs ls F hS hP hl
  subst hst
  obtain ⟨hnm, hrt, hci, hcin, hcco, hcd, hcm⟩ := hcv
  have hR := F.2.2.2.2.2.2.2.2.1
  have hRl := F.2.2.2.2.2.2.2.2.2.1
  have hRc := F.2.2.2.2.2.2.2.2.2.2.1
  have hRs := F.2.2.2.2.2.2.2.2.2.2.2.1
  have hKs := F.2.2.2.2.2.2.2.2.2.2.2.2
  have hts := F.2.2.2.2.1
  have hSp9 := hSp hK
  rw [hrt] at hSp9 hcco
  have hB : va_CN R s args M.1.cls idx M'.1 host M'.2.1 M'.2.2.1 none (Cond.code M'.1 M'.2.1 M'.2.2.1 none :: tbG) (Rm d' mc' ms') mc' ms' n :=
    va_cnB n hts (code_in hcco) rfl rfl rfl (hKs.1 _ hlink) (hts _ hcin) hcd ⟨Nat.le_trans hd hR, by show 8 + (M'.2.2.1 + 11) + (64 * d' + 40) ≤ R.locals; omega⟩
  have hrun := vx_runIN (l := kL K) (e := e) (below := below) (meth := meth) (locs := locs) (As := As.map (vv K)) (rest := rest.map (vv K)) (b := kA K a) (g := F0 m pc ls _) ⟨F.1, F.2.1, F.2.2.1, F.2.2.2.1, hts⟩ hSp9 ⟨hB, hnm, hts _ hci⟩
    ⟨blind hK, fun U hU hW => ⟨rfl, by rw [hU]; exact hP, Kst_call hK hKs hS hU hW⟩⟩ rfl ((List.length_map _).trans hn) hl.1 rfl (lv_room (by rw [vv_sum]; exact hw)) hdg ⟨Nat.le_trans hcs.1 hRc, Nat.le_trans hcs.2 hRs⟩
  rw [List.map_append, List.map_reverse]
  exact G_back hK hrun F hS hl kk kx
/-! ends -/
theorem Q_of {K : GK} {P : Option Value → VH → Prop} {s t : State} {a : Array Value} {H : Heap} {locs : List Loc} {v : Option Value} (hS : va_S (kF K) s.heap H locs) (hP : Ph K h H) (hp : P v h) (ht : t.heap = H) : QcP K P a s (.returned (v.map (vv K))) t :=
  ⟨⟨v, h, rfl, hp, by rw [ht]; exact hP⟩, hS.F ht⟩
theorem G_iret {P : Option Value → VH → Prop} {v : Int32} {ty : FieldType} (hdg : decode M.2.1 pc = .ok (.ireturn, 1)) (hr : M.2.2.2 = some ty) (hn : narrow ty (.int v) = .int v) (hcs : uc ≤ mc ∧ us ≤ ms) (hp : P (some (.int v)) h) : G K M d mc ms uc us pc L [.int v] h (QcP K P) XC := by
  intro hK p e R s m args below meth c H locs ls F hS hP hl
  refine vx_ret (W.widen hcs.1 hcs.2 ?_)
  exact W.zret (ty := ty) F.1 F.2.1 (F.2.2.2.2.2.1.trans hr) hn (fun t ht hW => Q_of (v := some (.int v)) hS hP hp ht) hS.2.2 hdg F.2.2.2.2.2.2.1
theorem G_lret {P : Option Value → VH → Prop} {v : Int64} (hdg : decode M.2.1 pc = .ok (.lreturn, 1)) (hr : M.2.2.2 = some .long) (hcs : uc ≤ mc ∧ us ≤ ms) (hp : P (some (.long v)) h) : G K M d mc ms uc us pc L [.long v] h (QcP K P) XC := by
  intro hK p e R s m args below meth c H locs ls F hS hP hl
  refine vx_ret (W.widen hcs.1 hcs.2 ?_)
  exact W.lret F.1 F.2.1 (F.2.2.2.2.2.1.trans hr) (fun t ht hW => Q_of (v := some (.long v)) hS hP hp ht) hS.2.2 hdg F.2.2.2.2.2.2.1
theorem G_vret {P : Option Value → VH → Prop} (hdg : decode M.2.1 pc = .ok (.return_, 1)) (hr : M.2.2.2 = none) (hcs : uc ≤ mc ∧ us ≤ ms) (hp : P none h) : G K M d mc ms uc us pc L [] h (QcP K P) XC := by
  intro hK p e R s m args below meth c H locs ls F hS hP hl
  refine vx_ret (W.widen hcs.1 hcs.2 ?_)
  exact W.vret F.1 F.2.1 (F.2.2.2.2.2.1.trans hr) (fun t ht hW => Q_of (v := none) hS hP hp ht) hS.2.2 hdg F.2.2.2.2.2.2.1
theorem G_aret {P : Option Value → VH → Prop} {a : Nat} {C : String} (hdg : decode M.2.1 pc = .ok (.areturn, 1)) (hr : M.2.2.2 = some (.object C)) (hcs : uc ≤ mc ∧ us ≤ ms) (hp : P (some (.ref a)) h) : G K M d mc ms uc us pc L [.ref a] h (QcP K P) XC := by
  intro hK p e R s m args below meth c H locs ls F hS hP hl
  refine vx_ret (W.widen hcs.1 hcs.2 ?_)
  exact W.aret (v := .ref (kA K a)) F.1 F.2.1 (F.2.2.2.2.2.1.trans hr) (Or.inl ⟨_, rfl⟩) (Or.inr ⟨_, rfl⟩) (fun t ht hW => Q_of (v := some (.ref a)) hS hP hp ht) hS.2.2 hdg F.2.2.2.2.2.2.1
end GN
/-- the locals with which a method begins -/
theorem lv_args_map (K : GK) (as : List Value) : ∀ i : Nat, lv_args i (as.map (vv K)) = (lv_args i as).map (vl K) := by
  induction as with
  | nil => intro i; rfl
  | cons a as ih =>
    intro i
    show (i, vv K a) :: lv_args (if (vv K a).category = 2 then i + 2 else i + 1) (as.map (vv K)) = (i, vv K a) :: (lv_args (if a.category = 2 then i + 2 else i + 1) as).map (vl K)
    rw [vv_cat, ih]
/-- A CONTRACT, from the walk of the body -/
theorem Sp_of {K : GK} {M : MD} {d mc ms : Nat} {as : List Value} {h : VH} {P : Option Value → VH → Prop} {X : String → VH → Prop} (hy : plainName M.1.cls = true) (hn : ((as.map fun v => v.category).sum) ≤ M.2.2.1) (hG : G K M d mc ms 0 0 0 (lv_args 0 as) [] h (QcP K P) (XcP K X)) (hx : ¬ M.1.name = "isGone" := by decide) : Sp K M d mc ms as h P X := by
  intro hK
  refine vx_ofW (cc := M.2.1) (maxL := M.2.2.1) (ret := M.2.2.2) hy rfl ?_
  intro p e s m args below meth c s₁ B hml hno hv
  obtain ⟨rfl, hP, hKs⟩ := hv
  have hts9 := atoms_spec (ws := Cond.code M.1 M.2.1 M.2.2.1 M.2.2.2 :: tbG) B.pre
  have hts : ∀ w ∈ tbG, w.before (as.map (vv K)).toArray s = true := fun w hw => hts9 w (List.mem_cons_of_mem _ hw)
  have hlen : (lg_sl (as.map (vv K))).length ≤ M.2.2.1 := by
    refine Nat.le_trans (Nat.le_of_eq ?_) hn
    clear hn hG hP hKs hts9 hts B
    induction as with
    | nil => rfl
    | cons a as ih =>
      simp only [List.map_cons, List.sum_cons]
      rw [← ih]
      unfold lg_sl
      rw [List.flatMap_cons, List.length_append]
      congr 1
      cases a <;> rfl
  have hl := lv_entry (as.map (vv K)) (n := M.2.2.1) hlen
  rw [lv_args_map] at hl
  rw [lg_entry_eq]
  exact hG hK p e (Rm d mc ms) s m _ below meth c s.heap [] _ ⟨B.exec, B.bytes, hml, findClass_of_methodNamed B.named, hts, B.returns, B.notSynchronized, ⟨(name_of_methodNamed B.named B.method).1, by unfold exT; rw [if_neg hx]; exact List.eq_nil_iff_forall_not_mem.mpr fun z hz => hno z hz⟩, Nat.le_refl _, Nat.le_refl _, Nat.le_refl _, Nat.le_refl _, hKs⟩ va_S.rf hP hl
