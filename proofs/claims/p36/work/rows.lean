section
-- ===== PART A: goes FIRST, ahead of the names: the tables' words, and 'selects' of the private methods out of them =====
/-- a private method of a class that the tables say can be made, by its rows of tables_1 -/
def lw_okq (q : MethodName × Nat) : Prop := (q.1.cls ≠ "java/lang/invoke/MethodHandle" ∧ q.1.cls ≠ "java/lang/invoke/VarHandle") ∧ Cond.instantiable q.1.cls q.2 ∈ tables_1 ∧ Cond.privateMethod q.1 ∈ tables_1 ∧ Cond.instanceMethod q.1 ∈ tables_1
theorem lw_p0 : lw_okq (⟨"java/lang/Throwable", "fillInStackTrace", "(I)Ljava/lang/Throwable;"⟩, 6) := ⟨⟨by decide +kernel, by decide +kernel⟩, List.mem_of_getElem? (i := 231) (by decide +kernel), List.mem_of_getElem? (i := 229) (by decide +kernel), List.mem_of_getElem? (i := 230) (by decide +kernel)⟩
theorem lw_p1 : lw_okq (⟨"CairnIndex$Tree", "fell", "()V"⟩, 10) := ⟨⟨by decide +kernel, by decide +kernel⟩, List.mem_of_getElem? (i := 120) (by decide +kernel), List.mem_of_getElem? (i := 293) (by decide +kernel), List.mem_of_getElem? (i := 294) (by decide +kernel)⟩
theorem lw_p2 : lw_okq (⟨"CairnIndex$Tree", "addNode", "(I)I"⟩, 10) := ⟨⟨by decide +kernel, by decide +kernel⟩, List.mem_of_getElem? (i := 120) (by decide +kernel), List.mem_of_getElem? (i := 297) (by decide +kernel), List.mem_of_getElem? (i := 298) (by decide +kernel)⟩
theorem lw_p3 : lw_okq (⟨"CairnIndex$Tree", "settle", "(II)V"⟩, 10) := ⟨⟨by decide +kernel, by decide +kernel⟩, List.mem_of_getElem? (i := 120) (by decide +kernel), List.mem_of_getElem? (i := 318) (by decide +kernel), List.mem_of_getElem? (i := 319) (by decide +kernel)⟩
theorem lw_p4 : lw_okq (⟨"CairnIndex$Tree", "halfSide", "(I)I"⟩, 10) := ⟨⟨by decide +kernel, by decide +kernel⟩, List.mem_of_getElem? (i := 120) (by decide +kernel), List.mem_of_getElem? (i := 327) (by decide +kernel), List.mem_of_getElem? (i := 328) (by decide +kernel)⟩
theorem lw_p5 : lw_okq (⟨"CairnIndex$Tree", "split", "(ILCairnIndex$Things;)V"⟩, 10) := ⟨⟨by decide +kernel, by decide +kernel⟩, List.mem_of_getElem? (i := 120) (by decide +kernel), List.mem_of_getElem? (i := 331) (by decide +kernel), List.mem_of_getElem? (i := 332) (by decide +kernel)⟩
theorem lw_p6 : lw_okq (⟨"CairnIndex$Tree", "quarterOf", "(III)I"⟩, 10) := ⟨⟨by decide +kernel, by decide +kernel⟩, List.mem_of_getElem? (i := 120) (by decide +kernel), List.mem_of_getElem? (i := 335) (by decide +kernel), List.mem_of_getElem? (i := 336) (by decide +kernel)⟩
theorem lw_p7 : lw_okq (⟨"CairnIndex", "layerAt", "(I)LCairnIndex$Layer;"⟩, 5) := ⟨⟨by decide +kernel, by decide +kernel⟩, List.mem_of_getElem? (i := 16) (by decide +kernel), List.mem_of_getElem? (i := 343) (by decide +kernel), List.mem_of_getElem? (i := 344) (by decide +kernel)⟩
theorem lw_p8 : lw_okq (⟨"CairnIndex", "checkRoomFor", "(I)V"⟩, 5) := ⟨⟨by decide +kernel, by decide +kernel⟩, List.mem_of_getElem? (i := 16) (by decide +kernel), List.mem_of_getElem? (i := 395) (by decide +kernel), List.mem_of_getElem? (i := 396) (by decide +kernel)⟩
theorem lw_p9 : lw_okq (⟨"CairnIndex", "layerOfThing", "(I)LCairnIndex$Layer;"⟩, 5) := ⟨⟨by decide +kernel, by decide +kernel⟩, List.mem_of_getElem? (i := 16) (by decide +kernel), List.mem_of_getElem? (i := 419) (by decide +kernel), List.mem_of_getElem? (i := 420) (by decide +kernel)⟩
theorem lw_p10 : lw_okq (⟨"CairnIndex$Tree", "orderToPack", "(LCairnIndex$Boxes;II)V"⟩, 10) := ⟨⟨by decide +kernel, by decide +kernel⟩, List.mem_of_getElem? (i := 120) (by decide +kernel), List.mem_of_getElem? (i := 460) (by decide +kernel), List.mem_of_getElem? (i := 461) (by decide +kernel)⟩
theorem lw_p11 : lw_okq (⟨"CairnIndex$Tree", "cutLeaves", "(LCairnIndex$Boxes;II)V"⟩, 10) := ⟨⟨by decide +kernel, by decide +kernel⟩, List.mem_of_getElem? (i := 120) (by decide +kernel), List.mem_of_getElem? (i := 484) (by decide +kernel), List.mem_of_getElem? (i := 485) (by decide +kernel)⟩
theorem lw_p12 : lw_okq (⟨"CairnIndex$Tree", "copyBox", "(ILCairnIndex$Boxes;I)V"⟩, 10) := ⟨⟨by decide +kernel, by decide +kernel⟩, List.mem_of_getElem? (i := 120) (by decide +kernel), List.mem_of_getElem? (i := 488) (by decide +kernel), List.mem_of_getElem? (i := 489) (by decide +kernel)⟩
theorem lw_p13 : lw_okq (⟨"CairnIndex$Tree", "cutNodes", "(IIII)V"⟩, 10) := ⟨⟨by decide +kernel, by decide +kernel⟩, List.mem_of_getElem? (i := 120) (by decide +kernel), List.mem_of_getElem? (i := 498) (by decide +kernel), List.mem_of_getElem? (i := 499) (by decide +kernel)⟩
theorem lw_p14 : lw_okq (⟨"CairnIndex", "keyOfNearest", "(IIII)I"⟩, 5) := ⟨⟨by decide +kernel, by decide +kernel⟩, List.mem_of_getElem? (i := 16) (by decide +kernel), List.mem_of_getElem? (i := 581) (by decide +kernel), List.mem_of_getElem? (i := 582) (by decide +kernel)⟩
theorem lw_p15 : lw_okq (⟨"CairnIndex$Things", "countNear", "(IIII)I"⟩, 6) := ⟨⟨by decide +kernel, by decide +kernel⟩, List.mem_of_getElem? (i := 24) (by decide +kernel), List.mem_of_getElem? (i := 612) (by decide +kernel), List.mem_of_getElem? (i := 613) (by decide +kernel)⟩
def lw_privs_1 : List (MethodName × Nat) := [(⟨"java/lang/Throwable", "fillInStackTrace", "(I)Ljava/lang/Throwable;"⟩, 6), (⟨"CairnIndex$Tree", "fell", "()V"⟩, 10), (⟨"CairnIndex$Tree", "addNode", "(I)I"⟩, 10), (⟨"CairnIndex$Tree", "settle", "(II)V"⟩, 10), (⟨"CairnIndex$Tree", "halfSide", "(I)I"⟩, 10), (⟨"CairnIndex$Tree", "split", "(ILCairnIndex$Things;)V"⟩, 10), (⟨"CairnIndex$Tree", "quarterOf", "(III)I"⟩, 10), (⟨"CairnIndex", "layerAt", "(I)LCairnIndex$Layer;"⟩, 5), (⟨"CairnIndex", "checkRoomFor", "(I)V"⟩, 5), (⟨"CairnIndex", "layerOfThing", "(I)LCairnIndex$Layer;"⟩, 5), (⟨"CairnIndex$Tree", "orderToPack", "(LCairnIndex$Boxes;II)V"⟩, 10), (⟨"CairnIndex$Tree", "cutLeaves", "(LCairnIndex$Boxes;II)V"⟩, 10), (⟨"CairnIndex$Tree", "copyBox", "(ILCairnIndex$Boxes;I)V"⟩, 10), (⟨"CairnIndex$Tree", "cutNodes", "(IIII)V"⟩, 10), (⟨"CairnIndex", "keyOfNearest", "(IIII)I"⟩, 5), (⟨"CairnIndex$Things", "countNear", "(IIII)I"⟩, 6)]
theorem lw_r1 : ∀ q ∈ lw_privs_1, lw_okq q := List.forall_mem_cons.mpr ⟨lw_p0, List.forall_mem_cons.mpr ⟨lw_p1, List.forall_mem_cons.mpr ⟨lw_p2, List.forall_mem_cons.mpr ⟨lw_p3, List.forall_mem_cons.mpr ⟨lw_p4, List.forall_mem_cons.mpr ⟨lw_p5, List.forall_mem_cons.mpr ⟨lw_p6, List.forall_mem_cons.mpr ⟨lw_p7, List.forall_mem_cons.mpr ⟨lw_p8, List.forall_mem_cons.mpr ⟨lw_p9, List.forall_mem_cons.mpr ⟨lw_p10, List.forall_mem_cons.mpr ⟨lw_p11, List.forall_mem_cons.mpr ⟨lw_p12, List.forall_mem_cons.mpr ⟨lw_p13, List.forall_mem_cons.mpr ⟨lw_p14, List.forall_mem_cons.mpr ⟨lw_p15, fun _ h => absurd h List.not_mem_nil⟩⟩⟩⟩⟩⟩⟩⟩⟩⟩⟩⟩⟩⟩⟩⟩
theorem lw_p16 : lw_okq (⟨"CairnIndex$Things", "joinClusters", "(II)V"⟩, 6) := ⟨⟨by decide +kernel, by decide +kernel⟩, List.mem_of_getElem? (i := 24) (by decide +kernel), List.mem_of_getElem? (i := 638) (by decide +kernel), List.mem_of_getElem? (i := 639) (by decide +kernel)⟩
theorem lw_p17 : lw_okq (⟨"CairnIndex$Fence", "next", "(I)I"⟩, 3) := ⟨⟨by decide +kernel, by decide +kernel⟩, List.mem_of_getElem? (i := 101) (by decide +kernel), List.mem_of_getElem? (i := 696) (by decide +kernel), List.mem_of_getElem? (i := 697) (by decide +kernel)⟩
def lw_privs_2 : List (MethodName × Nat) := [(⟨"CairnIndex$Things", "joinClusters", "(II)V"⟩, 6), (⟨"CairnIndex$Fence", "next", "(I)I"⟩, 3)]
theorem lw_r2 : ∀ q ∈ lw_privs_2, lw_okq q := List.forall_mem_cons.mpr ⟨lw_p16, List.forall_mem_cons.mpr ⟨lw_p17, fun _ h => absurd h List.not_mem_nil⟩⟩
def lw_privs : List (MethodName × Nat) := lw_privs_1 ++ (lw_privs_2)
def lw_tbl : List Cond := k2_sels lw_privs ++ tables_1
theorem lw_privs_ok : ∀ q ∈ lw_privs, lw_okq q := by
  show ∀ q ∈ lw_privs_1 ++ (lw_privs_2), lw_okq q
  exact List.forall_mem_append.mpr ⟨lw_r1, lw_r2⟩
/-! ===== BEGIN words of one list among another's, by their places ===== -/
theorem goodIn_r {big : List Cond} (ws : List Cond) (ps : List Nat) (hp : ws = ps.filterMap (fun i => big[i]?)) (h : ws.all goodWord = true) : GoodIn big ws := by
  intro w hw
  have h1 := List.all_eq_true.mp h w hw
  rw [hp] at hw
  obtain ⟨i, -, hi⟩ := List.mem_filterMap.mp hw
  have hm : w ∈ big := by first | exact List.mem_of_getElem? hi | exact List.getElem?_mem hi
  exact ⟨hm, good_of_word h1⟩
theorem goodIn_app {big a b : List Cond} (ha : GoodIn big a) (hb : GoodIn big b) : GoodIn big (a ++ b) := fun w h => (List.mem_append.mp h).elim (ha w) (hb w)
theorem goodIn_ca {big a b : List Cond} {c : Cond} (ha : GoodIn big (c :: a)) (hb : GoodIn big b) : GoodIn big (c :: (a ++ b)) := fun w h => (List.mem_cons.mp h).elim (fun e => ha w (List.mem_cons.mpr (Or.inl e))) (fun h => (List.mem_append.mp h).elim (fun h => ha w (List.mem_cons.mpr (Or.inr h))) (hb w))
theorem goodIn_sub {big ws : List Cond} (hm : ∀ w ∈ ws, w ∈ big) (h : ws.all goodWord = true) : GoodIn big ws := fun w hw => ⟨hm w hw, good_of_word (List.all_eq_true.mp h w hw)⟩
/-! ===== END ===== -/

/-! ===== BEGIN exceptions that leave a method, and their catching by the caller (launches without stack traces) ===== -/
section VXA
/-! The laws vx_back, vx_callV, vx_callS, vx_callSW, vx_throw0, vx_throwS follow proofs of the library, with one case more: JvmDerived/Free/Laws.lean (Back.of_free), Shelf42/LK1.lean (callV, callS), Shelf/KitTraced.lean (throwNew0V, throwNewS). -/
/-- where a method has thrown q: the class by its name, the cell, what was written, the world -/
def vx_T (XC : String → State → State → Prop) (st : State) (q : Addr) (t : State) (mc ms : Nat) (free : Addr → Prop) : Prop :=
  ∃ (E : String) (ce : Cell) (L : List Loc), XC E st t ∧ t.heap[q]? = some ce ∧ ce.vm = .none ∧ st.vm.findClass E = some ce.cls ∧ st.WarmedH t.vm ∧ st.sameButNew ({ t with vm := st.vm } : State) L mc ms ∧ ∀ z ∈ L, free z.base
def vx_Q (Qc : Array Value → State → Outcome → State → Prop) (XC : String → State → State → Prop) (mc ms : Nat) (free : Addr → Prop) : Array Value → State → Outcome → State → Prop := fun a st o t =>
  (Qc a st o t ∧ ∃ L, FrameEnd st o t L mc ms ∧ ∀ q ∈ L, free q.base) ∨ ∃ q, o = .threw q ∧ vx_T XC st q t mc ms free
/-- a callee that returns or throws -/
def vx_Met (l : Launch) (y : MethodName) (ws : List Cond) (rm : Room) (Pc : Array Value → State → Prop) (Qc : Array Value → State → Outcome → State → Prop) (XC : String → State → State → Prop) (mc ms : Nat) (free : Addr → Prop) : Prop :=
  MetFree l y (headSpec ws rm) Pc (fun _ _ _ _ _ => True) (vx_Q Qc XC mc ms free)
def vx_Post (XC : String → State → State → Prop) (mc ms : Nat) (free : Addr → Prop) : Pt → Array Value → Addr → Pt → Prop := fun A a q B =>
  ∃ (g : JFrame) (mk : MethodId) (t : State) (L : List Loc) (E : String) (ce : Cell), B.U.heap = t.heap ∧ B.U.vm = t.vm ∧ XC E (A.U.calling g mk a) t ∧ t.heap[q]? = some ce ∧ ce.vm = .none ∧ A.U.vm.findClass E = some ce.cls ∧ B.locs = A.locs ++ L ∧ (∀ z ∈ L, free z.base) ∧ B.cells = A.cells + mc ∧ B.slots = A.slots + ms
def vx_Back (l : Launch) (R : Room) (p : Program) (e : Env) (below : List Frame) (s : State) (sargs : Array Value) (y : MethodName) (len W9 : Nat)
    (Pre : Pt → Array Value → Prop) (Post : Pt → Array Value → Option Value → Pt → Prop) (PostX : Pt → Array Value → Addr → Pt → Prop) : Prop :=
  ∀ (m : MethodId) (meth : Method) (c : Code) (A : Pt) (g : JFrame) (ig : Instr) (mk : MethodId) (a : Array Value),
    Stand p l e R s m sargs below meth c A.U A.locs A.cells A.slots → g.method = m → g.locals.size = c.maxLocals → decode c.code g.pc = .ok (ig, len) →
    2 * g.monitorRoom + (g.stack.map fun v => v.category).sum ≤ W9 → A.U.methodNamed? y = some mk → Pre A a →
    (∃ (v : Option Value) (B : Pt), Stand p l e R s m sargs below meth c B.U B.locs B.cells B.slots ∧ Post A a v B ∧
      Steps p.tables e below (doInvoke e (A.U.setTop g) [] mk a).1 (B.U.setTop { g with pc := g.pc + len, stack := v.toList ++ g.stack })) ∨
    (∃ (q : Addr) (B : Pt), Stand p l e R s m sargs below meth c B.U B.locs B.cells B.slots ∧ PostX A a q B ∧
      Steps p.tables e below (doInvoke e (A.U.setTop g) [] mk a).1 ((B.U.setTop g).pushFrame (.throwing q)))
section Payer
variable {l : Launch} {R : Room} {p : Program} {e : Env} {below : List Frame} {s : State} {sargs : Array Value} {y : MethodName} {len W9 : Nat}
theorem vx_back {ws : List Cond} {rm : Room} {Pc : Array Value → State → Prop} {Qc : Array Value → State → Outcome → State → Prop} {XC : String → State → State → Prop} {mc ms : Nat} {free : Addr → Prop} {bytes : ByteArray} {maxL : Nat} {ret : Option FieldType}
    (hM : vx_Met l y ws rm Pc Qc XC mc ms free) (hblind : FrameBlind Pc) (hrc : rm.cells = mc) (hrs : rm.slots = ms)
    (hframes : rm.frames + 1 ≤ R.frames) (hlocals : W9 + (maxL + 11) + rm.locals ≤ R.locals)
    (hws : ∀ w ∈ ws, ∀ a' U, s.WarmedH U.vm → w.before a' U = true) (hcode : Cond.code y bytes maxL ret ∈ ws) (hinit : ∀ a' U, s.WarmedH U.vm → (Cond.initialized y.cls).before a' U = true) :
    vx_Back l R p e below s sargs y len W9 (PreOf R mc ms Pc) (PostOf Qc mc ms free) (vx_Post XC mc ms free) := by
  intro m meth c A g ig mk a X hg hsize hdg hW hn hp
  have h1 : (headSpec ws rm).pre.before a A.U = true := atoms_intro fun w hw => hws w hw _ _ X.warmed
  have h2 : (Cond.code y bytes maxL ret).before a A.U = true := hws _ hcode _ _ X.warmed
  have h3 : (Cond.initialized y.cls).before a A.U = true := hinit _ _ X.warmed
  have h4 : A.cells + (headSpec ws rm).room.cells ≤ R.cells := by rw [show (headSpec ws rm).room.cells = mc from hrc]; exact hp.1
  have h5 : A.slots + (headSpec ws rm).room.slots ≤ R.slots := by rw [show (headSpec ws rm).room.slots = ms from hrs]; exact hp.2.1
  have hPc : Pc a (A.U.calling g mk a) := hblind _ _ _ _ hp.2.2
  obtain ⟨U, Ls, c0, s0⟩ := A
  dsimp only [Pt.U, Pt.locs, Pt.cells, Pt.slots] at h1 h2 h3 h4 h5 X hn hPc ⊢
  obtain ⟨methY, cY, hmY, hcY, -, hlY, -, -, -, -⟩ := Cond.code_spec hn h2
  obtain ⟨kY, hkY, -⟩ := className_of_methodNamed hn
  have hinitY : kY.init = .initialized := Cond.initialized_spec (findClass_of_methodNamed hn) hkY h3
  have h : At U g.method c below := by rw [hg]; exact X.here
  have hlocals9 : W9 + (maxL + 11) + (headSpec ws rm).room.locals ≤ R.locals := hlocals
  have happ : (headSpec ws rm).appliesLoose y e.platform (U.calling g mk a) = true :=
    Spec.appliesLoose_calling (g := g) h hdg hn hkY hinitY
      (X.room_calling (g := g) (R' := (headSpec ws rm).room) hsize hmY hcY hframes (by rw [hlY]; omega) h4 h5) h1
  obtain ⟨mid, hmid⟩ := h.above
  have hfr : (U.setTop g).frames = (.java g :: mid) ++ below := by rw [State.frames_setTop' g h.top, hmid]; rfl
  obtain ⟨o, s₂, hsteps, -, hend, hq⟩ := Steps.callFree hM p X.admits X.cas X.clock (acts := []) hfr happ hPc trivial
  have hq' : vx_Q Qc XC mc ms free a (U.calling g mk a) o s₂ := hq
  rw [State.frames_setTop' g h.top] at hend
  obtain ⟨g₀, hg0⟩ := Option.isSome_iff_exists.mp h.top
  obtain ⟨r, hr⟩ := State.topJava?_eq_some.mp hg0
  have hr' : (({ U with heap := s₂.heap, slotsUsed := s₂.slotsUsed } : State).setVm s₂.vm).frames = .java g₀ :: r := hr
  rcases hq' with ⟨hqc, L, hfe, hL⟩ | ⟨q, rfl, E, ce, L, hx, hce, hcv, hcl, hW₂, hsm, hL⟩
  · obtain ⟨⟨v, rfl⟩, hW₂, e2, q2, q3, q4, q5, q6⟩ := id hfe
    have e3 : s₂ = ({ (U.calling g mk a).setFrames s₂.frames with heap := s₂.heap, slotsUsed := s₂.slotsUsed } : State).setVm s₂.vm := by
      have : s₂ = ({ s₂ with vm := (U.calling g mk a).vm } : State).setVm s₂.vm := rfl
      rw [e2] at this
      exact this
    obtain ⟨c₂, i₂, len₂, hc₂, hd₂, hf₂⟩ := hend
    have hW' : U.WarmedH s₂.vm := hW₂
    have hcc : c₂ = c := by
      have h1 : s₂.code? g.method = U.code? g.method := by
        rw [State.code?_eq, State.code?_eq, hW'.alike.method?]
      exact Option.some.inj (hc₂.symm.trans (h1.trans h.code))
    subst hcc
    have hlen : len₂ = len := by rw [hdg] at hd₂; cases hd₂; rfl
    subst hlen
    have hs₂ : s₂ = (({ U with heap := s₂.heap, slotsUsed := s₂.slotsUsed } : State).setVm s₂.vm).setTop { g with pc := g.pc + len₂, stack := v.toList ++ g.stack } := by
      refine e3.trans ?_
      rw [hf₂, State.calling_eq h.top, State.setFrames_setFrames, State.setTop_of_frames _ hr', hr]
      rfl
    have hsame : U.sameButNew ({ U with heap := s₂.heap, slotsUsed := s₂.slotsUsed } : State) L mc ms := by
      refine ⟨?_, q2, q3, q4, q5, q6⟩
      obtain ⟨t, ht, -⟩ := State.frames_cons hr
      show ({ U with heap := s₂.heap, slotsUsed := s₂.slotsUsed } : State) = { U.setFrames U.frames with heap := s₂.heap, slotsUsed := s₂.slotsUsed }
      rw [State.setFrames_self ht]
    subst hg
    refine Or.inl ⟨v, ⟨(({ U with heap := s₂.heap, slotsUsed := s₂.slotsUsed } : State).setVm s₂.vm), Ls ++ L, c0 + mc, s0 + ms⟩,
      ⟨X.admits, X.cas, X.clock, X.frames, X.room, X.hears, X.method, X.code, (X.here.setHeapUsed s₂.heap s₂.slotsUsed).setVm hW'.alike, X.tail, State.WarmedH.trans X.warmed hW', X.limits, X.bytes, X.same.trans (hsame.setVm s.vm)⟩,
      ⟨g, mk, s₂, L, rfl, rfl, hqc, rfl, hL, rfl, rfl⟩, ?_⟩
    show Steps p.tables e below _ ((({ U with heap := s₂.heap, slotsUsed := s₂.slotsUsed } : State).setVm s₂.vm).setTop { g with pc := g.pc + len₂, stack := v.toList ++ g.stack })
    rw [← hs₂]
    exact hsteps
  · obtain ⟨e2, q2, q3, q4, q5, q6⟩ := id hsm
    have e3 : s₂ = ({ (U.calling g mk a).setFrames s₂.frames with heap := s₂.heap, slotsUsed := s₂.slotsUsed } : State).setVm s₂.vm := by
      have : s₂ = ({ s₂ with vm := (U.calling g mk a).vm } : State).setVm s₂.vm := rfl
      rw [e2] at this
      exact this
    have hf₂ : s₂.frames = .throwing q :: .java g :: U.frames.tail := hend
    have hW' : U.WarmedH s₂.vm := hW₂
    have hs₂ : s₂ = ((({ U with heap := s₂.heap, slotsUsed := s₂.slotsUsed } : State).setVm s₂.vm).setTop g).pushFrame (.throwing q) := by
      refine e3.trans ?_
      rw [hf₂, State.calling_eq h.top, State.setFrames_setFrames, State.pushFrame, State.frames_setTop _ hr', State.setTop_of_frames _ hr', State.setFrames_setFrames, hr]
      rfl
    have hsame : U.sameButNew ({ U with heap := s₂.heap, slotsUsed := s₂.slotsUsed } : State) L mc ms := by
      refine ⟨?_, q2, q3, q4, q5, q6⟩
      obtain ⟨t, ht, -⟩ := State.frames_cons hr
      show ({ U with heap := s₂.heap, slotsUsed := s₂.slotsUsed } : State) = { U.setFrames U.frames with heap := s₂.heap, slotsUsed := s₂.slotsUsed }
      rw [State.setFrames_self ht]
    subst hg
    refine Or.inr ⟨q, ⟨(({ U with heap := s₂.heap, slotsUsed := s₂.slotsUsed } : State).setVm s₂.vm), Ls ++ L, c0 + mc, s0 + ms⟩,
      ⟨X.admits, X.cas, X.clock, X.frames, X.room, X.hears, X.method, X.code, (X.here.setHeapUsed s₂.heap s₂.slotsUsed).setVm hW'.alike, X.tail, State.WarmedH.trans X.warmed hW', X.limits, X.bytes, X.same.trans (hsame.setVm s.vm)⟩,
      ⟨g, mk, s₂, L, E, ce, rfl, rfl, hx, hce, hcv, hcl, rfl, hL, rfl, rfl⟩, ?_⟩
    show Steps p.tables e below _ (((({ U with heap := s₂.heap, slotsUsed := s₂.slotsUsed } : State).setVm s₂.vm).setTop g).pushFrame (.throwing q))
    rw [← hs₂]
    exact hsteps
end Payer
section Calls
variable {p : Program} {l : Launch} {e : Env} {R : Room} {s : State} {m : MethodId} {args : Array Value} {below : List Frame} {meth : Method} {c : Code} {T : State} {locs : List Loc} {cells slots : Nat}
theorem vx_callV (X : Stand p l e R s m args below meth c T locs cells slots) (hexec : p.tables.exec = Jvm.exec) {own C : String} {index : Nat} {y : MethodName} {bytes : ByteArray} {maxL : Nat} {ret : Option FieldType}
    (hown : s.vm.findClass own = some m.cls) (hlink : (Cond.methodLink own index y).before args s = true) (hinst : (Cond.instanceMethod y).before args s = true) (hsel : (Cond.selects C y y).before args s = true)
    (hcode : (Cond.code y bytes maxL ret).before args s = true) (hy : y.cls ≠ "java/lang/invoke/MethodHandle" ∧ y.cls ≠ "java/lang/invoke/VarHandle")
    {W9 : Nat} {Pre : Pt → Array Value → Prop} {Post : Pt → Array Value → Option Value → Pt → Prop} {PostX : Pt → Array Value → Addr → Pt → Prop} (hK : vx_Back l R p e below s args y 3 W9 Pre Post PostX)
    {b : Addr} {cellB : Cell} (hcell : T.heap[b]? = some cellB) (hobj : cellB.vm.isStatics = false) (hcls : s.vm.findClass C = some cellB.cls)
    {g : JFrame} (hg : g.method = m) (hsize : g.locals.size = c.maxLocals) {argsL rest : List Value} (hlen : ∀ sig, parseMethodDescriptor y.desc = some sig → argsL.length = sig.parameters.length)
    (hstack : g.stack = argsL.reverse ++ .ref b :: rest) (hW : 2 * g.monitorRoom + (rest.map fun v => v.category).sum ≤ W9) (hdg : decode c.code g.pc = .ok (.invokevirtual index, 3))
    (hpre : ∀ vm₁, s.WarmedH vm₁ → Pre ⟨T.setVm vm₁, locs, cells, slots⟩ (Value.ref b :: argsL).toArray) :
    (∃ (v : Option Value) (vm₁ : Vm) (B : Pt), s.WarmedH vm₁ ∧ Stand p l e R s m args below meth c B.U B.locs B.cells B.slots ∧ Post ⟨T.setVm vm₁, locs, cells, slots⟩ (Value.ref b :: argsL).toArray v B ∧
      ∀ target, Steps p.tables e below (B.U.setTop { g with pc := g.pc + 3, stack := v.toList ++ rest }) target → Steps p.tables e below (T.setTop g) target) ∨
    (∃ (q : Addr) (vm₁ : Vm) (B : Pt), s.WarmedH vm₁ ∧ Stand p l e R s m args below meth c B.U B.locs B.cells B.slots ∧ PostX ⟨T.setVm vm₁, locs, cells, slots⟩ (Value.ref b :: argsL).toArray q B ∧
      Steps p.tables e below (T.setTop g) ((B.U.setTop { g with stack := rest }).pushFrame (.throwing q))) := by
  obtain ⟨mk, methM, hnamed, hmethM, hstM, habM⟩ := Cond.instanceMethod_spec hinst
  obtain ⟨methM', cM, hmethM', -, -, -, -, -, -, hsigM⟩ := Cond.code_spec hnamed hcode
  cases hmethM.symm.trans hmethM'
  obtain ⟨c2, r2, m2, q1, q2, q3, q4, kP, hkP, hkPi⟩ := Cond.selects_spec hsel
  cases hcls.symm.trans q1
  cases (State.methodFound?_of_named hnamed hy).symm.trans q2
  cases hnamed.symm.trans q3
  have hselP : selectMethod e.platform s.vm cellB.cls mk = .method mk := by rw [Launch.admits_selectMethod X.admits]; exact q4
  obtain ⟨vm₁, X₁, hstep₁⟩ := X.invokevirtual hexec hown hlink hnamed hmethM hstM hkP hkPi hy (a := b) (cell := cellB) hcell
    (fun z h => by rw [h] at hobj; cases hobj) hselP hmethM habM hkP hkPi (g := g) hg (argsL := argsL) (rest := rest) (hlen _ hsigM) hstack hdg
  rcases hK m meth c ⟨T.setVm vm₁, locs, cells, slots⟩ { g with stack := rest } (.invokevirtual index) mk (Value.ref b :: argsL).toArray X₁ hg hsize hdg hW (X₁.named hnamed) (hpre vm₁ X₁.warmed) with ⟨v, B, X', hpost, hsteps⟩ | ⟨q, B, X', hpost, hsteps⟩
  · exact Or.inl ⟨v, vm₁, B, X₁.warmed, X', hpost, fun target h => hstep₁ _ fun acts => by rw [doInvoke_state]; exact hsteps.trans h⟩
  · exact Or.inr ⟨q, vm₁, B, X₁.warmed, X', hpost, hstep₁ _ fun acts => by rw [doInvoke_state]; exact hsteps⟩
theorem vx_callS (X : Stand p l e R s m args below meth c T locs cells slots) (hexec : p.tables.exec = Jvm.exec) {own : String} {index : Nat} {y : MethodName} {bytes : ByteArray} {maxL : Nat} {ret : Option FieldType}
    (hown : s.vm.findClass own = some m.cls) (hlink : (Cond.methodLink own index y).before args s = true) (hstat : (Cond.static y).before args s = true) (hinit : (Cond.initialized y.cls).before args s = true)
    (hcode : (Cond.code y bytes maxL ret).before args s = true) (hy : y.cls ≠ "java/lang/invoke/MethodHandle" ∧ y.cls ≠ "java/lang/invoke/VarHandle")
    {W9 : Nat} {Pre : Pt → Array Value → Prop} {Post : Pt → Array Value → Option Value → Pt → Prop} {PostX : Pt → Array Value → Addr → Pt → Prop} (hK : vx_Back l R p e below s args y 3 W9 Pre Post PostX)
    {g : JFrame} (hg : g.method = m) (hsize : g.locals.size = c.maxLocals) {argsL rest : List Value} (hlen : ∀ sig, parseMethodDescriptor y.desc = some sig → argsL.length = sig.parameters.length)
    (hstack : g.stack = argsL.reverse ++ rest) (hW : 2 * g.monitorRoom + (rest.map fun v => v.category).sum ≤ W9) (hdg : decode c.code g.pc = .ok (.invokestatic index, 3))
    (hpre : ∀ vm₁, s.WarmedH vm₁ → Pre ⟨T.setVm vm₁, locs, cells, slots⟩ argsL.toArray) :
    (∃ (v : Option Value) (vm₁ : Vm) (B : Pt), s.WarmedH vm₁ ∧ Stand p l e R s m args below meth c B.U B.locs B.cells B.slots ∧ Post ⟨T.setVm vm₁, locs, cells, slots⟩ argsL.toArray v B ∧
      ∀ target, Steps p.tables e below (B.U.setTop { g with pc := g.pc + 3, stack := v.toList ++ rest }) target → Steps p.tables e below (T.setTop g) target) ∨
    (∃ (q : Addr) (vm₁ : Vm) (B : Pt), s.WarmedH vm₁ ∧ Stand p l e R s m args below meth c B.U B.locs B.cells B.slots ∧ PostX ⟨T.setVm vm₁, locs, cells, slots⟩ argsL.toArray q B ∧
      Steps p.tables e below (T.setTop g) ((B.U.setTop { g with stack := rest }).pushFrame (.throwing q))) := by
  obtain ⟨mk, hnamed⟩ := Cond.code_named hcode
  obtain ⟨methM, cM, hmethM, -, -, -, -, -, -, hsigM⟩ := Cond.code_spec hnamed hcode
  have hstatic : methM.isStatic = true := Cond.static_spec hnamed hmethM hstat
  obtain ⟨kP, hkP, -⟩ := className_of_methodNamed hnamed
  have hinitP : kP.init = .initialized := Cond.initialized_spec (findClass_of_methodNamed hnamed) hkP hinit
  obtain ⟨vm₁, X₁, hstep₁⟩ := X.invokestatic hexec hown hlink hnamed hmethM hstatic hkP hinitP hy (g := g) hg (argsL := argsL) (rest := rest) (hlen _ hsigM) hstack hdg
  rcases hK m meth c ⟨T.setVm vm₁, locs, cells, slots⟩ { g with stack := rest } (.invokestatic index) mk argsL.toArray X₁ hg hsize hdg hW (X₁.named hnamed) (hpre vm₁ X₁.warmed) with ⟨v, B, X', hpost, hsteps⟩ | ⟨q, B, X', hpost, hsteps⟩
  · exact Or.inl ⟨v, vm₁, B, X₁.warmed, X', hpost, fun target h => hstep₁ _ fun acts => by rw [doInvoke_state]; exact hsteps.trans h⟩
  · exact Or.inr ⟨q, vm₁, B, X₁.warmed, X', hpost, hstep₁ _ fun acts => by rw [doInvoke_state]; exact hsteps⟩
end Calls
theorem vx_cls {s : State} {T : State} {vm₁ : Vm} {E : String} {k : ClassId} (hW : s.WarmedH vm₁) (h : (T.setVm vm₁).vm.findClass E = some k) : s.vm.findClass E = some k := by
  have h1 : vm₁.findClass E = some k := h
  rw [hW.alike.findClass] at h1
  exact h1
/-- the method's frame g, with q thrown over it -/
def vx_W (p : Program) (l : Launch) (e : Env) (R : Room) (s : State) (m : MethodId) (args : Array Value) (below : List Frame) (meth : Method) (c : Code) (H : Heap) (locs : List Loc) (cells slots : Nat) (Q : State → Prop) (g : JFrame) (q : Addr) : Prop :=
  ∀ T : State, T.heap = H → Stand p l e R s m args below meth c T locs cells slots → ∃ t, Steps p.tables e below ((T.setTop g).pushFrame (.throwing q)) t ∧ Q t
def vx_Run (p : Program) (l : Launch) (e : Env) (R : Room) (s : State) (m : MethodId) (args : Array Value) (below : List Frame) (meth : Method) (c : Code) (H : Heap) (locs : List Loc) (cells slots mc ms : Nat) (g : JFrame) (rest : List Value) (Qa : State → Outcome → State → Prop) (XC : String → State → State → Prop) (free : Addr → Prop) : Prop :=
  ∀ T : State, T.heap = H → Stand p l e R s m args below meth c T locs cells slots →
    (∃ (v : Option Value) (st₀ t T' : State) (L : List Loc), st₀.heap = H ∧ Stand p l e R s m args below meth c T' (locs ++ L) (cells + mc) (slots + ms) ∧ (∀ q ∈ L, free q.base) ∧ T'.heap = t.heap ∧ T'.vm = t.vm ∧ Qa st₀ (.returned v) t ∧
      Goes p e below T g T' { g with pc := g.pc + 3, stack := v.toList ++ rest }) ∨
    (∃ (q : Addr) (st₀ t T' : State) (L : List Loc) (E : String) (ce : Cell), st₀.heap = H ∧ Stand p l e R s m args below meth c T' (locs ++ L) (cells + mc) (slots + ms) ∧ (∀ z ∈ L, free z.base) ∧ T'.heap = t.heap ∧ T'.vm = t.vm ∧ XC E st₀ t ∧ t.heap[q]? = some ce ∧ ce.vm = .none ∧ s.vm.findClass E = some ce.cls ∧
      Steps p.tables e below (T.setTop g) ((T'.setTop { g with stack := rest }).pushFrame (.throwing q)))
def vx_X {S : Type} (px : S → Prop) (B : String → S → State → Prop) (A : Nat → Prop) : String → State → State → Prop := fun E st t => ∃ u : S, px u ∧ B E u t ∧ va_F A st t
section Runs
variable {p : Program} {l : Launch} {e : Env} {R : Room} {s : State} {m : MethodId} {args : Array Value} {below : List Frame} {meth : Method} {c : Code} {H : Heap} {locs : List Loc} {cells slots : Nat}
variable {y : MethodName} {bytes cc : ByteArray} {maxL nL mc ms n index : Nat} {ret : Option FieldType} {ws : List Cond} {rm : Room} {Pc : Array Value → State → Prop} {Qc : Array Value → State → Outcome → State → Prop} {XC : String → State → State → Prop} {free : Addr → Prop} {Ts : List Cond} {own C : String} {b : Addr} {As rest : List Value} {g : JFrame}
theorem vx_callBack (cb : CallB R s args own index y bytes maxL ret ws rm mc ms n) (hM : vx_Met l y ws rm Pc Qc XC mc ms free) (hbl : FrameBlind Pc) : vx_Back l R p e below s args y 3 8 (PreOf R mc ms Pc) (PostOf Qc mc ms free) (vx_Post XC mc ms free) := by
  obtain ⟨hrc, hrs, hfr, hlo, hws, hcw, -, hini, -⟩ := cb
  exact vx_back (bytes := bytes) (maxL := maxL) (ret := ret) hM hbl hrc hrs hfr hlo hws hcw (fun a' U hW => word_at hW (Or.inl (by first | rfl | simp [Cond.onTables, Cond.keeps, Cond.steady])) hini)
theorem vx_runV (S : CallFix p m c cc nL s args Ts own) (hM : vx_Met l y ws rm Pc Qc XC mc ms free) (cw : CallW R s args own C index y bytes maxL ret ws rm mc ms n) (hp : PreV s H C b Pc As)
    (hg : g.method = m) (hn : As.length = n) (hsize : g.locals.size = nL) (hstack : g.stack = As.reverse ++ .ref b :: rest) (hW : 2 * g.monitorRoom + (rest.map fun v => v.category).sum ≤ 8) (hdg : decode cc g.pc = .ok (.invokevirtual index, 3)) (hf : cells + mc ≤ R.cells ∧ slots + ms ≤ R.slots) :
    vx_Run p l e R s m args below meth c H locs cells slots mc ms g rest (Qc (Value.ref b :: As).toArray) XC free := by
  have hK : vx_Back l R p e below s args y 3 8 (PreOf R mc ms Pc) (PostOf Qc mc ms free) (vx_Post XC mc ms free) := vx_callBack cw.1 hM hp.1
  obtain ⟨⟨-, -, -, -, -, -, hcode, -, hy, hlen, hl⟩, hin, hse⟩ := cw
  obtain ⟨hx, hb, hml, ho, -⟩ := S
  obtain ⟨-, ⟨cellB, hcB, hoB, hclB⟩, hPc⟩ := hp
  intro T hT X
  rcases vx_callV X hx (C := C) (bytes := bytes) (maxL := maxL) (ret := ret) ho hl hin hse hcode hy hK (by rw [hT]; exact hcB) hoB hclB hg (hsize.trans hml.symm) (argsL := As) (rest := rest) (fun sig h => hn.trans (hlen sig h)) hstack hW (by rw [hb]; exact hdg)
    (fun vm₁ hW₁ => ⟨hf.1, hf.2, hPc (T.setVm vm₁) hT hW₁⟩) with ⟨v, vm₁, ⟨U', l2, c2, s2⟩, hW₁, X', ⟨g', mk, t, L, e1, e2, hq, h1, hL, h2, h3⟩, st⟩ | ⟨q, vm₁, ⟨U', l2, c2, s2⟩, hW₁, X', ⟨g', mk, t, L, E, ce, e1, e2, hq, hce, hcv, hcl, h1, hL, h2, h3⟩, st⟩
  · dsimp only [Pt.U, Pt.locs, Pt.cells, Pt.slots] at X' e1 e2 h1 h2 h3 st
    subst h1; subst h2; subst h3
    exact Or.inl ⟨v, (T.setVm vm₁).calling g' mk (Value.ref b :: As).toArray, t, U', L, hT, X', hL, e1, e2, hq, st⟩
  · dsimp only [Pt.U, Pt.locs, Pt.cells, Pt.slots] at X' e1 e2 h1 h2 h3 st hcl
    subst h1; subst h2; subst h3
    exact Or.inr ⟨q, (T.setVm vm₁).calling g' mk (Value.ref b :: As).toArray, t, U', L, E, ce, hT, X', hL, e1, e2, hq, hce, hcv, vx_cls hW₁ hcl, st⟩
theorem vx_runS (S : CallFix p m c cc nL s args Ts own) (hM : vx_Met l y ws rm Pc Qc XC mc ms free) (cw : CallB R s args own index y bytes maxL ret ws rm mc ms n ∧ (Cond.static y).before args s = true) (hp : PreS s H Pc As)
    (hg : g.method = m) (hn : As.length = n) (hsize : g.locals.size = nL) (hstack : g.stack = As.reverse ++ rest) (hW : 2 * g.monitorRoom + (rest.map fun v => v.category).sum ≤ 8) (hdg : decode cc g.pc = .ok (.invokestatic index, 3)) (hf : cells + mc ≤ R.cells ∧ slots + ms ≤ R.slots) :
    vx_Run p l e R s m args below meth c H locs cells slots mc ms g rest (Qc As.toArray) XC free := by
  have hK : vx_Back l R p e below s args y 3 8 (PreOf R mc ms Pc) (PostOf Qc mc ms free) (vx_Post XC mc ms free) := vx_callBack cw.1 hM hp.1
  obtain ⟨⟨-, -, -, -, -, -, hcode, hini, hy, hlen, hl⟩, hstt⟩ := cw
  obtain ⟨hx, hb, hml, ho, -⟩ := S
  intro T hT X
  rcases vx_callS X hx (bytes := bytes) (maxL := maxL) (ret := ret) ho hl hstt hini hcode hy hK hg (hsize.trans hml.symm) (argsL := As) (rest := rest) (fun sig h => hn.trans (hlen sig h)) hstack hW (by rw [hb]; exact hdg)
    (fun vm₁ hW₁ => ⟨hf.1, hf.2, hp.2 (T.setVm vm₁) hT hW₁⟩) with ⟨v, vm₁, ⟨U', l2, c2, s2⟩, hW₁, X', ⟨g', mk, t, L, e1, e2, hq, h1, hL, h2, h3⟩, st⟩ | ⟨q, vm₁, ⟨U', l2, c2, s2⟩, hW₁, X', ⟨g', mk, t, L, E, ce, e1, e2, hq, hce, hcv, hcl, h1, hL, h2, h3⟩, st⟩
  · dsimp only [Pt.U, Pt.locs, Pt.cells, Pt.slots] at X' e1 e2 h1 h2 h3 st
    subst h1; subst h2; subst h3
    exact Or.inl ⟨v, (T.setVm vm₁).calling g' mk As.toArray, t, U', L, hT, X', hL, e1, e2, hq, st⟩
  · dsimp only [Pt.U, Pt.locs, Pt.cells, Pt.slots] at X' e1 e2 h1 h2 h3 st hcl
    subst h1; subst h2; subst h3
    exact Or.inr ⟨q, (T.setVm vm₁).calling g' mk As.toArray, t, U', L, E, ce, hT, X', hL, e1, e2, hq, hce, hcv, vx_cls hW₁ hcl, st⟩
end Runs
section Rows
variable {p : Program} {l : Launch} {e : Env} {R : Room} {s : State} {m : MethodId} {args : Array Value} {below : List Frame} {meth : Method} {c : Code} {H : Heap} {locs : List Loc} {cells slots : Nat} {Q : State → Prop}
variable {mc ms : Nat} {free : Addr → Prop} {A0 A1 : Nat → Prop} {H0 : Heap} {a : Array Value} {pc : Nat} {ls : Array Slot} {st0 rest : List Value}
theorem vx_keep {st₀ t T' : State} {L : List Loc} (h0 : st₀.heap = H) (e1 : T'.heap = t.heap) (hS : va_S A0 H0 H locs) (hA : ∀ q, q < H.size → A1 q → A0 q) (hf : ∀ q, free q → A0 q) (hL : ∀ q ∈ L, free q.base) (hF : va_F A1 st₀ t) :
    H.size ≤ T'.heap.size ∧ (∀ q : Nat, q < H.size → ¬ A1 q → T'.heap[q]? = H[q]?) ∧ va_S A0 H0 T'.heap (locs ++ L) := by
  obtain ⟨hz, hk⟩ := hF
  rw [h0] at hz hk
  exact ⟨by rw [e1]; exact hz, fun q h1 h2 => by rw [e1]; exact hk q h1 h2,
    ⟨Nat.le_trans hS.1 (by rw [e1]; exact hz), fun q h1 h2 => by rw [e1, hk q (Nat.lt_of_lt_of_le h1 hS.1) (fun z => h2 (hA q (Nat.lt_of_lt_of_le h1 hS.1) z))]; exact hS.2.1 q h1 h2, fun q hq => by
      rcases List.mem_append.mp hq with h | h
      · exact hS.2.2 q h
      · exact hf _ (hL q h)⟩⟩
theorem vx_calli {S SX : Type} {post : Int32 → S → Prop} {px : SX → Prop} {B : S → State → Prop} {BX : String → SX → State → Prop} {AX : Nat → Prop} (hr : vx_Run p l e R s m args below meth c H locs cells slots mc ms (F0 m pc ls st0) rest (va_Qi post B A1 a) (vx_X px BX AX) free) (hS : va_S A0 H0 H locs) (hA : ∀ q, q < H.size → A1 q → A0 q) (hf : ∀ q, free q → A0 q) (hAX : ∀ q, q < H.size → AX q → A0 q)
    (kx : ∀ (E : String) (ce : Cell) (q9 : Addr) (u : SX) (t : State) (H1 : Heap) (locs1 : List Loc), t.heap = H1 → s.vm.Alike t.vm → px u → BX E u t → H.size ≤ H1.size → (∀ q : Nat, q < H.size → ¬ AX q → H1[q]? = H[q]?) → va_S A0 H0 H1 locs1 → H1[q9]? = some ce → ce.vm = .none → s.vm.findClass E = some ce.cls → vx_W p l e R s m args below meth c H1 locs1 (cells + mc) (slots + ms) Q (F0 m pc ls rest) q9)
    (kk : ∀ (r : Int32) (u : S) (t : State) (H1 : Heap) (locs1 : List Loc), t.heap = H1 → s.vm.Alike t.vm → post r u → B u t → H.size ≤ H1.size → (∀ q : Nat, q < H.size → ¬ A1 q → H1[q]? = H[q]?) → va_S A0 H0 H1 locs1 → W p l e R s m args below meth c H1 locs1 (cells + mc) (slots + ms) Q (F0 m (pc + 3) ls (.int r :: rest))) : W p l e R s m args below meth c H locs cells slots Q (F0 m pc ls st0) := by
  intro T hT X
  rcases hr T hT X with ⟨v, st₀, t, T', L, h0, X', hL, e1, e2, ⟨⟨r, u, hv, hp, hb⟩, hF⟩, st⟩ | ⟨q, st₀, t, T', L, E, ce, h0, X', hL, e1, e2, ⟨u, hp, hb, hF⟩, hce, hcv, hcl, st⟩
  · cases hv
    obtain ⟨k1, k2, k3⟩ := vx_keep h0 e1 hS hA hf hL hF
    obtain ⟨t2, a1, b1⟩ := kk r u t T'.heap (locs ++ L) e1.symm (by rw [← e2]; exact X'.warmed.alike) hp hb k1 k2 k3 T' rfl X'
    exact ⟨t2, st t2 a1, b1⟩
  · obtain ⟨k1, k2, k3⟩ := vx_keep h0 e1 hS hAX hf hL hF
    obtain ⟨t2, a1, b1⟩ := kx E ce q u t T'.heap (locs ++ L) e1.symm (by rw [← e2]; exact X'.warmed.alike) hp hb k1 k2 k3 (by rw [e1]; exact hce) hcv hcl T' rfl X'
    exact ⟨t2, st.trans a1, b1⟩
theorem vx_calll {S SX : Type} {post : Int64 → S → Prop} {px : SX → Prop} {B : S → State → Prop} {BX : String → SX → State → Prop} {AX : Nat → Prop} (hr : vx_Run p l e R s m args below meth c H locs cells slots mc ms (F0 m pc ls st0) rest (va_Ql post B A1 a) (vx_X px BX AX) free) (hS : va_S A0 H0 H locs) (hA : ∀ q, q < H.size → A1 q → A0 q) (hf : ∀ q, free q → A0 q) (hAX : ∀ q, q < H.size → AX q → A0 q)
    (kx : ∀ (E : String) (ce : Cell) (q9 : Addr) (u : SX) (t : State) (H1 : Heap) (locs1 : List Loc), t.heap = H1 → s.vm.Alike t.vm → px u → BX E u t → H.size ≤ H1.size → (∀ q : Nat, q < H.size → ¬ AX q → H1[q]? = H[q]?) → va_S A0 H0 H1 locs1 → H1[q9]? = some ce → ce.vm = .none → s.vm.findClass E = some ce.cls → vx_W p l e R s m args below meth c H1 locs1 (cells + mc) (slots + ms) Q (F0 m pc ls rest) q9)
    (kk : ∀ (r : Int64) (u : S) (t : State) (H1 : Heap) (locs1 : List Loc), t.heap = H1 → s.vm.Alike t.vm → post r u → B u t → H.size ≤ H1.size → (∀ q : Nat, q < H.size → ¬ A1 q → H1[q]? = H[q]?) → va_S A0 H0 H1 locs1 → W p l e R s m args below meth c H1 locs1 (cells + mc) (slots + ms) Q (F0 m (pc + 3) ls (.long r :: rest))) : W p l e R s m args below meth c H locs cells slots Q (F0 m pc ls st0) := by
  intro T hT X
  rcases hr T hT X with ⟨v, st₀, t, T', L, h0, X', hL, e1, e2, ⟨⟨r, u, hv, hp, hb⟩, hF⟩, st⟩ | ⟨q, st₀, t, T', L, E, ce, h0, X', hL, e1, e2, ⟨u, hp, hb, hF⟩, hce, hcv, hcl, st⟩
  · cases hv
    obtain ⟨k1, k2, k3⟩ := vx_keep h0 e1 hS hA hf hL hF
    obtain ⟨t2, a1, b1⟩ := kk r u t T'.heap (locs ++ L) e1.symm (by rw [← e2]; exact X'.warmed.alike) hp hb k1 k2 k3 T' rfl X'
    exact ⟨t2, st t2 a1, b1⟩
  · obtain ⟨k1, k2, k3⟩ := vx_keep h0 e1 hS hAX hf hL hF
    obtain ⟨t2, a1, b1⟩ := kx E ce q u t T'.heap (locs ++ L) e1.symm (by rw [← e2]; exact X'.warmed.alike) hp hb k1 k2 k3 (by rw [e1]; exact hce) hcv hcl T' rfl X'
    exact ⟨t2, st.trans a1, b1⟩
theorem vx_callf {S SX : Type} {post : UInt32 → S → Prop} {px : SX → Prop} {B : S → State → Prop} {BX : String → SX → State → Prop} {AX : Nat → Prop} (hr : vx_Run p l e R s m args below meth c H locs cells slots mc ms (F0 m pc ls st0) rest (va_Qf post B A1 a) (vx_X px BX AX) free) (hS : va_S A0 H0 H locs) (hA : ∀ q, q < H.size → A1 q → A0 q) (hf : ∀ q, free q → A0 q) (hAX : ∀ q, q < H.size → AX q → A0 q)
    (kx : ∀ (E : String) (ce : Cell) (q9 : Addr) (u : SX) (t : State) (H1 : Heap) (locs1 : List Loc), t.heap = H1 → s.vm.Alike t.vm → px u → BX E u t → H.size ≤ H1.size → (∀ q : Nat, q < H.size → ¬ AX q → H1[q]? = H[q]?) → va_S A0 H0 H1 locs1 → H1[q9]? = some ce → ce.vm = .none → s.vm.findClass E = some ce.cls → vx_W p l e R s m args below meth c H1 locs1 (cells + mc) (slots + ms) Q (F0 m pc ls rest) q9)
    (kk : ∀ (r : UInt32) (u : S) (t : State) (H1 : Heap) (locs1 : List Loc), t.heap = H1 → s.vm.Alike t.vm → post r u → B u t → H.size ≤ H1.size → (∀ q : Nat, q < H.size → ¬ A1 q → H1[q]? = H[q]?) → va_S A0 H0 H1 locs1 → W p l e R s m args below meth c H1 locs1 (cells + mc) (slots + ms) Q (F0 m (pc + 3) ls (.float r :: rest))) : W p l e R s m args below meth c H locs cells slots Q (F0 m pc ls st0) := by
  intro T hT X
  rcases hr T hT X with ⟨v, st₀, t, T', L, h0, X', hL, e1, e2, ⟨⟨r, u, hv, hp, hb⟩, hF⟩, st⟩ | ⟨q, st₀, t, T', L, E, ce, h0, X', hL, e1, e2, ⟨u, hp, hb, hF⟩, hce, hcv, hcl, st⟩
  · cases hv
    obtain ⟨k1, k2, k3⟩ := vx_keep h0 e1 hS hA hf hL hF
    obtain ⟨t2, a1, b1⟩ := kk r u t T'.heap (locs ++ L) e1.symm (by rw [← e2]; exact X'.warmed.alike) hp hb k1 k2 k3 T' rfl X'
    exact ⟨t2, st t2 a1, b1⟩
  · obtain ⟨k1, k2, k3⟩ := vx_keep h0 e1 hS hAX hf hL hF
    obtain ⟨t2, a1, b1⟩ := kx E ce q u t T'.heap (locs ++ L) e1.symm (by rw [← e2]; exact X'.warmed.alike) hp hb k1 k2 k3 (by rw [e1]; exact hce) hcv hcl T' rfl X'
    exact ⟨t2, st.trans a1, b1⟩
theorem vx_calld {S SX : Type} {post : UInt64 → S → Prop} {px : SX → Prop} {B : S → State → Prop} {BX : String → SX → State → Prop} {AX : Nat → Prop} (hr : vx_Run p l e R s m args below meth c H locs cells slots mc ms (F0 m pc ls st0) rest (va_Qd post B A1 a) (vx_X px BX AX) free) (hS : va_S A0 H0 H locs) (hA : ∀ q, q < H.size → A1 q → A0 q) (hf : ∀ q, free q → A0 q) (hAX : ∀ q, q < H.size → AX q → A0 q)
    (kx : ∀ (E : String) (ce : Cell) (q9 : Addr) (u : SX) (t : State) (H1 : Heap) (locs1 : List Loc), t.heap = H1 → s.vm.Alike t.vm → px u → BX E u t → H.size ≤ H1.size → (∀ q : Nat, q < H.size → ¬ AX q → H1[q]? = H[q]?) → va_S A0 H0 H1 locs1 → H1[q9]? = some ce → ce.vm = .none → s.vm.findClass E = some ce.cls → vx_W p l e R s m args below meth c H1 locs1 (cells + mc) (slots + ms) Q (F0 m pc ls rest) q9)
    (kk : ∀ (r : UInt64) (u : S) (t : State) (H1 : Heap) (locs1 : List Loc), t.heap = H1 → s.vm.Alike t.vm → post r u → B u t → H.size ≤ H1.size → (∀ q : Nat, q < H.size → ¬ A1 q → H1[q]? = H[q]?) → va_S A0 H0 H1 locs1 → W p l e R s m args below meth c H1 locs1 (cells + mc) (slots + ms) Q (F0 m (pc + 3) ls (.double r :: rest))) : W p l e R s m args below meth c H locs cells slots Q (F0 m pc ls st0) := by
  intro T hT X
  rcases hr T hT X with ⟨v, st₀, t, T', L, h0, X', hL, e1, e2, ⟨⟨r, u, hv, hp, hb⟩, hF⟩, st⟩ | ⟨q, st₀, t, T', L, E, ce, h0, X', hL, e1, e2, ⟨u, hp, hb, hF⟩, hce, hcv, hcl, st⟩
  · cases hv
    obtain ⟨k1, k2, k3⟩ := vx_keep h0 e1 hS hA hf hL hF
    obtain ⟨t2, a1, b1⟩ := kk r u t T'.heap (locs ++ L) e1.symm (by rw [← e2]; exact X'.warmed.alike) hp hb k1 k2 k3 T' rfl X'
    exact ⟨t2, st t2 a1, b1⟩
  · obtain ⟨k1, k2, k3⟩ := vx_keep h0 e1 hS hAX hf hL hF
    obtain ⟨t2, a1, b1⟩ := kx E ce q u t T'.heap (locs ++ L) e1.symm (by rw [← e2]; exact X'.warmed.alike) hp hb k1 k2 k3 (by rw [e1]; exact hce) hcv hcl T' rfl X'
    exact ⟨t2, st.trans a1, b1⟩
theorem vx_callv {S SX : Type} {post : S → Prop} {px : SX → Prop} {B : S → State → Prop} {BX : String → SX → State → Prop} {AX : Nat → Prop} (hr : vx_Run p l e R s m args below meth c H locs cells slots mc ms (F0 m pc ls st0) rest (va_Qv post B A1 a) (vx_X px BX AX) free) (hS : va_S A0 H0 H locs) (hA : ∀ q, q < H.size → A1 q → A0 q) (hf : ∀ q, free q → A0 q) (hAX : ∀ q, q < H.size → AX q → A0 q)
    (kx : ∀ (E : String) (ce : Cell) (q9 : Addr) (u : SX) (t : State) (H1 : Heap) (locs1 : List Loc), t.heap = H1 → s.vm.Alike t.vm → px u → BX E u t → H.size ≤ H1.size → (∀ q : Nat, q < H.size → ¬ AX q → H1[q]? = H[q]?) → va_S A0 H0 H1 locs1 → H1[q9]? = some ce → ce.vm = .none → s.vm.findClass E = some ce.cls → vx_W p l e R s m args below meth c H1 locs1 (cells + mc) (slots + ms) Q (F0 m pc ls rest) q9)
    (kk : ∀ (u : S) (t : State) (H1 : Heap) (locs1 : List Loc), t.heap = H1 → s.vm.Alike t.vm → post u → B u t → H.size ≤ H1.size → (∀ q : Nat, q < H.size → ¬ A1 q → H1[q]? = H[q]?) → va_S A0 H0 H1 locs1 → W p l e R s m args below meth c H1 locs1 (cells + mc) (slots + ms) Q (F0 m (pc + 3) ls (rest))) : W p l e R s m args below meth c H locs cells slots Q (F0 m pc ls st0) := by
  intro T hT X
  rcases hr T hT X with ⟨v, st₀, t, T', L, h0, X', hL, e1, e2, ⟨⟨u, hv, hp, hb⟩, hF⟩, st⟩ | ⟨q, st₀, t, T', L, E, ce, h0, X', hL, e1, e2, ⟨u, hp, hb, hF⟩, hce, hcv, hcl, st⟩
  · cases hv
    obtain ⟨k1, k2, k3⟩ := vx_keep h0 e1 hS hA hf hL hF
    obtain ⟨t2, a1, b1⟩ := kk u t T'.heap (locs ++ L) e1.symm (by rw [← e2]; exact X'.warmed.alike) hp hb k1 k2 k3 T' rfl X'
    exact ⟨t2, st t2 a1, b1⟩
  · obtain ⟨k1, k2, k3⟩ := vx_keep h0 e1 hS hAX hf hL hF
    obtain ⟨t2, a1, b1⟩ := kx E ce q u t T'.heap (locs ++ L) e1.symm (by rw [← e2]; exact X'.warmed.alike) hp hb k1 k2 k3 (by rw [e1]; exact hce) hcv hcl T' rfl X'
    exact ⟨t2, st.trans a1, b1⟩
/-- caught by the row x of this method's table; the rows ahead don't take it -/
theorem vx_catch {own name : String} {E : String} {ce : Cell} {q : Addr} (hown : s.vm.findClass own = some m.cls) (pre : List ExceptionTableEntry) (x : ExceptionTableEntry) (suf : List ExceptionTableEntry) (hsplit : c.exceptionTable.toList = pre ++ x :: suf)
    (hpass : ∀ z ∈ pre, covers z pc = false ∨ (z.catchType ≠ 0 ∧ ∃ nm : String, (Cond.classLink own z.catchType nm).before args s = true ∧ va_Nc E nm s)) (hx : covers x pc = true) (h0 : x.catchType ≠ 0)
    (hlink : (Cond.classLink own x.catchType name).before args s = true) (hcast : (Cond.castable E name).before args s = true) (hcell : H[q]? = some ce) (hv : ce.vm = .none) (hcl : s.vm.findClass E = some ce.cls)
    (kk : W p l e R s m args below meth c H locs cells slots Q (F0 m x.handlerPc ls [.ref q])) : vx_W p l e R s m args below meth c H locs cells slots Q (F0 m pc ls rest) q := by
  intro T hT X
  have hpl : e.platform.magicAccessors = ({} : Platform).magicAccessors := by rw [X.admits.platform]
  obtain ⟨c3, c4, hc3, hc4, hasg⟩ := Cond.castable_spec hcast
  cases Option.some.inj (hc3.symm.trans hcl)
  obtain ⟨c5, hc5, hcl5⟩ := Cond.classLink_spec hown hlink e.platform hpl
  cases Option.some.inj (hc4.symm.trans hc5)
  obtain ⟨vm', X', st⟩ := X.thenCaughtThrough q (g := F0 m pc ls rest) rfl (Steps.refl _) (by rw [hT]; exact hcell) (by rw [hv]; rfl) (by obtain ⟨k9, h9, -⟩ := Vm.findClass_spec hcl; exact ⟨k9, h9⟩) pre x suf hsplit
    (fun z hz => by
      rcases hpass z hz with h | ⟨hz0, nm, hl1, hn1⟩
      · exact Or.inl h
      · obtain ⟨c6, hc6, hcl6⟩ := Cond.classLink_spec hown hl1 e.platform hpl
        obtain ⟨a8, b8, h1, h2, h3⟩ := hn1
        cases Option.some.inj (h1.symm.trans hcl)
        cases Option.some.inj (h2.symm.trans hc6)
        exact Or.inr ⟨hz0, _, hcl6, h3⟩) hx (Or.inr ⟨h0, c4, hcl5, hasg⟩)
  obtain ⟨t, a1, b1⟩ := kk (T.setVm vm') hT X'
  exact ⟨t, st.trans a1, b1⟩
end Rows
section Ends
variable {p : Program} {l : Launch} {e : Env} {R : Room} {s : State} {m : MethodId} {args : Array Value} {below : List Frame} {meth : Method} {c : Code} {H : Heap} {locs : List Loc} {cells slots : Nat} {Q : State → Prop}
variable {mc ms : Nat} {free : Addr → Prop} {A0 A1 : Nat → Prop} {H0 : Heap} {a : Array Value} {ls : Array Slot} {st0 rest : List Value}
variable {Qc : Array Value → State → Outcome → State → Prop} {XC : String → State → State → Prop}
/-- what a body that may throw owes at its end -/
def vx_MQ (below : List Frame) (Qc : Array Value → State → Outcome → State → Prop) (XC : String → State → State → Prop) (a : Array Value) (s : State) (mc ms : Nat) (free : Addr → Prop) : State → Prop := fun t =>
  ∃ o, t.status = .running ∧ Ended t below o ∧ vx_Q Qc XC mc ms free a s o t
theorem vx_ret {g : JFrame} {mc ms : Nat} (k : W p l e R s m args below meth c H locs cells slots (MQ below Qc args s mc ms free) g) : W p l e R s m args below meth c H locs cells slots (vx_MQ below Qc XC args s mc ms free) g := by
  intro T hT X
  obtain ⟨t, a1, o, b1, b2, b3, b4⟩ := k T hT X
  exact ⟨t, a1, o, b1, b2, Or.inl ⟨b3, b4⟩⟩
/-- not caught here: it goes on to the caller -/
theorem vx_widen {g : JFrame} {q : Addr} {k n : Nat} (h1 : cells ≤ k) (h2 : slots ≤ n) (kk : vx_W p l e R s m args below meth c H locs k n Q g q) : vx_W p l e R s m args below meth c H locs cells slots Q g q := fun T hT X => kk T hT (stand_widen X h1 h2)
theorem vx_out {pc : Nat} {E : String} {ce : Cell} {q : Addr} {mc ms : Nat} (hout : ∀ x ∈ c.exceptionTable.toList, covers x pc = false) (hlocks : meth.locks = false) (hcell : H[q]? = some ce) (hv : ce.vm = .none) (hcl : s.vm.findClass E = some ce.cls)
    (hx : ∀ t : State, t.heap = H → s.vm.Alike t.vm → XC E s t) (hf : ∀ z ∈ locs, free z.base) (hc : cells ≤ mc) (hs : slots ≤ ms) :
    vx_W p l e R s m args below meth c H locs cells slots (vx_MQ below Qc XC args s mc ms free) (F0 m pc ls rest) q := by
  intro T hT X
  obtain ⟨st1, hrun, hend, hW, hsm⟩ := X.leaveThrown q (g := F0 m pc ls rest) rfl rfl rfl hout hlocks
  have hcell9 : (T.setFrames (.throwing q :: below)).heap[q]? = some ce := by
    show T.heap[q]? = some ce
    rw [hT]; exact hcell
  exact ⟨_, st1, .threw q, hrun, hend, Or.inr ⟨q, rfl, E, ce, locs, hx _ hT hW.alike, hcell9, hv, hcl, hW, hsm.mono hc hs, hf⟩⟩
theorem vx_frame {U : State} {k n : Nat} (h : s.sameButNew ({ U with vm := s.vm } : State) locs k n) : s.heap.size ≤ U.heap.size ∧ ∀ q : Nat, q < s.heap.size → (∀ z ∈ locs, z.base ≠ q) → U.heap[q]? = s.heap[q]? := by
  obtain ⟨-, h2, -, -, -, h6⟩ := h
  refine ⟨h2, fun q hq hz => ?_⟩
  obtain ⟨c9, e1, e2, e3, e4⟩ := h6 q _ (Array.getElem?_eq_getElem hq)
  have hs : c9.slots = (s.heap[q]).slots := Array.ext_getElem? fun i => e4 i fun hm => hz _ hm rfl
  have h9 : c9 = s.heap[q] := by
    rw [hs] at e2
    exact e2
  have e5 : U.heap[q]? = some c9 := e1
  rw [e5, h9, Array.getElem?_eq_getElem hq]
/-- the words of a throw but the four that speak of the heap -/
def vx_no (w : Cond) : Bool := decide (w ≠ .isRef (.static Bundle.tN "UNASSIGNED_STACK" Bundle.steD)) && decide (w ≠ .isRef (.static Bundle.tN "SUPPRESSED_SENTINEL" Bundle.listD)) && decide (w ≠ .laysStatic Bundle.tN "UNASSIGNED_STACK" Bundle.steD) && decide (w ≠ .laysStatic Bundle.tN "SUPPRESSED_SENTINEL" Bundle.listD)
def vx_at0 (own : String) (ic : Nat) (X : String) (names : List String) : List Cond := (Bundle.ownAtoms0 own ic X names).filter vx_no
def vx_atS (own : String) (ic : Nat) (X : String) (names : List String) : List Cond := (Bundle.ownAtoms own ic X names).filter vx_no
/-- a word that the tables alone decide, or a good one -/
def vx_ot (w : Cond) : Bool := w.onTables || goodWord w
theorem vx_ot_at {args a' : Array Value} {s U : State} {w : Cond} (hW : s.WarmedH U.vm) (hvm : s.vm = U.vm) (hg : vx_ot w = true) (h : w.before args s = true) : w.before a' U = true := by
  simp only [vx_ot, Bool.or_eq_true] at hg
  rcases hg with hg | hg
  · exact va_tabs hg hvm h
  · exact word_at hW (good_of_word hg) h
/-- a list's words: the good ones out of the method's own list, the others by premises of their own -/
theorem vx_hat {args : Array Value} {s : State} {L B : List Cond} (h1 : ∀ w ∈ L.filter goodWord, w.before args s = true) (h2 : ∀ w ∈ L.filter (fun w => !goodWord w), w ∈ B) (h3 : ∀ w ∈ B, w.before args s = true) : ∀ w ∈ L, w.before args s = true := by
  intro w hw
  by_cases g : goodWord w = true
  · exact h1 w (List.mem_filter.mpr ⟨hw, g⟩)
  · refine h3 w (h2 w (List.mem_filter.mpr ⟨hw, ?_⟩))
    show (!goodWord w) = true
    cases hgw : goodWord w
    · rfl
    · exact absurd hgw g
theorem vx_c {args : Array Value} {s : State} {w : Cond} {B : List Cond} (h : w.before args s = true) (t : ∀ w ∈ B, w.before args s = true) : ∀ w' ∈ w :: B, w'.before args s = true := fun w' h' => (List.mem_cons.mp h').elim (fun e => by rw [e]; exact h) (t w')
theorem vx_n {args : Array Value} {s : State} : ∀ w ∈ ([] : List Cond), w.before args s = true := fun _ h => nomatch h
theorem vx_own {args : Array Value} {s : State} {L : List Cond} (h1 : ∀ w ∈ L.filter vx_no, w.before args s = true)
    (hU : (Cond.isRef (.static Bundle.tN "UNASSIGNED_STACK" Bundle.steD)).before args s = true) (hN : (Cond.isRef (.static Bundle.tN "SUPPRESSED_SENTINEL" Bundle.listD)).before args s = true)
    (lU : (Cond.laysStatic Bundle.tN "UNASSIGNED_STACK" Bundle.steD).before args s = true) (lN : (Cond.laysStatic Bundle.tN "SUPPRESSED_SENTINEL" Bundle.listD).before args s = true) : ∀ w ∈ L, w.before args s = true := by
  intro w hw
  by_cases e1 : w = .isRef (.static Bundle.tN "UNASSIGNED_STACK" Bundle.steD)
  · rw [e1]; exact hU
  · by_cases e2 : w = .isRef (.static Bundle.tN "SUPPRESSED_SENTINEL" Bundle.listD)
    · rw [e2]; exact hN
    · by_cases e3 : w = .laysStatic Bundle.tN "UNASSIGNED_STACK" Bundle.steD
      · rw [e3]; exact lU
      · by_cases e4 : w = .laysStatic Bundle.tN "SUPPRESSED_SENTINEL" Bundle.listD
        · rw [e4]; exact lN
        · exact h1 w (List.mem_filter.mpr ⟨hw, by unfold vx_no; rw [decide_eq_true e1, decide_eq_true e2, decide_eq_true e3, decide_eq_true e4]; rfl⟩)
/-- where a static field lies, its class's statics cell in H -/
def vx_L (C n d : String) (A : Nat → Prop) (U : State) (H : Heap) : Prop := ∃ (c : ClassId) (k : Class) (i : Nat) (f : Field) (a : Nat) (cell : Cell), U.vm.findClass C = some c ∧ U.fieldFound? C n d = some (c, k, i, f) ∧ f.isStatic = true ∧ k.statics = some a ∧ H[a]? = some cell ∧ cell.vm.isStatics = true ∧ cell.cls = c ∧ f.slot < cell.slots.size ∧ k.staticTypes[f.slot]? = some f.type ∧ ¬ A a
theorem vx_L.moved {C n d : String} {A : Nat → Prop} {u U : State} {H : Heap} (hvm : u.vm.Alike U.vm) (h : vx_L C n d A u H) : vx_L C n d A U H := by
  obtain ⟨c, k, i, f, a, cell, h1, h2, h3, h4, h5, h6, h7, h8, h9, h10⟩ := h
  obtain ⟨k', hi', he⟩ := State.fieldFound?_setVm hvm h2
  exact ⟨c, k', i, f, a, cell, by rw [hvm.findClass]; exact h1, hi', h3, by rw [he]; exact h4, h5, h6, h7, h8, by rw [he]; exact h9, h10⟩
theorem vx_L.kept {C n d : String} {A : Nat → Prop} {U : State} {H H1 : Heap} (h : vx_L C n d A U H) (hq : ∀ a : Nat, a < H.size → ¬ A a → H1[a]? = H[a]?) : vx_L C n d A U H1 := by
  obtain ⟨c, k, i, f, a, cell, h1, h2, h3, h4, h5, h6, h7, h8, h9, h10⟩ := h
  exact ⟨c, k, i, f, a, cell, h1, h2, h3, h4, by rw [hq a (Array.getElem?_eq_some_iff.mp h5).1 h10]; exact h5, h6, h7, h8, h9, h10⟩
theorem vx_L.narrow {C n d : String} {A B : Nat → Prop} {U : State} {H : Heap} (h : vx_L C n d A U H) (hAB : ∀ q, B q → A q) : vx_L C n d B U H := by
  obtain ⟨c, k, i, f, a, cell, h1, h2, h3, h4, h5, h6, h7, h8, h9, h10⟩ := h
  exact ⟨c, k, i, f, a, cell, h1, h2, h3, h4, h5, h6, h7, h8, h9, fun z => h10 (hAB _ z)⟩
theorem vx_L.word {C n d : String} {A : Nat → Prop} {s : State} {args : Array Value} (h : vx_L C n d A s s.heap) : (Cond.laysStatic C n d).before args s = true := by
  obtain ⟨c, k, i, f, a, cell, h1, h2, h3, h4, h5, h6, h7, h8, h9, -⟩ := h
  show (Cond.laysStatic C n d).holds args s none s [] = true
  exact Cond.laysStatic_of h1 h2 h3 h4 h5 h6 h7 h8 h9
/-- .. and what it holds: null or some reference -/
def vx_Zq (C n d : String) (A : Nat → Prop) (U : State) (H : Heap) : Prop := va_Zq C n d A U H ∧ vx_L C n d A U H
theorem vx_Zq.moved {C n d : String} {A : Nat → Prop} {u U : State} {H : Heap} (hvm : u.vm.Alike U.vm) (h : vx_Zq C n d A u H) : vx_Zq C n d A U H := ⟨va_Zq.moved hvm h.1, vx_L.moved hvm h.2⟩
theorem vx_Zq.kept {C n d : String} {A : Nat → Prop} {U : State} {H H1 : Heap} (h : vx_Zq C n d A U H) (hq : ∀ a : Nat, a < H.size → ¬ A a → H1[a]? = H[a]?) : vx_Zq C n d A U H1 := ⟨va_Zq.kept h.1 hq, vx_L.kept h.2 hq⟩
theorem vx_Zq.narrow {C n d : String} {A B : Nat → Prop} {U : State} {H : Heap} (h : vx_Zq C n d A U H) (hAB : ∀ q, B q → A q) : vx_Zq C n d B U H := ⟨va_Zq.narrow h.1 hAB, vx_L.narrow h.2 hAB⟩
theorem vx_Zqof {args : Array Value} {s : State} {C n d : String} {A : Nat → Prop} (hl : (Cond.laysStatic C n d).before args s = true) (hini : (Cond.initialized C).before args s = true) (h : (Cond.isRef (.static C n d)).before args s = true) (hA : ∀ a : Nat, a < s.heap.size → ¬ A a) : vx_Zq C n d A s s.heap := by
  refine ⟨va_Zqof hl hini h hA, ?_⟩
  obtain ⟨c, k, i, f, a, cell, h1, h2, h3, h4, h5, h6, h7, h8, h9⟩ := Cond.laysStatic_spec hl
  exact ⟨c, k, i, f, a, cell, h1, h2, h3, h4, h5, h6, h7, h8, h9, hA a (Array.getElem?_eq_some_iff.mp h5).1⟩
theorem vx_isRef {C n d : String} {v : Value} {A : Nat → Prop} {s : State} {args : Array Value} (h : va_Z C n d v A s s.heap) (hv : v.isRef = true) : (Cond.isRef (.static C n d)).before args s = true := by
  obtain ⟨cf, kf, fi, f, a, cell, h1, h2, h3, h4, h5, h6, h7, -⟩ := h
  have he : (Term.static C n d).eval args s none [] s = some v := by
    simp [Term.eval, State.fieldNamed?, h1, h2, h4, h5, h6, h7]
  simp only [Cond.before, Cond.holds, Cond.value, he]
  cases v <;> simp_all [Value.isRef]
theorem vx_isRefq {C n d : String} {A : Nat → Prop} {s : State} {args : Array Value} (h : va_Zq C n d A s s.heap) : (Cond.isRef (.static C n d)).before args s = true := by
  rcases h with h | ⟨t, h⟩
  · exact vx_isRef h rfl
  · exact vx_isRef h rfl
/-- the same frame, seen from here: as if the method were called anew in this heap -/
theorem vx_rebase {T : State} (X : Stand p l e R s m args below meth c T locs cells slots) {R' : Room} (hf : R'.frames ≤ R.frames) (hl : R'.locals ≤ R.locals) (hc : cells + R'.cells ≤ R.cells) (hs : slots + R'.slots ≤ R.slots) :
    Stand p l e R' ((T.setVm s.vm).setFrames (.invoking m args :: below)) m args below meth c T [] 0 0 := by
  have htop : (T.setVm s.vm).topJava?.isSome := X.here.top
  have hF : ((T.setVm s.vm).setFrames (.invoking m args :: below)).frames = .invoking m args :: below := State.frames_setFrames _ (State.cur_lt_of_top htop)
  obtain ⟨g₀, hg0⟩ := Option.isSome_iff_exists.mp htop
  obtain ⟨r, hr⟩ := State.topJava?_eq_some.mp hg0
  have hl9 : e.platform.stackLimits (T.setVm s.vm).me = e.platform.stackLimits s.me := X.limits
  have hb9 : (T.setVm s.vm).me.stackBytes = s.me.stackBytes := X.bytes
  refine ⟨X.admits, X.cas, X.clock, hF, ?_, X.hears, X.method, X.code, X.here, X.tail, X.warmed, ?_, ?_, ?_⟩
  · have h := X.room
    have hU : ((T.setVm s.vm).setFrames (.invoking m args :: below)).localsInUse = s.localsInUse := by
      rw [State.localsInUse_invoking hF (meth := meth) (c := c) X.method X.code, State.localsInUse_invoking X.frames X.method X.code]
    simp only [State.hasRoom, Bool.and_eq_true, decide_eq_true_eq] at h ⊢
    obtain ⟨⟨⟨⟨h1, h2, h3, h4, h5, h6⟩, h7⟩, h8⟩, h9⟩ := h
    rw [X.frames, List.length_cons] at h2 h3
    have q1 := X.heapSize
    have q2 := X.used
    simp only [hF, hU, List.length_cons, State.stackLimits_setFrames, State.stackBytes_setFrames, hl9, hb9]
    refine ⟨⟨⟨⟨by omega, by omega, by omega, by omega, by omega, h6⟩, ?_⟩, ?_⟩, X.book⟩
    · show T.heap.size + R'.cells ≤ e.platform.maxCells
      omega
    · show T.slotsUsed + R'.slots ≤ e.platform.maxSlots
      omega
  · rw [State.stackLimits_setFrames]; rfl
  · rw [State.stackBytes_setFrames]; rfl
  · refine ⟨?_, Nat.le_refl _, Nat.le_refl _, ?_, ?_, fun a c9 h9 => ⟨c9, h9, rfl, rfl, fun _ _ => rfl⟩⟩
    · obtain ⟨t, ht, -⟩ := State.frames_cons hr
      show T.setVm s.vm = { ((T.setVm s.vm).setFrames (.invoking m args :: below)).setFrames (T.setVm s.vm).frames with heap := T.heap, slotsUsed := T.slotsUsed }
      rw [State.setFrames_setFrames, State.setFrames_self ht]
      rfl
    · show T.slotsUsed = T.slotsUsed + ((T.heap.toList.drop T.heap.size).map (·.slots.size)).sum
      rw [List.drop_eq_nil_of_le (Nat.le_of_eq Array.length_toList)]
      rfl
    · show ((T.heap.toList.drop T.heap.size).map (·.slots.size)).sum ≤ 0
      rw [List.drop_eq_nil_of_le (Nat.le_of_eq Array.length_toList)]
      exact Nat.le_refl _
/-- 'throw new E()': new; dup; invokespecial; athrow -/
theorem vx_throw0 {cc : ByteArray} {pc : Nat} (hexec : p.tables.exec = Jvm.exec) (hb : c.code = cc) (hl : l.stackTraces = false) {own cls : String} {names : List String} {ik ic mc ms : Nat} {A : Nat → Prop}
    (hown : s.vm.findClass own = some m.cls) (hcls : Bundle.fit cls = true) (hnames : ∀ n ∈ names, Bundle.fit n = true)
    (hk : (Cond.classLink own ik cls).before args s = true) (hini : (Cond.initialized cls).before args s = true) (hat : ∀ w ∈ vx_at0 own ic cls names, w.before args s = true)
    (hgood : ∀ w ∈ Cond.classLink own ik cls :: Cond.initialized cls :: vx_at0 own ic cls names, vx_ot w = true)
    (hU : vx_Zq Bundle.tN "UNASSIGNED_STACK" Bundle.steD A s s.heap) (hN : vx_Zq Bundle.tN "SUPPRESSED_SENTINEL" Bundle.listD A s s.heap) (hS : va_S A s.heap H locs) (hsize : ls.size = c.maxLocals)
    (d0 : decode cc pc = .ok (.new ik, 3)) (d3 : decode cc (pc + 3) = .ok (.dup, 1)) (d4 : decode cc (pc + 4) = .ok (.invokespecial ic, 3)) (d7 : decode cc (pc + 7) = .ok (.athrow, 1))
    (hout : ∀ x ∈ c.exceptionTable.toList, covers x (pc + 7) = false)
    (hRframes : names.length + 3 < R.frames) (hRlocals : (rest.map fun v => v.category).sum + (13 * (names.length + 1) + 42) ≤ R.locals) (hRcells : cells + 1 ≤ R.cells) (hRslots : slots + 6 ≤ R.slots) (hlocks : meth.locks = false)
    (hx : ∀ t : State, s.vm.Alike t.vm → H.size ≤ t.heap.size → (∀ q : Nat, q < H.size → t.heap[q]? = H[q]?) → XC cls s t)
    (hf : ∀ z ∈ locs, free z.base) (hc : cells + 1 ≤ mc) (hs : slots + 6 ≤ ms) :
    W p l e R s m args below meth c H locs cells slots (vx_MQ below Qc XC args s mc ms free) (F0 m pc ls rest) := by
  intro T hT X
  have htr : e.platform.stackTraces = false := (show e.platform.stackTraces = l.stackTraces by rw [X.admits.platform]).trans hl
  have Y := vx_rebase X (R' := { frames := R.frames, locals := R.locals, cells := 1, slots := 6 }) (Nat.le_refl _) (Nat.le_refl _) hRcells hRslots
  obtain ⟨s', hA⟩ : ∃ z, z = (T.setVm s.vm).setFrames (.invoking m args :: below) := ⟨_, rfl⟩
  rw [← hA] at Y
  have hvm : s'.vm = s.vm := by rw [hA]; rfl
  have hhp : s'.heap = H := by rw [hA]; exact hT
  have hW0 : s.WarmedH s'.vm := by rw [hvm]; exact State.WarmedH.refl s
  have hat' : ∀ w ∈ vx_at0 own ic cls names, w.before args s' = true := fun w hw => vx_ot_at hW0 hvm.symm (hgood w (List.mem_cons_of_mem _ (List.mem_cons_of_mem _ hw))) (hat w hw)
  have hk' : (Cond.classLink own ik cls).before args s' = true := vx_ot_at hW0 hvm.symm (hgood _ List.mem_cons_self) hk
  have hini' : (Cond.initialized cls).before args s' = true := vx_ot_at hW0 hvm.symm (hgood _ (List.mem_cons_of_mem _ List.mem_cons_self)) hini
  have hU' : vx_Zq Bundle.tN "UNASSIGNED_STACK" Bundle.steD A s' s'.heap := by rw [hhp]; exact vx_Zq.moved hW0.alike (hU.kept hS.2.1)
  have hN' : vx_Zq Bundle.tN "SUPPRESSED_SENTINEL" Bundle.listD A s' s'.heap := by rw [hhp]; exact vx_Zq.moved hW0.alike (hN.kept hS.2.1)
  have h : ∀ w ∈ Bundle.ownAtoms0 own ic cls names, w.before args s' = true := vx_own hat' (vx_isRefq hU'.1) (vx_isRefq hN'.1) hU'.2.word hN'.2.word
  have hown' : s'.vm.findClass own = some m.cls := by rw [hvm]; exact hown
  have hins : (Cond.instantiable cls 6).before args s' = true := h _ (by simp [Bundle.ownAtoms0])
  obtain ⟨vm₁, cX, kX, hfX, hkX, -, -, X₁, st1⟩ := Y.newCold hexec (own := own) (C := cls) (index := ik) (n := 6) hown' hk' hins hini'
    (g := F0 m pc ls rest) rfl (by rw [hb]; exact d0) (Nat.le_refl _) (Nat.le_refl _)
  generalize hT1 : (T.setVm vm₁).pushCell { cls := cX, slots := kX.instanceTypes.map defaultValue, vm := .none } = T1 at X₁ st1
  have hcat : (Value.ref T.heap.size).category = 1 := rfl
  have hcellA : T1.heap[T.heap.size]? = some (freshCell cX kX) := by rw [← hT1]; exact State.heap_pushCell_size _ _
  have d3' : decode c.code (pc + 3) = .ok (.dup, 1) := by rw [hb]; exact d3
  obtain ⟨U, hsteps, hrun, hend, hW, hsame, ce, hce, hO⟩ := X₁.ctorThrow0 hexec htr (own := own) (cls := cls) (names := names) (ic := ic) hown' hcls hnames h (fun x hx => nomatch hx) hfX hkX hcellA (by rw [hhp, hT]; exact Nat.le_refl _)
    (g := { method := m, pc := pc + 4, locals := ls, stack := .ref T.heap.size :: .ref T.heap.size :: rest, locked := none }) rfl hsize rfl rfl (rest := rest) rfl
    (by rw [hb]; exact d4) (by rw [hb]; exact d7) hout hRframes (by simp only [List.map_cons, List.sum_cons, hcat]; omega) hlocks
  obtain ⟨f1, f2⟩ := vx_frame hsame
  rw [hhp] at f1 f2
  have hWs : s.WarmedH U.vm := State.WarmedH.trans hW0 hW
  have hcl : s.vm.findClass cls = some ce.cls := by
    have h9 := hO.cls
    rw [hvm] at h9
    exact h9
  have hall : s.sameButNew ({ U with vm := s.vm } : State) locs mc ms := by
    subst hA
    obtain ⟨e1, e2⟩ := hsame
    rw [State.setFrames_setFrames] at e1
    have h2 : (T.setVm s.vm).sameButNew ({ U with vm := s.vm } : State) [] (0 + 1) (0 + 6) := ⟨e1, e2⟩
    have h3 := X.same.trans h2
    rw [List.append_nil] at h3
    exact h3.mono hc hs
  refine ⟨U, ?_, .threw T.heap.size, hrun, hend, Or.inr ⟨T.heap.size, rfl, cls, ce, locs, hx U hWs.alike f1 (fun q hq => f2 q hq (fun z hz => nomatch hz)), hce, hO.vm, hcl, hWs, hall, hf⟩⟩
  refine st1 _ ?_
  show Steps p.tables e below (T1.setTop { method := m, pc := pc + 3, locals := ls, stack := .ref T.heap.size :: rest, locked := none }) _
  jvm_step X₁.here [X₁.here.top, hexec, d3', Value.category]
  exact hsteps
/-- 'throw new E("text")': new; dup; ldc; invokespecial; athrow -/
theorem vx_throwS {cc : ByteArray} {pc : Nat} (hexec : p.tables.exec = Jvm.exec) (hb : c.code = cc) (hl : l.stackTraces = false) {own cls text : String} {names : List String} {ik is ic mc ms sa : Nat} {A : Nat → Prop}
    (hown : s.vm.findClass own = some m.cls) (hcls : Bundle.fit cls = true) (hnames : ∀ n ∈ names, Bundle.fit n = true)
    (hk : (Cond.classLink own ik cls).before args s = true) (hini : (Cond.initialized cls).before args s = true) (hstr : vk_R own is text sa s) (hat : ∀ w ∈ vx_atS own ic cls names, w.before args s = true)
    (hgood : ∀ w ∈ Cond.classLink own ik cls :: Cond.initialized cls :: vx_atS own ic cls names, vx_ot w = true)
    (hU : vx_Zq Bundle.tN "UNASSIGNED_STACK" Bundle.steD A s s.heap) (hN : vx_Zq Bundle.tN "SUPPRESSED_SENTINEL" Bundle.listD A s s.heap) (hS : va_S A s.heap H locs) (hsize : ls.size = c.maxLocals)
    (d0 : decode cc pc = .ok (.new ik, 3)) (d3 : decode cc (pc + 3) = .ok (.dup, 1)) (d4 : decode cc (pc + 4) = .ok (.ldc is, 2)) (d6 : decode cc (pc + 6) = .ok (.invokespecial ic, 3)) (d9 : decode cc (pc + 9) = .ok (.athrow, 1))
    (hout : ∀ x ∈ c.exceptionTable.toList, covers x (pc + 9) = false)
    (hRframes : names.length + 3 < R.frames) (hRlocals : (rest.map fun v => v.category).sum + (13 * (names.length + 1) + 43) ≤ R.locals) (hRcells : cells + 1 ≤ R.cells) (hRslots : slots + 6 ≤ R.slots) (hlocks : meth.locks = false)
    (hx : ∀ t : State, s.vm.Alike t.vm → H.size ≤ t.heap.size → (∀ q : Nat, q < H.size → t.heap[q]? = H[q]?) → XC cls s t)
    (hf : ∀ z ∈ locs, free z.base) (hc : cells + 1 ≤ mc) (hs : slots + 6 ≤ ms) :
    W p l e R s m args below meth c H locs cells slots (vx_MQ below Qc XC args s mc ms free) (F0 m pc ls rest) := by
  intro T hT X
  have htr : e.platform.stackTraces = false := (show e.platform.stackTraces = l.stackTraces by rw [X.admits.platform]).trans hl
  have Y := vx_rebase X (R' := { frames := R.frames, locals := R.locals, cells := 1, slots := 6 }) (Nat.le_refl _) (Nat.le_refl _) hRcells hRslots
  obtain ⟨s', hA⟩ : ∃ z, z = (T.setVm s.vm).setFrames (.invoking m args :: below) := ⟨_, rfl⟩
  rw [← hA] at Y
  have hvm : s'.vm = s.vm := by rw [hA]; rfl
  have hhp : s'.heap = H := by rw [hA]; exact hT
  have hW0 : s.WarmedH s'.vm := by rw [hvm]; exact State.WarmedH.refl s
  have hat' : ∀ w ∈ vx_atS own ic cls names, w.before args s' = true := fun w hw => vx_ot_at hW0 hvm.symm (hgood w (List.mem_cons_of_mem _ (List.mem_cons_of_mem _ hw))) (hat w hw)
  have hk' : (Cond.classLink own ik cls).before args s' = true := vx_ot_at hW0 hvm.symm (hgood _ List.mem_cons_self) hk
  have hini' : (Cond.initialized cls).before args s' = true := vx_ot_at hW0 hvm.symm (hgood _ (List.mem_cons_of_mem _ List.mem_cons_self)) hini
  have hU' : vx_Zq Bundle.tN "UNASSIGNED_STACK" Bundle.steD A s' s'.heap := by rw [hhp]; exact vx_Zq.moved hW0.alike (hU.kept hS.2.1)
  have hN' : vx_Zq Bundle.tN "SUPPRESSED_SENTINEL" Bundle.listD A s' s'.heap := by rw [hhp]; exact vx_Zq.moved hW0.alike (hN.kept hS.2.1)
  have h : ∀ w ∈ Bundle.ownAtoms own ic cls names, w.before args s' = true := vx_own hat' (vx_isRefq hU'.1) (vx_isRefq hN'.1) hU'.2.word hN'.2.word
  have hown' : s'.vm.findClass own = some m.cls := by rw [hvm]; exact hown
  have hins : (Cond.instantiable cls 6).before args s' = true := h _ (by simp [Bundle.ownAtoms])
  obtain ⟨vm₁, cX, kX, hfX, hkX, -, -, X₁, st1⟩ := Y.newCold hexec (own := own) (C := cls) (index := ik) (n := 6) hown' hk' hins hini'
    (g := F0 m pc ls rest) rfl (by rw [hb]; exact d0) (Nat.le_refl _) (Nat.le_refl _)
  generalize hT1 : (T.setVm vm₁).pushCell { cls := cX, slots := kX.instanceTypes.map defaultValue, vm := .none } = T1 at X₁ st1
  have hcat : (Value.ref T.heap.size).category = 1 := rfl
  have hcellA : T1.heap[T.heap.size]? = some (freshCell cX kX) := by rw [← hT1]; exact State.heap_pushCell_size _ _
  have d3' : decode c.code (pc + 3) = .ok (.dup, 1) := by rw [hb]; exact d3
  have d4' : decode c.code (pc + 4) = .ok (.ldc is, 2) := by rw [hb]; exact d4
  have hstr' : vk_R own is text sa s' := vk_R.warm hW0 hstr
  obtain ⟨U, hsteps, hrun, hend, hW, hsame, ce, hce, hO⟩ := X₁.ctorThrowS hexec htr (own := own) (cls := cls) (names := names) (ic := ic) hown' hcls hnames h (fun x hx => nomatch hx) hfX hkX hcellA (by rw [hhp, hT]; exact Nat.le_refl _) (msg := .ref sa) rfl
    (g := { method := m, pc := pc + 6, locals := ls, stack := .ref sa :: .ref T.heap.size :: .ref T.heap.size :: rest, locked := none }) rfl hsize rfl rfl (rest := rest) rfl
    (by rw [hb]; exact d6) (by rw [hb]; exact d9) hout hRframes (by simp only [List.map_cons, List.sum_cons, hcat]; omega) hlocks
  obtain ⟨f1, f2⟩ := vx_frame hsame
  rw [hhp] at f1 f2
  have hWs : s.WarmedH U.vm := State.WarmedH.trans hW0 hW
  have hcl : s.vm.findClass cls = some ce.cls := by
    have h9 := hO.cls
    rw [hvm] at h9
    exact h9
  have hall : s.sameButNew ({ U with vm := s.vm } : State) locs mc ms := by
    subst hA
    obtain ⟨e1, e2⟩ := hsame
    rw [State.setFrames_setFrames] at e1
    have h2 : (T.setVm s.vm).sameButNew ({ U with vm := s.vm } : State) [] (0 + 1) (0 + 6) := ⟨e1, e2⟩
    have h3 := X.same.trans h2
    rw [List.append_nil] at h3
    exact h3.mono hc hs
  refine ⟨U, ?_, .threw T.heap.size, hrun, hend, Or.inr ⟨T.heap.size, rfl, cls, ce, locs, hx U hWs.alike f1 (fun q hq => f2 q hq (fun z hz => nomatch hz)), hce, hO.vm, hcl, hWs, hall, hf⟩⟩
  refine st1 _ ?_
  show Steps p.tables e below (T1.setTop { method := m, pc := pc + 3, locals := ls, stack := .ref T.heap.size :: rest, locked := none }) _
  jvm_step X₁.here [X₁.here.top, hexec, d3', Value.category]
  exact X₁.ldcString hexec (own := own) (text := text) (index := is) (a := sa) hown' hstr'.1 hstr'.2
    (g := { method := m, pc := pc + 4, locals := ls, stack := .ref T.heap.size :: .ref T.heap.size :: rest, locked := none }) rfl d4' _ hsteps
/-- 'throw new E("text")', the text by a wide index -/
theorem vx_throwSW {cc : ByteArray} {pc : Nat} (hexec : p.tables.exec = Jvm.exec) (hb : c.code = cc) (hl : l.stackTraces = false) {own cls text : String} {names : List String} {ik is ic mc ms sa : Nat} {A : Nat → Prop}
    (hown : s.vm.findClass own = some m.cls) (hcls : Bundle.fit cls = true) (hnames : ∀ n ∈ names, Bundle.fit n = true)
    (hk : (Cond.classLink own ik cls).before args s = true) (hini : (Cond.initialized cls).before args s = true) (hstr : vk_R own is text sa s) (hat : ∀ w ∈ vx_atS own ic cls names, w.before args s = true)
    (hgood : ∀ w ∈ Cond.classLink own ik cls :: Cond.initialized cls :: vx_atS own ic cls names, vx_ot w = true)
    (hU : vx_Zq Bundle.tN "UNASSIGNED_STACK" Bundle.steD A s s.heap) (hN : vx_Zq Bundle.tN "SUPPRESSED_SENTINEL" Bundle.listD A s s.heap) (hS : va_S A s.heap H locs) (hsize : ls.size = c.maxLocals)
    (d0 : decode cc pc = .ok (.new ik, 3)) (d3 : decode cc (pc + 3) = .ok (.dup, 1)) (d4 : decode cc (pc + 4) = .ok (.ldc_w is, 3)) (d7 : decode cc (pc + 7) = .ok (.invokespecial ic, 3)) (d10 : decode cc (pc + 10) = .ok (.athrow, 1))
    (hout : ∀ x ∈ c.exceptionTable.toList, covers x (pc + 10) = false)
    (hRframes : names.length + 3 < R.frames) (hRlocals : (rest.map fun v => v.category).sum + (13 * (names.length + 1) + 43) ≤ R.locals) (hRcells : cells + 1 ≤ R.cells) (hRslots : slots + 6 ≤ R.slots) (hlocks : meth.locks = false)
    (hx : ∀ t : State, s.vm.Alike t.vm → H.size ≤ t.heap.size → (∀ q : Nat, q < H.size → t.heap[q]? = H[q]?) → XC cls s t)
    (hf : ∀ z ∈ locs, free z.base) (hc : cells + 1 ≤ mc) (hs : slots + 6 ≤ ms) :
    W p l e R s m args below meth c H locs cells slots (vx_MQ below Qc XC args s mc ms free) (F0 m pc ls rest) := by
  intro T hT X
  have htr : e.platform.stackTraces = false := (show e.platform.stackTraces = l.stackTraces by rw [X.admits.platform]).trans hl
  have Y := vx_rebase X (R' := { frames := R.frames, locals := R.locals, cells := 1, slots := 6 }) (Nat.le_refl _) (Nat.le_refl _) hRcells hRslots
  obtain ⟨s', hA⟩ : ∃ z, z = (T.setVm s.vm).setFrames (.invoking m args :: below) := ⟨_, rfl⟩
  rw [← hA] at Y
  have hvm : s'.vm = s.vm := by rw [hA]; rfl
  have hhp : s'.heap = H := by rw [hA]; exact hT
  have hW0 : s.WarmedH s'.vm := by rw [hvm]; exact State.WarmedH.refl s
  have hat' : ∀ w ∈ vx_atS own ic cls names, w.before args s' = true := fun w hw => vx_ot_at hW0 hvm.symm (hgood w (List.mem_cons_of_mem _ (List.mem_cons_of_mem _ hw))) (hat w hw)
  have hk' : (Cond.classLink own ik cls).before args s' = true := vx_ot_at hW0 hvm.symm (hgood _ List.mem_cons_self) hk
  have hini' : (Cond.initialized cls).before args s' = true := vx_ot_at hW0 hvm.symm (hgood _ (List.mem_cons_of_mem _ List.mem_cons_self)) hini
  have hU' : vx_Zq Bundle.tN "UNASSIGNED_STACK" Bundle.steD A s' s'.heap := by rw [hhp]; exact vx_Zq.moved hW0.alike (hU.kept hS.2.1)
  have hN' : vx_Zq Bundle.tN "SUPPRESSED_SENTINEL" Bundle.listD A s' s'.heap := by rw [hhp]; exact vx_Zq.moved hW0.alike (hN.kept hS.2.1)
  have h : ∀ w ∈ Bundle.ownAtoms own ic cls names, w.before args s' = true := vx_own hat' (vx_isRefq hU'.1) (vx_isRefq hN'.1) hU'.2.word hN'.2.word
  have hown' : s'.vm.findClass own = some m.cls := by rw [hvm]; exact hown
  have hins : (Cond.instantiable cls 6).before args s' = true := h _ (by simp [Bundle.ownAtoms])
  obtain ⟨vm₁, cX, kX, hfX, hkX, -, -, X₁, st1⟩ := Y.newCold hexec (own := own) (C := cls) (index := ik) (n := 6) hown' hk' hins hini'
    (g := F0 m pc ls rest) rfl (by rw [hb]; exact d0) (Nat.le_refl _) (Nat.le_refl _)
  generalize hT1 : (T.setVm vm₁).pushCell { cls := cX, slots := kX.instanceTypes.map defaultValue, vm := .none } = T1 at X₁ st1
  have hcat : (Value.ref T.heap.size).category = 1 := rfl
  have hcellA : T1.heap[T.heap.size]? = some (freshCell cX kX) := by rw [← hT1]; exact State.heap_pushCell_size _ _
  have d3' : decode c.code (pc + 3) = .ok (.dup, 1) := by rw [hb]; exact d3
  have d4' : decode c.code (pc + 4) = .ok (.ldc_w is, 3) := by rw [hb]; exact d4
  have hstr' : vk_R own is text sa s' := vk_R.warm hW0 hstr
  obtain ⟨U, hsteps, hrun, hend, hW, hsame, ce, hce, hO⟩ := X₁.ctorThrowS hexec htr (own := own) (cls := cls) (names := names) (ic := ic) hown' hcls hnames h (fun x hx => nomatch hx) hfX hkX hcellA (by rw [hhp, hT]; exact Nat.le_refl _) (msg := .ref sa) rfl
    (g := { method := m, pc := pc + 7, locals := ls, stack := .ref sa :: .ref T.heap.size :: .ref T.heap.size :: rest, locked := none }) rfl hsize rfl rfl (rest := rest) rfl
    (by rw [hb]; exact d7) (by rw [hb]; exact d10) hout hRframes (by simp only [List.map_cons, List.sum_cons, hcat]; omega) hlocks
  obtain ⟨f1, f2⟩ := vx_frame hsame
  rw [hhp] at f1 f2
  have hWs : s.WarmedH U.vm := State.WarmedH.trans hW0 hW
  have hcl : s.vm.findClass cls = some ce.cls := by
    have h9 := hO.cls
    rw [hvm] at h9
    exact h9
  have hall : s.sameButNew ({ U with vm := s.vm } : State) locs mc ms := by
    subst hA
    obtain ⟨e1, e2⟩ := hsame
    rw [State.setFrames_setFrames] at e1
    have h2 : (T.setVm s.vm).sameButNew ({ U with vm := s.vm } : State) [] (0 + 1) (0 + 6) := ⟨e1, e2⟩
    have h3 := X.same.trans h2
    rw [List.append_nil] at h3
    exact h3.mono hc hs
  refine ⟨U, ?_, .threw T.heap.size, hrun, hend, Or.inr ⟨T.heap.size, rfl, cls, ce, locs, hx U hWs.alike f1 (fun q hq => f2 q hq (fun z hz => nomatch hz)), hce, hO.vm, hcl, hWs, hall, hf⟩⟩
  refine st1 _ ?_
  show Steps p.tables e below (T1.setTop { method := m, pc := pc + 3, locals := ls, stack := .ref T.heap.size :: rest, locked := none }) _
  jvm_step X₁.here [X₁.here.top, hexec, d3', Value.category]
  exact X₁.ldcStringW hexec (own := own) (text := text) (index := is) (a := sa) hown' hstr'.1 hstr'.2
    (g := { method := m, pc := pc + 4, locals := ls, stack := .ref T.heap.size :: .ref T.heap.size :: rest, locked := none }) rfl d4' _ hsteps
end Ends
section Bodies
variable {l : Launch}
theorem vx_ofW {y : MethodName} {ws ws' : List Cond} {rm : Room} {Pc : Array Value → State → Prop} {Qc : Array Value → State → Outcome → State → Prop} {XC : String → State → State → Prop} {mc ms : Nat} {free : Addr → Prop} {cc : ByteArray} {maxL : Nat} {ret : Option FieldType}
    (hy : plainName y.cls = true) (hw : ws = Cond.code y cc maxL ret :: ws')
    (body : ∀ p e s m args below meth c s₁, BodyLoose p l y (headSpec ws rm) cc maxL ret e s m args below meth c s₁ → c.maxLocals = maxL → (∀ x ∈ c.exceptionTable.toList, False) → Pc args s →
      W p l e (headSpec ws rm).room s m args below meth c s.heap [] 0 0 (vx_MQ below Qc XC args s mc ms free) (entryFrame m args maxL)) : vx_Met l y ws rm Pc Qc XC mc ms free := by
  refine MetFree.of_bodyS (code := cc) (maxLocals := maxL) (ret := ret) hy ?_ ?_
  · intro args s m h hn
    obtain ⟨meth, c, h1, h2, h3, h4, h5, h6, -, -⟩ := Cond.code_spec hn (atoms_spec (ws := ws) h _ (by rw [hw]; exact List.mem_cons_self))
    exact ⟨meth, c, h1, h2, h3, h4, h5, h6⟩
  · intro p e s m args below meth c s₁ B hml hP _
    have hh0 : s₁.heap = s.heap := by rw [B.state]; rfl
    have ht : ∀ x ∈ c.exceptionTable.toList, False := by
      obtain ⟨meth9, c9, h1, h2, -, -, -, -, h7, -⟩ := Cond.code_spec B.named (atoms_spec (ws := ws) B.pre _ (by rw [hw]; exact List.mem_cons_self))
      cases Option.some.inj (h1.symm.trans B.method)
      cases Option.some.inj (h2.symm.trans (Stand.of_body B).code)
      intro x hx
      rw [Array.isEmpty_iff.mp h7] at hx
      cases hx
    obtain ⟨t, a1, o, b1, b2, b3⟩ := body p e s m args below meth c s₁ B hml ht hP s₁ hh0 (Stand.of_body B)
    exact ⟨t, o, a1, b1, b2, b3⟩
/-- the table of a body with handlers -/
theorem vx_table {p : Program} {x y : MethodName} {S : Spec} {cc bytes : ByteArray} {maxL maxL' : Nat} {ret ret' : Option FieldType} {e : Env} {s s₁ : State} {m : MethodId} {args : Array Value} {below : List Frame} {meth : Method} {c : Code} {hh : List (Nat × Nat × Nat × Nat)}
    (B : BodyLoose p l y S cc maxL ret e s m args below meth c s₁) (h : (Cond.codeWith y bytes maxL' ret' hh).before args s = true) : c.exceptionTable.toList = tableOf hh := by
  obtain ⟨m9, meth9, c9, hn9, h1, h2, -, -, h6, -⟩ := Cond.codeWith_spec h
  cases Option.some.inj (hn9.symm.trans B.named)
  cases Option.some.inj (h1.symm.trans B.method)
  cases Option.some.inj (h2.symm.trans (Stand.of_body B).code)
  rw [← h6, table_eq]
end Bodies
end VXA
/-! ===== END ===== -/
/-! ===== BEGIN a static call of a method with an exception table ===== -/
section VXS
variable {p : Program} {l : Launch} {e : Env} {R : Room} {s : State} {m : MethodId} {args : Array Value} {below : List Frame} {meth : Method} {c : Code} {T : State} {H : Heap} {locs : List Loc} {cells slots : Nat}
abbrev vx_CSW (R : Room) (s : State) (args : Array Value) (own : String) (index : Nat) (y : MethodName) (bytes : ByteArray) (maxL : Nat) (ret : Option FieldType) (hh : List (Nat × Nat × Nat × Nat)) (ws : List Cond) (rm : Room) (mc ms n : Nat) : Prop :=
  (rm.cells = mc ∧ rm.slots = ms ∧ rm.frames + 1 ≤ R.frames ∧ 8 + (maxL + 11) + rm.locals ≤ R.locals ∧ (∀ w ∈ ws, ∀ (a' : Array Value) (U : State), s.WarmedH U.vm → w.before a' U = true) ∧ Cond.codeWith y bytes maxL ret hh ∈ ws) ∧
  (Cond.codeWith y bytes maxL ret hh).before args s = true ∧ (Cond.initialized y.cls).before args s = true ∧ (y.cls ≠ "java/lang/invoke/MethodHandle" ∧ y.cls ≠ "java/lang/invoke/VarHandle") ∧
  (∀ sig, parseMethodDescriptor y.desc = some sig → n = sig.parameters.length) ∧ (Cond.methodLink own index y).before args s = true ∧ (Cond.static y).before args s = true
theorem vx_cwSW {own : String} {index maxL mc ms : Nat} {y : MethodName} {bytes : ByteArray} {ret : Option FieldType} {hh : List (Nat × Nat × Nat × Nat)} {Ts ws ws' : List Cond} {rm : Room} (n : Nat) (ht : ∀ w ∈ Ts, w.before args s = true) (hT : GoodIn Ts (va_wsS own index y ws)) (hw : ws = Cond.codeWith y bytes maxL ret hh :: ws') (hrc : rm.cells = mc) (hrs : rm.slots = ms)
    (hd : y.cls ≠ "java/lang/invoke/MethodHandle" ∧ y.cls ≠ "java/lang/invoke/VarHandle" ∧ (parseMethodDescriptor y.desc).map (fun d => d.parameters.length) = some n) (hR : rm.frames + 1 ≤ R.frames ∧ 8 + (maxL + 11) + rm.locals ≤ R.locals) :
    vx_CSW R s args own index y bytes maxL ret hh ws rm mc ms n := by
  have ok : ∀ w ∈ va_wsS own index y ws, w.before args s = true := fun w h => ht w (hT w h).1
  have hG : GoodIn Ts ws := fun w h => hT w (by unfold va_wsS; exact List.mem_append_right _ h)
  have hc : Cond.codeWith y bytes maxL ret hh ∈ ws := by rw [hw]; exact List.mem_cons_self
  refine ⟨⟨hrc, hrs, hR.1, hR.2, pay_in ht hG, hc⟩, ht _ (hG _ hc).1, ok _ (by simp [va_wsS]), ⟨hd.1, hd.2.1⟩, fun sig h => ?_, ok _ (by simp [va_wsS]), ok _ (by simp [va_wsS])⟩
  have h2 := hd.2.2
  rw [h] at h2
  exact (Option.some.inj h2).symm
theorem vx_callSW (X : Stand p l e R s m args below meth c T locs cells slots) (hexec : p.tables.exec = Jvm.exec) {own : String} {index : Nat} {y : MethodName} {bytes : ByteArray} {maxL : Nat} {ret : Option FieldType} {hh : List (Nat × Nat × Nat × Nat)}
    (hown : s.vm.findClass own = some m.cls) (hlink : (Cond.methodLink own index y).before args s = true) (hstat : (Cond.static y).before args s = true) (hinit : (Cond.initialized y.cls).before args s = true)
    (hcode : (Cond.codeWith y bytes maxL ret hh).before args s = true) (hy : y.cls ≠ "java/lang/invoke/MethodHandle" ∧ y.cls ≠ "java/lang/invoke/VarHandle")
    {W9 : Nat} {Pre : Pt → Array Value → Prop} {Post : Pt → Array Value → Option Value → Pt → Prop} (hK : Back l R p e below s args y 3 W9 Pre Post)
    {g : JFrame} (hg : g.method = m) (hsize : g.locals.size = c.maxLocals) {argsL rest : List Value} (hlen : ∀ sig, parseMethodDescriptor y.desc = some sig → argsL.length = sig.parameters.length)
    (hstack : g.stack = argsL.reverse ++ rest) (hW : 2 * g.monitorRoom + (rest.map fun v => v.category).sum ≤ W9) (hdg : decode c.code g.pc = .ok (.invokestatic index, 3))
    (hpre : ∀ vm₁, s.WarmedH vm₁ → Pre ⟨T.setVm vm₁, locs, cells, slots⟩ argsL.toArray) :
    ∃ (v : Option Value) (vm₁ : Vm) (B : Pt), s.WarmedH vm₁ ∧ Stand p l e R s m args below meth c B.U B.locs B.cells B.slots ∧ Post ⟨T.setVm vm₁, locs, cells, slots⟩ argsL.toArray v B ∧
      ∀ target, Steps p.tables e below (B.U.setTop { g with pc := g.pc + 3, stack := v.toList ++ rest }) target → Steps p.tables e below (T.setTop g) target := by
  obtain ⟨mk, methM, cM, hnamed, hmethM, -, -, -, -, -, -, hsigM⟩ := Cond.codeWith_spec hcode
  have hstatic : methM.isStatic = true := Cond.static_spec hnamed hmethM hstat
  obtain ⟨kP, hkP, -⟩ := className_of_methodNamed hnamed
  have hinitP : kP.init = .initialized := Cond.initialized_spec (findClass_of_methodNamed hnamed) hkP hinit
  obtain ⟨vm₁, X₁, hstep₁⟩ := X.invokestatic hexec hown hlink hnamed hmethM hstatic hkP hinitP hy (g := g) hg (argsL := argsL) (rest := rest) (hlen _ hsigM) hstack hdg
  obtain ⟨v, B, X', hpost, hsteps⟩ := hK m meth c ⟨T.setVm vm₁, locs, cells, slots⟩ { g with stack := rest } (.invokestatic index) mk argsL.toArray X₁ hg hsize hdg hW (X₁.named hnamed) (hpre vm₁ X₁.warmed)
  exact ⟨v, vm₁, B, X₁.warmed, X', hpost, fun target h => hstep₁ _ fun acts => by rw [doInvoke_state]; exact hsteps.trans h⟩
theorem vx_runSW {y : MethodName} {bytes cc : ByteArray} {maxL nL mc ms n index : Nat} {ret : Option FieldType} {hh : List (Nat × Nat × Nat × Nat)} {ws : List Cond} {rm : Room} {Pc : Array Value → State → Prop} {Qc : Array Value → State → Outcome → State → Prop} {free : Addr → Prop} {Ts : List Cond} {own : String} {As rest : List Value} {g : JFrame}
    (S : CallFix p m c cc nL s args Ts own) (hM : Met l y ws rm Pc Qc mc ms free) (cw : vx_CSW R s args own index y bytes maxL ret hh ws rm mc ms n) (hp : PreS s H Pc As)
    (hg : g.method = m) (hn : As.length = n) (hsize : g.locals.size = nL) (hstack : g.stack = As.reverse ++ rest) (hW : 2 * g.monitorRoom + (rest.map fun v => v.category).sum ≤ 8) (hdg : decode cc g.pc = .ok (.invokestatic index, 3)) (hf : cells + mc ≤ R.cells ∧ slots + ms ≤ R.slots) :
    va_Run p l e R s m args below meth c H locs cells slots mc ms g rest (Qc As.toArray) (free) := by
  obtain ⟨⟨hrc, hrs, hfr, hlo, hws, hcw⟩, hcode, hini, hy, hlen, hl, hstt⟩ := cw
  have hK : Back l R p e below s args y 3 8 (PreOf R mc ms Pc) (PostOf Qc mc ms free) := va_backW (hh := hh) (bytes := bytes) (maxL := maxL) (ret := ret) hM hp.1 hrc hrs hfr hlo hws hcw (fun a' U hW => word_at hW (Or.inl (by first | rfl | simp [Cond.onTables, Cond.keeps, Cond.steady])) hini)
  obtain ⟨hx, hb, hml, ho, -⟩ := S
  intro T hT X
  obtain ⟨v, vm₁, ⟨U', l2, c2, s2⟩, hW₁, X', ⟨g', mk, t, L, e1, e2, hq, h1, hL, h2, h3⟩, st⟩ := vx_callSW X hx (hh := hh) (bytes := bytes) (maxL := maxL) (ret := ret) ho hl hstt hini hcode hy hK hg (hsize.trans hml.symm) (argsL := As) (rest := rest) (fun sig h => hn.trans (hlen sig h)) hstack hW (by rw [hb]; exact hdg)
    (fun vm₁ hW₁ => ⟨hf.1, hf.2, hp.2 (T.setVm vm₁) hT hW₁⟩)
  dsimp only [Pt.U, Pt.locs, Pt.cells, Pt.slots] at X' e1 e2 h1 h2 h3 st
  subst h1; subst h2; subst h3
  exact ⟨v, (T.setVm vm₁).calling g' mk As.toArray, t, U', L, hT, X', hL, e1, e2, hq, st⟩
/-- not caught here, past rows that name other classes: it goes on to the caller -/
theorem vx_outP {p : Program} {l : Launch} {e : Env} {R : Room} {s : State} {m : MethodId} {args : Array Value} {below : List Frame} {meth : Method} {c : Code} {H : Heap} {locs : List Loc} {cells slots : Nat} {free : Addr → Prop} {ls : Array Slot} {rest : List Value} {Qc : Array Value → State → Outcome → State → Prop} {XC : String → State → State → Prop}
    {pc : Nat} {own E : String} {ce : Cell} {q : Addr} {mc ms : Nat} (hown : s.vm.findClass own = some m.cls) (hlocks : meth.locks = false)
    (hpass : ∀ z ∈ c.exceptionTable.toList, covers z pc = false ∨ (z.catchType ≠ 0 ∧ ∃ nm : String, (Cond.classLink own z.catchType nm).before args s = true ∧ va_Nc E nm s)) (hcell : H[q]? = some ce) (hv : ce.vm = .none) (hcl : s.vm.findClass E = some ce.cls)
    (hx : ∀ t : State, t.heap = H → s.vm.Alike t.vm → XC E s t) (hf : ∀ z ∈ locs, free z.base) (hc : cells ≤ mc) (hs : slots ≤ ms) :
    vx_W p l e R s m args below meth c H locs cells slots (vx_MQ below Qc XC args s mc ms free) (F0 m pc ls rest) q := by
  intro T hT X
  have hpl : e.platform.magicAccessors = ({} : Platform).magicAccessors := by rw [X.admits.platform]
  obtain ⟨vm', hW', X', st⟩ := X.outThrough hlocks q (g := F0 m pc ls rest) rfl rfl rfl (cell := ce) (by rw [hT]; exact hcell) (by rw [hv]; rfl)
    (by obtain ⟨k9, h9, -⟩ := Vm.findClass_spec hcl; exact ⟨k9, h9⟩) (fun z hz => by
      rcases hpass z hz with h | ⟨hz0, nm, hl1, hn1⟩
      · exact Or.inl h
      · obtain ⟨c6, hc6, hcl6⟩ := Cond.classLink_spec hown hl1 e.platform hpl
        obtain ⟨a8, b8, h1, h2, h3⟩ := hn1
        cases Option.some.inj (h1.symm.trans hcl)
        cases Option.some.inj (h2.symm.trans hc6)
        exact Or.inr ⟨hz0, _, hcl6, h3⟩)
  obtain ⟨g₀, hfr⟩ := X'.frames_eq
  have hcell9 : ((T.setVm vm').setFrames (.throwing q :: below)).heap[q]? = some ce := by
    show T.heap[q]? = some ce
    rw [hT]; exact hcell
  have hend : Ended ((T.setVm vm').setFrames (.throwing q :: below)) below (.threw q) := State.frames_setFrames _ (State.cur_lt_of_frames hfr)
  refine ⟨(T.setVm vm').setFrames (.throwing q :: below), ?_, .threw q, X'.here.running, hend, Or.inr ⟨q, rfl, E, ce, locs, hx _ hT (X'.ends _).1.alike, hcell9, hv, hcl, (X'.ends _).1, (X'.ends _).2.mono hc hs, hf⟩⟩
  rw [X.pushThrowing_eq]
  exact st
/-- a thing of a world lies in the heap -/
theorem vx_lt {D : va_G} {cl : List vw_C} {ws : va_W} {H1 : Heap} (h : va_P D cl ws H1) {k : Nat} {q : Nat × va_E} (hk : ws[k]? = some q) : q.1 < H1.size := (h k q hk).lt
end VXS
/-! ===== END ===== -/
/-! ===== BEGIN methods with a table of their own: called by a name, returning or throwing ===== -/
section VXH
/-! vx_backW, vx_callVX, vx_callSX, vx_callVW, vx_runVW, vx_runVX, vx_runSX, vx_ofWH follow the same proofs as their sisters above (Free/Laws.lean, Shelf42/LK1.lean); vx_outP calls Shelf42/NT130.lean (outThrough). -/
section
variable {l : Launch} {R : Room} {p : Program} {e : Env} {below : List Frame} {s : State} {sargs : Array Value} {y : MethodName} {len W9 : Nat}
theorem vx_backW {ws : List Cond} {rm : Room} {Pc : Array Value → State → Prop} {Qc : Array Value → State → Outcome → State → Prop} {XC : String → State → State → Prop} {mc ms : Nat} {free : Addr → Prop} {bytes : ByteArray} {maxL : Nat} {ret : Option FieldType} {hh : List (Nat × Nat × Nat × Nat)}
    (hM : vx_Met l y ws rm Pc Qc XC mc ms free) (hblind : FrameBlind Pc) (hrc : rm.cells = mc) (hrs : rm.slots = ms)
    (hframes : rm.frames + 1 ≤ R.frames) (hlocals : W9 + (maxL + 11) + rm.locals ≤ R.locals)
    (hws : ∀ w ∈ ws, ∀ a' U, s.WarmedH U.vm → w.before a' U = true) (hcode : Cond.codeWith y bytes maxL ret hh ∈ ws) (hinit : ∀ a' U, s.WarmedH U.vm → (Cond.initialized y.cls).before a' U = true) :
    vx_Back l R p e below s sargs y len W9 (PreOf R mc ms Pc) (PostOf Qc mc ms free) (vx_Post XC mc ms free) := by
  intro m meth c A g ig mk a X hg hsize hdg hW hn hp
  have h1 : (headSpec ws rm).pre.before a A.U = true := atoms_intro fun w hw => hws w hw _ _ X.warmed
  have h2 : (Cond.codeWith y bytes maxL ret hh).before a A.U = true := hws _ hcode _ _ X.warmed
  have h3 : (Cond.initialized y.cls).before a A.U = true := hinit _ _ X.warmed
  have h4 : A.cells + (headSpec ws rm).room.cells ≤ R.cells := by rw [show (headSpec ws rm).room.cells = mc from hrc]; exact hp.1
  have h5 : A.slots + (headSpec ws rm).room.slots ≤ R.slots := by rw [show (headSpec ws rm).room.slots = ms from hrs]; exact hp.2.1
  have hPc : Pc a (A.U.calling g mk a) := hblind _ _ _ _ hp.2.2
  obtain ⟨U, Ls, c0, s0⟩ := A
  dsimp only [Pt.U, Pt.locs, Pt.cells, Pt.slots] at h1 h2 h3 h4 h5 X hn hPc ⊢
  obtain ⟨m9, methY, cY, hn9, hmY, hcY, -, hlY, -⟩ := Cond.codeWith_spec h2
  cases Option.some.inj (hn9.symm.trans hn)
  obtain ⟨kY, hkY, -⟩ := className_of_methodNamed hn
  have hinitY : kY.init = .initialized := Cond.initialized_spec (findClass_of_methodNamed hn) hkY h3
  have h : At U g.method c below := by rw [hg]; exact X.here
  have hlocals9 : W9 + (maxL + 11) + (headSpec ws rm).room.locals ≤ R.locals := hlocals
  have happ : (headSpec ws rm).appliesLoose y e.platform (U.calling g mk a) = true :=
    Spec.appliesLoose_calling (g := g) h hdg hn hkY hinitY
      (X.room_calling (g := g) (R' := (headSpec ws rm).room) hsize hmY hcY hframes (by rw [hlY]; omega) h4 h5) h1
  obtain ⟨mid, hmid⟩ := h.above
  have hfr : (U.setTop g).frames = (.java g :: mid) ++ below := by rw [State.frames_setTop' g h.top, hmid]; rfl
  obtain ⟨o, s₂, hsteps, -, hend, hq⟩ := Steps.callFree hM p X.admits X.cas X.clock (acts := []) hfr happ hPc trivial
  have hq' : vx_Q Qc XC mc ms free a (U.calling g mk a) o s₂ := hq
  rw [State.frames_setTop' g h.top] at hend
  obtain ⟨g₀, hg0⟩ := Option.isSome_iff_exists.mp h.top
  obtain ⟨r, hr⟩ := State.topJava?_eq_some.mp hg0
  have hr' : (({ U with heap := s₂.heap, slotsUsed := s₂.slotsUsed } : State).setVm s₂.vm).frames = .java g₀ :: r := hr
  rcases hq' with ⟨hqc, L, hfe, hL⟩ | ⟨q, rfl, E, ce, L, hx, hce, hcv, hcl, hW₂, hsm, hL⟩
  · obtain ⟨⟨v, rfl⟩, hW₂, e2, q2, q3, q4, q5, q6⟩ := id hfe
    have e3 : s₂ = ({ (U.calling g mk a).setFrames s₂.frames with heap := s₂.heap, slotsUsed := s₂.slotsUsed } : State).setVm s₂.vm := by
      have : s₂ = ({ s₂ with vm := (U.calling g mk a).vm } : State).setVm s₂.vm := rfl
      rw [e2] at this
      exact this
    obtain ⟨c₂, i₂, len₂, hc₂, hd₂, hf₂⟩ := hend
    have hW' : U.WarmedH s₂.vm := hW₂
    have hcc : c₂ = c := by
      have h1 : s₂.code? g.method = U.code? g.method := by
        rw [State.code?_eq, State.code?_eq, hW'.alike.method?]
      exact Option.some.inj (hc₂.symm.trans (h1.trans h.code))
    subst hcc
    have hlen : len₂ = len := by rw [hdg] at hd₂; cases hd₂; rfl
    subst hlen
    have hs₂ : s₂ = (({ U with heap := s₂.heap, slotsUsed := s₂.slotsUsed } : State).setVm s₂.vm).setTop { g with pc := g.pc + len₂, stack := v.toList ++ g.stack } := by
      refine e3.trans ?_
      rw [hf₂, State.calling_eq h.top, State.setFrames_setFrames, State.setTop_of_frames _ hr', hr]
      rfl
    have hsame : U.sameButNew ({ U with heap := s₂.heap, slotsUsed := s₂.slotsUsed } : State) L mc ms := by
      refine ⟨?_, q2, q3, q4, q5, q6⟩
      obtain ⟨t, ht, -⟩ := State.frames_cons hr
      show ({ U with heap := s₂.heap, slotsUsed := s₂.slotsUsed } : State) = { U.setFrames U.frames with heap := s₂.heap, slotsUsed := s₂.slotsUsed }
      rw [State.setFrames_self ht]
    subst hg
    refine Or.inl ⟨v, ⟨(({ U with heap := s₂.heap, slotsUsed := s₂.slotsUsed } : State).setVm s₂.vm), Ls ++ L, c0 + mc, s0 + ms⟩,
      ⟨X.admits, X.cas, X.clock, X.frames, X.room, X.hears, X.method, X.code, (X.here.setHeapUsed s₂.heap s₂.slotsUsed).setVm hW'.alike, X.tail, State.WarmedH.trans X.warmed hW', X.limits, X.bytes, X.same.trans (hsame.setVm s.vm)⟩,
      ⟨g, mk, s₂, L, rfl, rfl, hqc, rfl, hL, rfl, rfl⟩, ?_⟩
    show Steps p.tables e below _ ((({ U with heap := s₂.heap, slotsUsed := s₂.slotsUsed } : State).setVm s₂.vm).setTop { g with pc := g.pc + len₂, stack := v.toList ++ g.stack })
    rw [← hs₂]
    exact hsteps
  · obtain ⟨e2, q2, q3, q4, q5, q6⟩ := id hsm
    have e3 : s₂ = ({ (U.calling g mk a).setFrames s₂.frames with heap := s₂.heap, slotsUsed := s₂.slotsUsed } : State).setVm s₂.vm := by
      have : s₂ = ({ s₂ with vm := (U.calling g mk a).vm } : State).setVm s₂.vm := rfl
      rw [e2] at this
      exact this
    have hf₂ : s₂.frames = .throwing q :: .java g :: U.frames.tail := hend
    have hW' : U.WarmedH s₂.vm := hW₂
    have hs₂ : s₂ = ((({ U with heap := s₂.heap, slotsUsed := s₂.slotsUsed } : State).setVm s₂.vm).setTop g).pushFrame (.throwing q) := by
      refine e3.trans ?_
      rw [hf₂, State.calling_eq h.top, State.setFrames_setFrames, State.pushFrame, State.frames_setTop _ hr', State.setTop_of_frames _ hr', State.setFrames_setFrames, hr]
      rfl
    have hsame : U.sameButNew ({ U with heap := s₂.heap, slotsUsed := s₂.slotsUsed } : State) L mc ms := by
      refine ⟨?_, q2, q3, q4, q5, q6⟩
      obtain ⟨t, ht, -⟩ := State.frames_cons hr
      show ({ U with heap := s₂.heap, slotsUsed := s₂.slotsUsed } : State) = { U.setFrames U.frames with heap := s₂.heap, slotsUsed := s₂.slotsUsed }
      rw [State.setFrames_self ht]
    subst hg
    refine Or.inr ⟨q, ⟨(({ U with heap := s₂.heap, slotsUsed := s₂.slotsUsed } : State).setVm s₂.vm), Ls ++ L, c0 + mc, s0 + ms⟩,
      ⟨X.admits, X.cas, X.clock, X.frames, X.room, X.hears, X.method, X.code, (X.here.setHeapUsed s₂.heap s₂.slotsUsed).setVm hW'.alike, X.tail, State.WarmedH.trans X.warmed hW', X.limits, X.bytes, X.same.trans (hsame.setVm s.vm)⟩,
      ⟨g, mk, s₂, L, E, ce, rfl, rfl, hx, hce, hcv, hcl, rfl, hL, rfl, rfl⟩, ?_⟩
    show Steps p.tables e below _ (((({ U with heap := s₂.heap, slotsUsed := s₂.slotsUsed } : State).setVm s₂.vm).setTop g).pushFrame (.throwing q))
    rw [← hs₂]
    exact hsteps
end
variable {p : Program} {l : Launch} {e : Env} {R : Room} {s : State} {m : MethodId} {args : Array Value} {below : List Frame} {meth : Method} {c : Code} {T : State} {H : Heap} {locs : List Loc} {cells slots : Nat}
theorem vx_callVX (X : Stand p l e R s m args below meth c T locs cells slots) (hexec : p.tables.exec = Jvm.exec) {own C : String} {index : Nat} {y : MethodName} {bytes : ByteArray} {maxL : Nat} {ret : Option FieldType} {hh : List (Nat × Nat × Nat × Nat)}
    (hown : s.vm.findClass own = some m.cls) (hlink : (Cond.methodLink own index y).before args s = true) (hinst : (Cond.instanceMethod y).before args s = true) (hsel : (Cond.selects C y y).before args s = true)
    (hcode : (Cond.codeWith y bytes maxL ret hh).before args s = true) (hy : y.cls ≠ "java/lang/invoke/MethodHandle" ∧ y.cls ≠ "java/lang/invoke/VarHandle")
    {W9 : Nat} {Pre : Pt → Array Value → Prop} {Post : Pt → Array Value → Option Value → Pt → Prop} {PostX : Pt → Array Value → Addr → Pt → Prop} (hK : vx_Back l R p e below s args y 3 W9 Pre Post PostX)
    {b : Addr} {cellB : Cell} (hcell : T.heap[b]? = some cellB) (hobj : cellB.vm.isStatics = false) (hcls : s.vm.findClass C = some cellB.cls)
    {g : JFrame} (hg : g.method = m) (hsize : g.locals.size = c.maxLocals) {argsL rest : List Value} (hlen : ∀ sig, parseMethodDescriptor y.desc = some sig → argsL.length = sig.parameters.length)
    (hstack : g.stack = argsL.reverse ++ .ref b :: rest) (hW : 2 * g.monitorRoom + (rest.map fun v => v.category).sum ≤ W9) (hdg : decode c.code g.pc = .ok (.invokevirtual index, 3))
    (hpre : ∀ vm₁, s.WarmedH vm₁ → Pre ⟨T.setVm vm₁, locs, cells, slots⟩ (Value.ref b :: argsL).toArray) :
    (∃ (v : Option Value) (vm₁ : Vm) (B : Pt), s.WarmedH vm₁ ∧ Stand p l e R s m args below meth c B.U B.locs B.cells B.slots ∧ Post ⟨T.setVm vm₁, locs, cells, slots⟩ (Value.ref b :: argsL).toArray v B ∧
      ∀ target, Steps p.tables e below (B.U.setTop { g with pc := g.pc + 3, stack := v.toList ++ rest }) target → Steps p.tables e below (T.setTop g) target) ∨
    (∃ (q : Addr) (vm₁ : Vm) (B : Pt), s.WarmedH vm₁ ∧ Stand p l e R s m args below meth c B.U B.locs B.cells B.slots ∧ PostX ⟨T.setVm vm₁, locs, cells, slots⟩ (Value.ref b :: argsL).toArray q B ∧
      Steps p.tables e below (T.setTop g) ((B.U.setTop { g with stack := rest }).pushFrame (.throwing q))) := by
  obtain ⟨mk, methM, hnamed, hmethM, hstM, habM⟩ := Cond.instanceMethod_spec hinst
  obtain ⟨m8, methM', cM, hn8, hmethM', -, -, -, -, -, -, hsigM⟩ := Cond.codeWith_spec hcode
  cases Option.some.inj (hn8.symm.trans hnamed)
  cases hmethM.symm.trans hmethM'
  obtain ⟨c2, r2, m2, q1, q2, q3, q4, kP, hkP, hkPi⟩ := Cond.selects_spec hsel
  cases hcls.symm.trans q1
  cases (State.methodFound?_of_named hnamed hy).symm.trans q2
  cases hnamed.symm.trans q3
  have hselP : selectMethod e.platform s.vm cellB.cls mk = .method mk := by rw [Launch.admits_selectMethod X.admits]; exact q4
  obtain ⟨vm₁, X₁, hstep₁⟩ := X.invokevirtual hexec hown hlink hnamed hmethM hstM hkP hkPi hy (a := b) (cell := cellB) hcell
    (fun z h => by rw [h] at hobj; cases hobj) hselP hmethM habM hkP hkPi (g := g) hg (argsL := argsL) (rest := rest) (hlen _ hsigM) hstack hdg
  rcases hK m meth c ⟨T.setVm vm₁, locs, cells, slots⟩ { g with stack := rest } (.invokevirtual index) mk (Value.ref b :: argsL).toArray X₁ hg hsize hdg hW (X₁.named hnamed) (hpre vm₁ X₁.warmed) with ⟨v, B, X', hpost, hsteps⟩ | ⟨q, B, X', hpost, hsteps⟩
  · exact Or.inl ⟨v, vm₁, B, X₁.warmed, X', hpost, fun target h => hstep₁ _ fun acts => by rw [doInvoke_state]; exact hsteps.trans h⟩
  · exact Or.inr ⟨q, vm₁, B, X₁.warmed, X', hpost, hstep₁ _ fun acts => by rw [doInvoke_state]; exact hsteps⟩
theorem vx_callSX (X : Stand p l e R s m args below meth c T locs cells slots) (hexec : p.tables.exec = Jvm.exec) {own : String} {index : Nat} {y : MethodName} {bytes : ByteArray} {maxL : Nat} {ret : Option FieldType} {hh : List (Nat × Nat × Nat × Nat)}
    (hown : s.vm.findClass own = some m.cls) (hlink : (Cond.methodLink own index y).before args s = true) (hstat : (Cond.static y).before args s = true) (hinit : (Cond.initialized y.cls).before args s = true)
    (hcode : (Cond.codeWith y bytes maxL ret hh).before args s = true) (hy : y.cls ≠ "java/lang/invoke/MethodHandle" ∧ y.cls ≠ "java/lang/invoke/VarHandle")
    {W9 : Nat} {Pre : Pt → Array Value → Prop} {Post : Pt → Array Value → Option Value → Pt → Prop} {PostX : Pt → Array Value → Addr → Pt → Prop} (hK : vx_Back l R p e below s args y 3 W9 Pre Post PostX)
    {g : JFrame} (hg : g.method = m) (hsize : g.locals.size = c.maxLocals) {argsL rest : List Value} (hlen : ∀ sig, parseMethodDescriptor y.desc = some sig → argsL.length = sig.parameters.length)
    (hstack : g.stack = argsL.reverse ++ rest) (hW : 2 * g.monitorRoom + (rest.map fun v => v.category).sum ≤ W9) (hdg : decode c.code g.pc = .ok (.invokestatic index, 3))
    (hpre : ∀ vm₁, s.WarmedH vm₁ → Pre ⟨T.setVm vm₁, locs, cells, slots⟩ argsL.toArray) :
    (∃ (v : Option Value) (vm₁ : Vm) (B : Pt), s.WarmedH vm₁ ∧ Stand p l e R s m args below meth c B.U B.locs B.cells B.slots ∧ Post ⟨T.setVm vm₁, locs, cells, slots⟩ argsL.toArray v B ∧
      ∀ target, Steps p.tables e below (B.U.setTop { g with pc := g.pc + 3, stack := v.toList ++ rest }) target → Steps p.tables e below (T.setTop g) target) ∨
    (∃ (q : Addr) (vm₁ : Vm) (B : Pt), s.WarmedH vm₁ ∧ Stand p l e R s m args below meth c B.U B.locs B.cells B.slots ∧ PostX ⟨T.setVm vm₁, locs, cells, slots⟩ argsL.toArray q B ∧
      Steps p.tables e below (T.setTop g) ((B.U.setTop { g with stack := rest }).pushFrame (.throwing q))) := by
  obtain ⟨mk, methM, cM, hnamed, hmethM, -, -, -, -, -, -, hsigM⟩ := Cond.codeWith_spec hcode
  have hstatic : methM.isStatic = true := Cond.static_spec hnamed hmethM hstat
  obtain ⟨kP, hkP, -⟩ := className_of_methodNamed hnamed
  have hinitP : kP.init = .initialized := Cond.initialized_spec (findClass_of_methodNamed hnamed) hkP hinit
  obtain ⟨vm₁, X₁, hstep₁⟩ := X.invokestatic hexec hown hlink hnamed hmethM hstatic hkP hinitP hy (g := g) hg (argsL := argsL) (rest := rest) (hlen _ hsigM) hstack hdg
  rcases hK m meth c ⟨T.setVm vm₁, locs, cells, slots⟩ { g with stack := rest } (.invokestatic index) mk argsL.toArray X₁ hg hsize hdg hW (X₁.named hnamed) (hpre vm₁ X₁.warmed) with ⟨v, B, X', hpost, hsteps⟩ | ⟨q, B, X', hpost, hsteps⟩
  · exact Or.inl ⟨v, vm₁, B, X₁.warmed, X', hpost, fun target h => hstep₁ _ fun acts => by rw [doInvoke_state]; exact hsteps.trans h⟩
  · exact Or.inr ⟨q, vm₁, B, X₁.warmed, X', hpost, hstep₁ _ fun acts => by rw [doInvoke_state]; exact hsteps⟩
theorem vx_callVW (X : Stand p l e R s m args below meth c T locs cells slots) (hexec : p.tables.exec = Jvm.exec) {own C : String} {index : Nat} {y : MethodName} {bytes : ByteArray} {maxL : Nat} {ret : Option FieldType} {hh : List (Nat × Nat × Nat × Nat)}
    (hown : s.vm.findClass own = some m.cls) (hlink : (Cond.methodLink own index y).before args s = true) (hinst : (Cond.instanceMethod y).before args s = true) (hsel : (Cond.selects C y y).before args s = true)
    (hcode : (Cond.codeWith y bytes maxL ret hh).before args s = true) (hy : y.cls ≠ "java/lang/invoke/MethodHandle" ∧ y.cls ≠ "java/lang/invoke/VarHandle")
    {W9 : Nat} {Pre : Pt → Array Value → Prop} {Post : Pt → Array Value → Option Value → Pt → Prop} (hK : Back l R p e below s args y 3 W9 Pre Post)
    {b : Addr} {cellB : Cell} (hcell : T.heap[b]? = some cellB) (hobj : cellB.vm.isStatics = false) (hcls : s.vm.findClass C = some cellB.cls)
    {g : JFrame} (hg : g.method = m) (hsize : g.locals.size = c.maxLocals) {argsL rest : List Value} (hlen : ∀ sig, parseMethodDescriptor y.desc = some sig → argsL.length = sig.parameters.length)
    (hstack : g.stack = argsL.reverse ++ .ref b :: rest) (hW : 2 * g.monitorRoom + (rest.map fun v => v.category).sum ≤ W9) (hdg : decode c.code g.pc = .ok (.invokevirtual index, 3))
    (hpre : ∀ vm₁, s.WarmedH vm₁ → Pre ⟨T.setVm vm₁, locs, cells, slots⟩ (Value.ref b :: argsL).toArray) :
    ∃ (v : Option Value) (vm₁ : Vm) (B : Pt), s.WarmedH vm₁ ∧ Stand p l e R s m args below meth c B.U B.locs B.cells B.slots ∧ Post ⟨T.setVm vm₁, locs, cells, slots⟩ (Value.ref b :: argsL).toArray v B ∧
      ∀ target, Steps p.tables e below (B.U.setTop { g with pc := g.pc + 3, stack := v.toList ++ rest }) target → Steps p.tables e below (T.setTop g) target := by
  obtain ⟨mk, methM, hnamed, hmethM, hstM, habM⟩ := Cond.instanceMethod_spec hinst
  obtain ⟨m8, methM', cM, hn8, hmethM', -, -, -, -, -, -, hsigM⟩ := Cond.codeWith_spec hcode
  cases Option.some.inj (hn8.symm.trans hnamed)
  cases hmethM.symm.trans hmethM'
  obtain ⟨c2, r2, m2, q1, q2, q3, q4, kP, hkP, hkPi⟩ := Cond.selects_spec hsel
  cases hcls.symm.trans q1
  cases (State.methodFound?_of_named hnamed hy).symm.trans q2
  cases hnamed.symm.trans q3
  have hselP : selectMethod e.platform s.vm cellB.cls mk = .method mk := by rw [Launch.admits_selectMethod X.admits]; exact q4
  obtain ⟨vm₁, X₁, hstep₁⟩ := X.invokevirtual hexec hown hlink hnamed hmethM hstM hkP hkPi hy (a := b) (cell := cellB) hcell
    (fun z h => by rw [h] at hobj; cases hobj) hselP hmethM habM hkP hkPi (g := g) hg (argsL := argsL) (rest := rest) (hlen _ hsigM) hstack hdg
  obtain ⟨v, B, X', hpost, hsteps⟩ := hK m meth c ⟨T.setVm vm₁, locs, cells, slots⟩ { g with stack := rest } (.invokevirtual index) mk (Value.ref b :: argsL).toArray X₁ hg hsize hdg hW (X₁.named hnamed) (hpre vm₁ X₁.warmed)
  exact ⟨v, vm₁, B, X₁.warmed, X', hpost, fun target h => hstep₁ _ fun acts => by rw [doInvoke_state]; exact hsteps.trans h⟩
abbrev vx_CVW (R : Room) (s : State) (args : Array Value) (own C : String) (index : Nat) (y : MethodName) (bytes : ByteArray) (maxL : Nat) (ret : Option FieldType) (hh : List (Nat × Nat × Nat × Nat)) (ws : List Cond) (rm : Room) (mc ms n : Nat) : Prop :=
  (rm.cells = mc ∧ rm.slots = ms ∧ rm.frames + 1 ≤ R.frames ∧ 8 + (maxL + 11) + rm.locals ≤ R.locals ∧ (∀ w ∈ ws, ∀ (a' : Array Value) (U : State), s.WarmedH U.vm → w.before a' U = true) ∧ Cond.codeWith y bytes maxL ret hh ∈ ws) ∧
  (Cond.codeWith y bytes maxL ret hh).before args s = true ∧ (Cond.initialized y.cls).before args s = true ∧ (y.cls ≠ "java/lang/invoke/MethodHandle" ∧ y.cls ≠ "java/lang/invoke/VarHandle") ∧
  (∀ sig, parseMethodDescriptor y.desc = some sig → n = sig.parameters.length) ∧ (Cond.methodLink own index y).before args s = true ∧ (Cond.instanceMethod y).before args s = true ∧ (Cond.selects C y y).before args s = true
theorem vx_cwVW {own C : String} {index maxL mc ms : Nat} {y : MethodName} {bytes : ByteArray} {ret : Option FieldType} {hh : List (Nat × Nat × Nat × Nat)} {Ts ws ws' : List Cond} {rm : Room} (n : Nat) (ht : ∀ w ∈ Ts, w.before args s = true) (hT : GoodIn Ts (wsV own index C y ws)) (hw : ws = Cond.codeWith y bytes maxL ret hh :: ws') (hrc : rm.cells = mc) (hrs : rm.slots = ms)
    (hd : y.cls = C ∧ y.cls ≠ "java/lang/invoke/MethodHandle" ∧ y.cls ≠ "java/lang/invoke/VarHandle" ∧ (parseMethodDescriptor y.desc).map (fun d => d.parameters.length) = some n) (hR : rm.frames + 1 ≤ R.frames ∧ 8 + (maxL + 11) + rm.locals ≤ R.locals) :
    vx_CVW R s args own C index y bytes maxL ret hh ws rm mc ms n := by
  obtain ⟨hC, hd⟩ := hd
  subst hC
  have ok : ∀ w ∈ wsV own index y.cls y ws, w.before args s = true := fun w h => ht w (hT w h).1
  have hG : GoodIn Ts ws := fun w h => hT w (by unfold wsV; exact List.mem_append_right _ h)
  have hc : Cond.codeWith y bytes maxL ret hh ∈ ws := by rw [hw]; exact List.mem_cons_self
  refine ⟨⟨hrc, hrs, hR.1, hR.2, pay_in ht hG, hc⟩, ht _ (hG _ hc).1, ok _ (by simp [wsV]), ⟨hd.1, hd.2.1⟩, fun sig h => ?_, ok _ (by simp [wsV]), ok _ (by simp [wsV]), ok _ (by simp [wsV])⟩
  have h2 := hd.2.2
  rw [h] at h2
  exact (Option.some.inj h2).symm
theorem vx_runVW {y : MethodName} {bytes cc : ByteArray} {maxL nL mc ms n index : Nat} {ret : Option FieldType} {hh : List (Nat × Nat × Nat × Nat)} {ws : List Cond} {rm : Room} {Pc : Array Value → State → Prop} {Qc : Array Value → State → Outcome → State → Prop} {free : Addr → Prop} {Ts : List Cond} {own C : String} {b : Addr} {As rest : List Value} {g : JFrame}
    (S : CallFix p m c cc nL s args Ts own) (hM : Met l y ws rm Pc Qc mc ms free) (cw : vx_CVW R s args own C index y bytes maxL ret hh ws rm mc ms n) (hp : PreV s H C b Pc As)
    (hg : g.method = m) (hn : As.length = n) (hsize : g.locals.size = nL) (hstack : g.stack = As.reverse ++ .ref b :: rest) (hW : 2 * g.monitorRoom + (rest.map fun v => v.category).sum ≤ 8) (hdg : decode cc g.pc = .ok (.invokevirtual index, 3)) (hf : cells + mc ≤ R.cells ∧ slots + ms ≤ R.slots) :
    va_Run p l e R s m args below meth c H locs cells slots mc ms g rest (Qc (Value.ref b :: As).toArray) free := by
  obtain ⟨⟨hrc, hrs, hfr, hlo, hws, hcw⟩, hcode, hini, hy, hlen, hl, hin, hse⟩ := cw
  have hK : Back l R p e below s args y 3 8 (PreOf R mc ms Pc) (PostOf Qc mc ms free) := va_backW (hh := hh) (bytes := bytes) (maxL := maxL) (ret := ret) hM hp.1 hrc hrs hfr hlo hws hcw (fun a' U hW => word_at hW (Or.inl (by first | rfl | simp [Cond.onTables, Cond.keeps, Cond.steady])) hini)
  obtain ⟨hx, hb, hml, ho, -⟩ := S
  obtain ⟨-, ⟨cellB, hcB, hoB, hclB⟩, hPc⟩ := hp
  intro T hT X
  obtain ⟨v, vm₁, ⟨U', l2, c2, s2⟩, hW₁, X', ⟨g', mk, t, L, e1, e2, hq, h1, hL, h2, h3⟩, st⟩ := vx_callVW X hx (C := C) (hh := hh) (bytes := bytes) (maxL := maxL) (ret := ret) ho hl hin hse hcode hy hK (by rw [hT]; exact hcB) hoB hclB hg (hsize.trans hml.symm) (argsL := As) (rest := rest) (fun sig h => hn.trans (hlen sig h)) hstack hW (by rw [hb]; exact hdg)
    (fun vm₁ hW₁ => ⟨hf.1, hf.2, hPc (T.setVm vm₁) hT hW₁⟩)
  dsimp only [Pt.U, Pt.locs, Pt.cells, Pt.slots] at X' e1 e2 h1 h2 h3 st
  subst h1; subst h2; subst h3
  exact ⟨v, (T.setVm vm₁).calling g' mk (Value.ref b :: As).toArray, t, U', L, hT, X', hL, e1, e2, hq, st⟩
section
variable {y : MethodName} {bytes cc : ByteArray} {maxL nL mc ms n index : Nat} {ret : Option FieldType} {ws : List Cond} {rm : Room} {Pc : Array Value → State → Prop} {Qc : Array Value → State → Outcome → State → Prop} {XC : String → State → State → Prop} {free : Addr → Prop} {Ts : List Cond} {own C : String} {b : Addr} {As rest : List Value} {g : JFrame}
theorem vx_runVX {hh : List (Nat × Nat × Nat × Nat)} (S : CallFix p m c cc nL s args Ts own) (hM : vx_Met l y ws rm Pc Qc XC mc ms free) (cw : vx_CVW R s args own C index y bytes maxL ret hh ws rm mc ms n) (hp : PreV s H C b Pc As)
    (hg : g.method = m) (hn : As.length = n) (hsize : g.locals.size = nL) (hstack : g.stack = As.reverse ++ .ref b :: rest) (hW : 2 * g.monitorRoom + (rest.map fun v => v.category).sum ≤ 8) (hdg : decode cc g.pc = .ok (.invokevirtual index, 3)) (hf : cells + mc ≤ R.cells ∧ slots + ms ≤ R.slots) :
    vx_Run p l e R s m args below meth c H locs cells slots mc ms g rest (Qc (Value.ref b :: As).toArray) XC free := by
  obtain ⟨⟨hrc, hrs, hfr, hlo, hws, hcw⟩, hcode, hini, hy, hlen, hl, hin, hse⟩ := cw
  have hK : vx_Back l R p e below s args y 3 8 (PreOf R mc ms Pc) (PostOf Qc mc ms free) (vx_Post XC mc ms free) := vx_backW (hh := hh) (bytes := bytes) (maxL := maxL) (ret := ret) hM hp.1 hrc hrs hfr hlo hws hcw (fun a' U hW => word_at hW (Or.inl (by first | rfl | simp [Cond.onTables, Cond.keeps, Cond.steady])) hini)
  obtain ⟨hx, hb, hml, ho, -⟩ := S
  obtain ⟨-, ⟨cellB, hcB, hoB, hclB⟩, hPc⟩ := hp
  intro T hT X
  rcases vx_callVX X hx (C := C) (hh := hh) (bytes := bytes) (maxL := maxL) (ret := ret) ho hl hin hse hcode hy hK (by rw [hT]; exact hcB) hoB hclB hg (hsize.trans hml.symm) (argsL := As) (rest := rest) (fun sig h => hn.trans (hlen sig h)) hstack hW (by rw [hb]; exact hdg)
    (fun vm₁ hW₁ => ⟨hf.1, hf.2, hPc (T.setVm vm₁) hT hW₁⟩) with ⟨v, vm₁, ⟨U', l2, c2, s2⟩, hW₁, X', ⟨g', mk, t, L, e1, e2, hq, h1, hL, h2, h3⟩, st⟩ | ⟨q, vm₁, ⟨U', l2, c2, s2⟩, hW₁, X', ⟨g', mk, t, L, E, ce, e1, e2, hq, hce, hcv, hcl, h1, hL, h2, h3⟩, st⟩
  · dsimp only [Pt.U, Pt.locs, Pt.cells, Pt.slots] at X' e1 e2 h1 h2 h3 st
    subst h1; subst h2; subst h3
    exact Or.inl ⟨v, (T.setVm vm₁).calling g' mk (Value.ref b :: As).toArray, t, U', L, hT, X', hL, e1, e2, hq, st⟩
  · dsimp only [Pt.U, Pt.locs, Pt.cells, Pt.slots] at X' e1 e2 h1 h2 h3 st hcl
    subst h1; subst h2; subst h3
    exact Or.inr ⟨q, (T.setVm vm₁).calling g' mk (Value.ref b :: As).toArray, t, U', L, E, ce, hT, X', hL, e1, e2, hq, hce, hcv, vx_cls hW₁ hcl, st⟩
theorem vx_runSX {hh : List (Nat × Nat × Nat × Nat)} (S : CallFix p m c cc nL s args Ts own) (hM : vx_Met l y ws rm Pc Qc XC mc ms free) (cw : vx_CSW R s args own index y bytes maxL ret hh ws rm mc ms n) (hp : PreS s H Pc As)
    (hg : g.method = m) (hn : As.length = n) (hsize : g.locals.size = nL) (hstack : g.stack = As.reverse ++ rest) (hW : 2 * g.monitorRoom + (rest.map fun v => v.category).sum ≤ 8) (hdg : decode cc g.pc = .ok (.invokestatic index, 3)) (hf : cells + mc ≤ R.cells ∧ slots + ms ≤ R.slots) :
    vx_Run p l e R s m args below meth c H locs cells slots mc ms g rest (Qc As.toArray) XC free := by
  obtain ⟨⟨hrc, hrs, hfr, hlo, hws, hcw⟩, hcode, hini, hy, hlen, hl, hstt⟩ := cw
  have hK : vx_Back l R p e below s args y 3 8 (PreOf R mc ms Pc) (PostOf Qc mc ms free) (vx_Post XC mc ms free) := vx_backW (hh := hh) (bytes := bytes) (maxL := maxL) (ret := ret) hM hp.1 hrc hrs hfr hlo hws hcw (fun a' U hW => word_at hW (Or.inl (by first | rfl | simp [Cond.onTables, Cond.keeps, Cond.steady])) hini)
  obtain ⟨hx, hb, hml, ho, -⟩ := S
  intro T hT X
  rcases vx_callSX X hx (hh := hh) (bytes := bytes) (maxL := maxL) (ret := ret) ho hl hstt hini hcode hy hK hg (hsize.trans hml.symm) (argsL := As) (rest := rest) (fun sig h => hn.trans (hlen sig h)) hstack hW (by rw [hb]; exact hdg)
    (fun vm₁ hW₁ => ⟨hf.1, hf.2, hp.2 (T.setVm vm₁) hT hW₁⟩) with ⟨v, vm₁, ⟨U', l2, c2, s2⟩, hW₁, X', ⟨g', mk, t, L, e1, e2, hq, h1, hL, h2, h3⟩, st⟩ | ⟨q, vm₁, ⟨U', l2, c2, s2⟩, hW₁, X', ⟨g', mk, t, L, E, ce, e1, e2, hq, hce, hcv, hcl, h1, hL, h2, h3⟩, st⟩
  · dsimp only [Pt.U, Pt.locs, Pt.cells, Pt.slots] at X' e1 e2 h1 h2 h3 st
    subst h1; subst h2; subst h3
    exact Or.inl ⟨v, (T.setVm vm₁).calling g' mk As.toArray, t, U', L, hT, X', hL, e1, e2, hq, st⟩
  · dsimp only [Pt.U, Pt.locs, Pt.cells, Pt.slots] at X' e1 e2 h1 h2 h3 st hcl
    subst h1; subst h2; subst h3
    exact Or.inr ⟨q, (T.setVm vm₁).calling g' mk As.toArray, t, U', L, E, ce, hT, X', hL, e1, e2, hq, hce, hcv, vx_cls hW₁ hcl, st⟩
end
end VXH
theorem vx_ofWH {l : Launch} {y : MethodName} {ws ws' : List Cond} {rm : Room} {Pc : Array Value → State → Prop} {Qc : Array Value → State → Outcome → State → Prop} {XC : String → State → State → Prop} {mc ms : Nat} {free : Addr → Prop} {cc : ByteArray} {maxL : Nat} {ret : Option FieldType} {hh : List (Nat × Nat × Nat × Nat)}
    (hy : plainName y.cls = true) (hw : ws = Cond.codeWith y cc maxL ret hh :: ws')
    (body : ∀ p e s m args below meth c s₁, BodyLoose p l y (headSpec ws rm) cc maxL ret e s m args below meth c s₁ → c.maxLocals = maxL → Pc args s →
      W p l e (headSpec ws rm).room s m args below meth c s.heap [] 0 0 (vx_MQ below Qc XC args s mc ms free) (entryFrame m args maxL)) : vx_Met l y ws rm Pc Qc XC mc ms free := by
  refine MetFree.of_bodyS (code := cc) (maxLocals := maxL) (ret := ret) hy ?_ ?_
  · intro args s m h hn
    obtain ⟨m9, meth, c, hn9, h1, h2, h3, h4, -, h5, h6, -⟩ := Cond.codeWith_spec (atoms_spec (ws := ws) h _ (by rw [hw]; exact List.mem_cons_self))
    cases hn.symm.trans hn9
    exact ⟨meth, c, h1, h2, h3, h4, h5, h6⟩
  · intro p e s m args below meth c s₁ B hml hP _
    have hh0 : s₁.heap = s.heap := by rw [B.state]; rfl
    obtain ⟨t, a1, o, b1, b2, b3⟩ := body p e s m args below meth c s₁ B hml hP s₁ hh0 (Stand.of_body B)
    exact ⟨t, o, a1, b1, b2, b3⟩
/-! ===== END ===== -/

/-! ===== BEGIN printed: names, fields, word lists, decode rows ===== -/
def RX0 : String := "CairnIndex$Boxes"
def TX0 : u_T := fun k => match k with
  | 0 => ("CairnIndex$Boxes", "xs", "LCairnIndex$Row;", true)
  | 1 => ("CairnIndex$Boxes", "ys", "LCairnIndex$Row;", true)
  | 2 => ("CairnIndex$Boxes", "ws", "LCairnIndex$Row;", true)
  | _ => ("CairnIndex$Boxes", "hs", "LCairnIndex$Row;", true)
def tyX0 : Nat → FieldType := fun k => match k with
  | 0 => .object "CairnIndex$Row"
  | 1 => .object "CairnIndex$Row"
  | 2 => .object "CairnIndex$Row"
  | _ => .object "CairnIndex$Row"
abbrev wsX00 : List Cond := u_ws RX0 TX0 4
theorem nmX0 : ∀ a, a < 4 → ∀ b, b < 4 → a ≠ b → (TX0 a).2.1 ≠ (TX0 b).2.1 := by decide +kernel
theorem tyX0_ok : ∀ k, k < 4 → parseFieldDescriptor (TX0 k).2.2.1 = some (tyX0 k) := by decide +kernel
abbrev cX0_init : ByteArray := prog_2_method_1_code
def yX0_init : MethodName := ⟨RX0, "<init>", "(I)V"⟩
abbrev cX0_put : ByteArray := prog_2_method_2_code
def yX0_put : MethodName := ⟨RX0, "put", "(IIIII)V"⟩
abbrev cX0_twiceMiddleX : ByteArray := prog_2_method_3_code
def yX0_twiceMiddleX : MethodName := ⟨RX0, "twiceMiddleX", "(I)I"⟩
abbrev cX0_twiceMiddleY : ByteArray := prog_2_method_4_code
def yX0_twiceMiddleY : MethodName := ⟨RX0, "twiceMiddleY", "(I)I"⟩
abbrev cX0_farFrom : ByteArray := prog_2_method_5_code
def yX0_farFrom : MethodName := ⟨RX0, "farFrom", "(IIIII)I"⟩
abbrev cX0_farBetween : ByteArray := prog_2_method_6_code
def yX0_farBetween : MethodName := ⟨RX0, "farBetween", "(ILCairnIndex$Boxes;I)I"⟩
abbrev cX0_gap : ByteArray := prog_2_method_7_code
def yX0_gap : MethodName := ⟨RX0, "gap", "(IIII)I"⟩
abbrev cX0_stretchOver : ByteArray := prog_2_method_8_code
def yX0_stretchOver : MethodName := ⟨RX0, "stretchOver", "(ILCairnIndex$Boxes;I)V"⟩
def RX1 : String := "CairnIndex$Fence"
def TX1 : u_T := fun k => match k with
  | 0 => ("CairnIndex$Fence", "xs", "LCairnIndex$Row;", true)
  | 1 => ("CairnIndex$Fence", "ys", "LCairnIndex$Row;", true)
  | _ => ("CairnIndex$Fence", "corners", "I", false)
def tyX1 : Nat → FieldType := fun k => match k with
  | 0 => .object "CairnIndex$Row"
  | 1 => .object "CairnIndex$Row"
  | _ => .int
abbrev wsX10 : List Cond := u_ws RX1 TX1 3
theorem nmX1 : ∀ a, a < 3 → ∀ b, b < 3 → a ≠ b → (TX1 a).2.1 ≠ (TX1 b).2.1 := by decide +kernel
theorem tyX1_ok : ∀ k, k < 3 → parseFieldDescriptor (TX1 k).2.2.1 = some (tyX1 k) := by decide +kernel
abbrev cX1_init : ByteArray := prog_3_method_1_code
def yX1_init : MethodName := ⟨RX1, "<init>", "()V"⟩
abbrev cX1_next : ByteArray := prog_3_method_3_code
def yX1_next : MethodName := ⟨RX1, "next", "(I)I"⟩
abbrev cX1_twiceItsArea : ByteArray := prog_3_method_4_code
def yX1_twiceItsArea : MethodName := ⟨RX1, "twiceItsArea", "()I"⟩
def RX2 : String := "CairnIndex$Layer"
def TX2 : u_T := fun k => match k with
  | 0 => ("CairnIndex$Layer", "number", "I", true)
  | 1 => ("CairnIndex$Layer", "isPoints", "Z", true)
  | 2 => ("CairnIndex$Layer", "tree", "LCairnIndex$Tree;", true)
  | _ => ("CairnIndex$Layer", "size", "I", false)
def tyX2 : Nat → FieldType := fun k => match k with
  | 0 => .int
  | 1 => .boolean
  | 2 => .object "CairnIndex$Tree"
  | _ => .int
abbrev wsX20 : List Cond := u_ws RX2 TX2 4
theorem nmX2 : ∀ a, a < 4 → ∀ b, b < 4 → a ≠ b → (TX2 a).2.1 ≠ (TX2 b).2.1 := by decide +kernel
theorem tyX2_ok : ∀ k, k < 4 → parseFieldDescriptor (TX2 k).2.2.1 = some (tyX2 k) := by decide +kernel
abbrev cX2_init : ByteArray := prog_4_method_1_code
def yX2_init : MethodName := ⟨RX2, "<init>", "(IZ)V"⟩
abbrev cX2_regrow : ByteArray := prog_4_method_2_code
def yX2_regrow : MethodName := ⟨RX2, "regrow", "(LCairnIndex$Things;)V"⟩
abbrev cX2_letGo : ByteArray := prog_4_method_3_code
def yX2_letGo : MethodName := ⟨RX2, "letGo", "(I)V"⟩
abbrev cX2_isLoose : ByteArray := prog_4_method_4_code
def yX2_isLoose : MethodName := ⟨RX2, "isLoose", "(I)Z"⟩
def RX3 : String := "CairnIndex$Row"
def TX3 : u_T := fun k => match k with
  | _ => ("CairnIndex$Row", "cells", "[I", true)
def tyX3 : Nat → FieldType := fun k => match k with
  | _ => .array .int
abbrev wsX30 : List Cond := u_ws RX3 TX3 1
theorem nmX3 : ∀ a, a < 1 → ∀ b, b < 1 → a ≠ b → (TX3 a).2.1 ≠ (TX3 b).2.1 := by decide +kernel
theorem tyX3_ok : ∀ k, k < 1 → parseFieldDescriptor (TX3 k).2.2.1 = some (tyX3 k) := by decide +kernel
abbrev cX3_init : ByteArray := prog_5_method_1_code
def yX3_init : MethodName := ⟨RX3, "<init>", "(I)V"⟩
abbrev cX3_at : ByteArray := prog_5_method_2_code
def yX3_at : MethodName := ⟨RX3, "at", "(I)I"⟩
abbrev cX3_put : ByteArray := prog_5_method_3_code
def yX3_put : MethodName := ⟨RX3, "put", "(II)V"⟩
abbrev cX3_addTo : ByteArray := prog_5_method_4_code
def yX3_addTo : MethodName := ⟨RX3, "addTo", "(II)V"⟩
abbrev cX3_fill : ByteArray := prog_5_method_5_code
def yX3_fill : MethodName := ⟨RX3, "fill", "(I)V"⟩
abbrev cX3_sortPart : ByteArray := prog_5_method_6_code
def yX3_sortPart : MethodName := ⟨RX3, "sortPart", "(II)V"⟩
def RX4 : String := "CairnIndex$Things"
def TX4 : u_T := fun k => match k with
  | 0 => ("CairnIndex$Things", "boxes", "LCairnIndex$Boxes;", true)
  | 1 => ("CairnIndex$Things", "layerOf", "LCairnIndex$Row;", true)
  | 2 => ("CairnIndex$Things", "tags", "LCairnIndex$Row;", true)
  | 3 => ("CairnIndex$Things", "keys", "LCairnIndex$Row;", true)
  | 4 => ("CairnIndex$Things", "clusterOf", "LCairnIndex$Row;", true)
  | _ => ("CairnIndex$Things", "count", "I", false)
def tyX4 : Nat → FieldType := fun k => match k with
  | 0 => .object "CairnIndex$Boxes"
  | 1 => .object "CairnIndex$Row"
  | 2 => .object "CairnIndex$Row"
  | 3 => .object "CairnIndex$Row"
  | 4 => .object "CairnIndex$Row"
  | _ => .int
abbrev wsX40 : List Cond := u_ws RX4 TX4 6
theorem nmX4 : ∀ a, a < 6 → ∀ b, b < 6 → a ≠ b → (TX4 a).2.1 ≠ (TX4 b).2.1 := by decide +kernel
theorem tyX4_ok : ∀ k, k < 6 → parseFieldDescriptor (TX4 k).2.2.1 = some (tyX4 k) := by decide +kernel
abbrev cX4_init : ByteArray := prog_6_method_1_code
def yX4_init : MethodName := ⟨RX4, "<init>", "()V"⟩
abbrev cX4_add : ByteArray := prog_6_method_2_code
def yX4_add : MethodName := ⟨RX4, "add", "(II)I"⟩
abbrev cX4_isIn : ByteArray := prog_6_method_3_code
def yX4_isIn : MethodName := ⟨RX4, "isIn", "(II)Z"⟩
abbrev cX4_countIn : ByteArray := prog_6_method_4_code
def yX4_countIn : MethodName := ⟨RX4, "countIn", "(I)I"⟩
abbrev cX4_countMeeting : ByteArray := prog_6_method_5_code
def yX4_countMeeting : MethodName := ⟨RX4, "countMeeting", "(IIIII)I"⟩
abbrev cX4_sortByFar : ByteArray := prog_6_method_6_code
def yX4_sortByFar : MethodName := ⟨RX4, "sortByFar", "(III)I"⟩
abbrev cX4_countPairs : ByteArray := prog_6_method_7_code
def yX4_countPairs : MethodName := ⟨RX4, "countPairs", "(III)I"⟩
abbrev cX4_countNear : ByteArray := prog_6_method_8_code
def yX4_countNear : MethodName := ⟨RX4, "countNear", "(IIII)I"⟩
abbrev cX4_gatherClusters : ByteArray := prog_6_method_9_code
def yX4_gatherClusters : MethodName := ⟨RX4, "gatherClusters", "(II)V"⟩
abbrev cX4_joinClusters : ByteArray := prog_6_method_10_code
def yX4_joinClusters : MethodName := ⟨RX4, "joinClusters", "(II)V"⟩
abbrev cX4_countClusters : ByteArray := prog_6_method_11_code
def yX4_countClusters : MethodName := ⟨RX4, "countClusters", "(I)I"⟩
abbrev cX4_greatestCluster : ByteArray := prog_6_method_12_code
def yX4_greatestCluster : MethodName := ⟨RX4, "greatestCluster", "(I)I"⟩
def RX5 : String := "CairnIndex$Tree"
def TX5 : u_T := fun k => match k with
  | 0 => ("CairnIndex$Tree", "boxes", "LCairnIndex$Boxes;", true)
  | 1 => ("CairnIndex$Tree", "levelOf", "LCairnIndex$Row;", true)
  | 2 => ("CairnIndex$Tree", "held", "LCairnIndex$Row;", true)
  | 3 => ("CairnIndex$Tree", "belowFrom", "LCairnIndex$Row;", true)
  | 4 => ("CairnIndex$Tree", "belowCount", "LCairnIndex$Row;", true)
  | 5 => ("CairnIndex$Tree", "below", "LCairnIndex$Row;", true)
  | 6 => ("CairnIndex$Tree", "homeOf", "LCairnIndex$Row;", true)
  | 7 => ("CairnIndex$Tree", "keys", "LCairnIndex$Row;", true)
  | 8 => ("CairnIndex$Tree", "nodeCount", "I", false)
  | _ => ("CairnIndex$Tree", "root", "I", false)
def tyX5 : Nat → FieldType := fun k => match k with
  | 0 => .object "CairnIndex$Boxes"
  | 1 => .object "CairnIndex$Row"
  | 2 => .object "CairnIndex$Row"
  | 3 => .object "CairnIndex$Row"
  | 4 => .object "CairnIndex$Row"
  | 5 => .object "CairnIndex$Row"
  | 6 => .object "CairnIndex$Row"
  | 7 => .object "CairnIndex$Row"
  | 8 => .int
  | _ => .int
abbrev wsX50 : List Cond := u_ws RX5 TX5 10
theorem nmX5 : ∀ a, a < 10 → ∀ b, b < 10 → a ≠ b → (TX5 a).2.1 ≠ (TX5 b).2.1 := by decide +kernel
theorem tyX5_ok : ∀ k, k < 10 → parseFieldDescriptor (TX5 k).2.2.1 = some (tyX5 k) := by decide +kernel
abbrev cX5_init : ByteArray := prog_7_method_1_code
def yX5_init : MethodName := ⟨RX5, "<init>", "()V"⟩
abbrev cX5_isLeaf : ByteArray := prog_7_method_2_code
def yX5_isLeaf : MethodName := ⟨RX5, "isLeaf", "(I)Z"⟩
abbrev cX5_belowAt : ByteArray := prog_7_method_3_code
def yX5_belowAt : MethodName := ⟨RX5, "belowAt", "(II)I"⟩
abbrev cX5_countLevels : ByteArray := prog_7_method_4_code
def yX5_countLevels : MethodName := ⟨RX5, "countLevels", "()I"⟩
abbrev cX5_firstOnLevel : ByteArray := prog_7_method_5_code
def yX5_firstOnLevel : MethodName := ⟨RX5, "firstOnLevel", "(I)I"⟩
abbrev cX5_countOnLevel : ByteArray := prog_7_method_6_code
def yX5_countOnLevel : MethodName := ⟨RX5, "countOnLevel", "(I)I"⟩
abbrev cX5_countVisited : ByteArray := prog_7_method_7_code
def yX5_countVisited : MethodName := ⟨RX5, "countVisited", "(IIIII)I"⟩
abbrev cX5_leafAt : ByteArray := prog_7_method_8_code
def yX5_leafAt : MethodName := ⟨RX5, "leafAt", "(II)I"⟩
abbrev cX5_quarterOf : ByteArray := prog_7_method_9_code
def yX5_quarterOf : MethodName := ⟨RX5, "quarterOf", "(III)I"⟩
abbrev cX5_halfSide : ByteArray := prog_7_method_10_code
def yX5_halfSide : MethodName := ⟨RX5, "halfSide", "(I)I"⟩
abbrev cX5_fell : ByteArray := prog_7_method_11_code
def yX5_fell : MethodName := ⟨RX5, "fell", "()V"⟩
abbrev cX5_addNode : ByteArray := prog_7_method_12_code
def yX5_addNode : MethodName := ⟨RX5, "addNode", "(I)I"⟩
abbrev cX5_settle : ByteArray := prog_7_method_13_code
def yX5_settle : MethodName := ⟨RX5, "settle", "(II)V"⟩
abbrev cX5_growQuarters : ByteArray := prog_7_method_14_code
def yX5_growQuarters : MethodName := ⟨RX5, "growQuarters", "(LCairnIndex$Things;II)V"⟩
abbrev cX5_split : ByteArray := prog_7_method_15_code
def yX5_split : MethodName := ⟨RX5, "split", "(ILCairnIndex$Things;)V"⟩
abbrev cX5_growPacked : ByteArray := prog_7_method_16_code
def yX5_growPacked : MethodName := ⟨RX5, "growPacked", "(LCairnIndex$Things;II)V"⟩
abbrev cX5_orderToPack : ByteArray := prog_7_method_17_code
def yX5_orderToPack : MethodName := ⟨RX5, "orderToPack", "(LCairnIndex$Boxes;II)V"⟩
abbrev cX5_sliceLength : ByteArray := prog_7_method_18_code
def yX5_sliceLength : MethodName := ⟨RX5, "sliceLength", "(II)I"⟩
abbrev cX5_cutLeaves : ByteArray := prog_7_method_19_code
def yX5_cutLeaves : MethodName := ⟨RX5, "cutLeaves", "(LCairnIndex$Boxes;II)V"⟩
abbrev cX5_cutNodes : ByteArray := prog_7_method_20_code
def yX5_cutNodes : MethodName := ⟨RX5, "cutNodes", "(IIII)V"⟩
abbrev cX5_copyBox : ByteArray := prog_7_method_21_code
def yX5_copyBox : MethodName := ⟨RX5, "copyBox", "(ILCairnIndex$Boxes;I)V"⟩
def RX6 : String := "CairnIndex"
def TX6 : u_T := fun k => match k with
  | 0 => ("CairnIndex", "things", "LCairnIndex$Things;", true)
  | 1 => ("CairnIndex", "layers", "[LCairnIndex$Layer;", true)
  | 2 => ("CairnIndex", "fence", "LCairnIndex$Fence;", true)
  | 3 => ("CairnIndex", "planned", "LCairnIndex$Tree;", true)
  | _ => ("CairnIndex", "layerCount", "I", false)
def tyX6 : Nat → FieldType := fun k => match k with
  | 0 => .object "CairnIndex$Things"
  | 1 => .array (.object "CairnIndex$Layer")
  | 2 => .object "CairnIndex$Fence"
  | 3 => .object "CairnIndex$Tree"
  | _ => .int
abbrev wsX60 : List Cond := u_ws RX6 TX6 5
theorem nmX6 : ∀ a, a < 5 → ∀ b, b < 5 → a ≠ b → (TX6 a).2.1 ≠ (TX6 b).2.1 := by decide +kernel
theorem tyX6_ok : ∀ k, k < 5 → parseFieldDescriptor (TX6 k).2.2.1 = some (tyX6 k) := by decide +kernel
abbrev cX6_init : ByteArray := prog_1_method_1_code
def yX6_init : MethodName := ⟨RX6, "<init>", "()V"⟩
abbrev cX6_addLayer : ByteArray := prog_1_method_2_code
def yX6_addLayer : MethodName := ⟨RX6, "addLayer", "(Z)I"⟩
abbrev cX6_setSize : ByteArray := prog_1_method_3_code
def yX6_setSize : MethodName := ⟨RX6, "setSize", "(II)I"⟩
abbrev cX6_addPoint : ByteArray := prog_1_method_4_code
def yX6_addPoint : MethodName := ⟨RX6, "addPoint", "(IIII)I"⟩
abbrev cX6_addBox : ByteArray := prog_1_method_5_code
def yX6_addBox : MethodName := ⟨RX6, "addBox", "(IIIIII)I"⟩
abbrev cX6_move : ByteArray := prog_1_method_7_code
def yX6_move : MethodName := ⟨RX6, "move", "(III)I"⟩
abbrev cX6_remove : ByteArray := prog_1_method_8_code
def yX6_remove : MethodName := ⟨RX6, "remove", "(I)I"⟩
abbrev cX6_pack : ByteArray := prog_1_method_9_code
def yX6_pack : MethodName := ⟨RX6, "pack", "(I)I"⟩
abbrev cX6_things : ByteArray := prog_1_method_10_code
def yX6_things : MethodName := ⟨RX6, "things", "()I"⟩
abbrev cX6_size : ByteArray := prog_1_method_11_code
def yX6_size : MethodName := ⟨RX6, "size", "(I)I"⟩
abbrev cX6_of : ByteArray := prog_1_method_12_code
def yX6_of : MethodName := ⟨RX6, "of", "(II)I"⟩
abbrev cX6_nodes : ByteArray := prog_1_method_13_code
def yX6_nodes : MethodName := ⟨RX6, "nodes", "(I)I"⟩
abbrev cX6_depth : ByteArray := prog_1_method_14_code
def yX6_depth : MethodName := ⟨RX6, "depth", "(I)I"⟩
abbrev cX6_leaf : ByteArray := prog_1_method_15_code
def yX6_leaf : MethodName := ⟨RX6, "leaf", "(IIII)I"⟩
abbrev cX6_level : ByteArray := prog_1_method_16_code
def yX6_level : MethodName := ⟨RX6, "level", "(II)I"⟩
abbrev cX6_node : ByteArray := prog_1_method_17_code
def yX6_node : MethodName := ⟨RX6, "node", "(IIII)I"⟩
abbrev cX6_inBox : ByteArray := prog_1_method_18_code
def yX6_inBox : MethodName := ⟨RX6, "inBox", "(IIIII)I"⟩
abbrev cX6_visited : ByteArray := prog_1_method_19_code
def yX6_visited : MethodName := ⟨RX6, "visited", "(IIIII)I"⟩
abbrev cX6_nearest : ByteArray := prog_1_method_20_code
def yX6_nearest : MethodName := ⟨RX6, "nearest", "(IIII)I"⟩
abbrev cX6_far : ByteArray := prog_1_method_21_code
def yX6_far : MethodName := ⟨RX6, "far", "(IIII)I"⟩
abbrev cX6_visitedFor : ByteArray := prog_1_method_22_code
def yX6_visitedFor : MethodName := ⟨RX6, "visitedFor", "(IIII)I"⟩
abbrev cX6_pairs : ByteArray := prog_1_method_23_code
def yX6_pairs : MethodName := ⟨RX6, "pairs", "(III)I"⟩
abbrev cX6_visitedPairs : ByteArray := prog_1_method_24_code
def yX6_visitedPairs : MethodName := ⟨RX6, "visitedPairs", "(III)I"⟩
abbrev cX6_clusters : ByteArray := prog_1_method_25_code
def yX6_clusters : MethodName := ⟨RX6, "clusters", "(II)I"⟩
abbrev cX6_greatest : ByteArray := prog_1_method_26_code
def yX6_greatest : MethodName := ⟨RX6, "greatest", "(II)I"⟩
abbrev cX6_area : ByteArray := prog_1_method_30_code
def yX6_area : MethodName := ⟨RX6, "area", "()I"⟩
abbrev cX6_nodesWith : ByteArray := prog_1_method_32_code
def yX6_nodesWith : MethodName := ⟨RX6, "nodesWith", "(II)I"⟩
abbrev cX6_digest : ByteArray := prog_1_method_34_code
def yX6_digest : MethodName := ⟨RX6, "digest", "()J"⟩
abbrev cX6_layerAt : ByteArray := prog_1_method_35_code
def yX6_layerAt : MethodName := ⟨RX6, "layerAt", "(I)LCairnIndex$Layer;"⟩
abbrev cX6_layerOfThing : ByteArray := prog_1_method_36_code
def yX6_layerOfThing : MethodName := ⟨RX6, "layerOfThing", "(I)LCairnIndex$Layer;"⟩
abbrev cX6_checkIsOfPoints : ByteArray := prog_1_method_37_code
def yX6_checkIsOfPoints : MethodName := ⟨RX6, "checkIsOfPoints", "(LCairnIndex$Layer;)V"⟩
abbrev cX6_checkIsOfBoxes : ByteArray := prog_1_method_38_code
def yX6_checkIsOfBoxes : MethodName := ⟨RX6, "checkIsOfBoxes", "(LCairnIndex$Layer;)V"⟩
abbrev cX6_checkWithinMap : ByteArray := prog_1_method_39_code
def yX6_checkWithinMap : MethodName := ⟨RX6, "checkWithinMap", "(II)V"⟩
abbrev cX6_checkSize : ByteArray := prog_1_method_40_code
def yX6_checkSize : MethodName := ⟨RX6, "checkSize", "(LCairnIndex$Layer;I)V"⟩
abbrev cX6_checkFar : ByteArray := prog_1_method_41_code
def yX6_checkFar : MethodName := ⟨RX6, "checkFar", "(I)V"⟩
abbrev cX6_checkRoomFor : ByteArray := prog_1_method_42_code
def yX6_checkRoomFor : MethodName := ⟨RX6, "checkRoomFor", "(I)V"⟩
abbrev cX6_keyOfNearest : ByteArray := prog_1_method_43_code
def yX6_keyOfNearest : MethodName := ⟨RX6, "keyOfNearest", "(IIII)I"⟩
abbrev cX6_countVisitedPairs : ByteArray := prog_1_method_45_code
def yX6_countVisitedPairs : MethodName := ⟨RX6, "countVisitedPairs", "(LCairnIndex$Tree;ILCairnIndex$Tree;III)I"⟩
def RX7 : String := "CairnIndexModel$Box"
def TX7 : u_T := fun k => match k with
  | _ => ("", "", "", false)
def tyX7 : Nat → FieldType := fun k => match k with
  | _ => .int
abbrev wsX70 : List Cond := u_ws RX7 TX7 0
theorem nmX7 : ∀ a, a < 0 → ∀ b, b < 0 → a ≠ b → (TX7 a).2.1 ≠ (TX7 b).2.1 := by decide +kernel
theorem tyX7_ok : ∀ k, k < 0 → parseFieldDescriptor (TX7 k).2.2.1 = some (tyX7 k) := by decide +kernel
def RX8 : String := "CairnIndexModel$Layer"
def TX8 : u_T := fun k => match k with
  | _ => ("", "", "", false)
def tyX8 : Nat → FieldType := fun k => match k with
  | _ => .int
abbrev wsX80 : List Cond := u_ws RX8 TX8 0
theorem nmX8 : ∀ a, a < 0 → ∀ b, b < 0 → a ≠ b → (TX8 a).2.1 ≠ (TX8 b).2.1 := by decide +kernel
theorem tyX8_ok : ∀ k, k < 0 → parseFieldDescriptor (TX8 k).2.2.1 = some (tyX8 k) := by decide +kernel
def RX9 : String := "CairnIndexModel$Node"
def TX9 : u_T := fun k => match k with
  | _ => ("", "", "", false)
def tyX9 : Nat → FieldType := fun k => match k with
  | _ => .int
abbrev wsX90 : List Cond := u_ws RX9 TX9 0
theorem nmX9 : ∀ a, a < 0 → ∀ b, b < 0 → a ≠ b → (TX9 a).2.1 ≠ (TX9 b).2.1 := by decide +kernel
theorem tyX9_ok : ∀ k, k < 0 → parseFieldDescriptor (TX9 k).2.2.1 = some (tyX9 k) := by decide +kernel
def RX10 : String := "CairnIndexModel$Thing"
def TX10 : u_T := fun k => match k with
  | _ => ("", "", "", false)
def tyX10 : Nat → FieldType := fun k => match k with
  | _ => .int
abbrev wsX100 : List Cond := u_ws RX10 TX10 0
theorem nmX10 : ∀ a, a < 0 → ∀ b, b < 0 → a ≠ b → (TX10 a).2.1 ≠ (TX10 b).2.1 := by decide +kernel
theorem tyX10_ok : ∀ k, k < 0 → parseFieldDescriptor (TX10 k).2.2.1 = some (tyX10 k) := by decide +kernel
def RX11 : String := "CairnIndexModel"
def TX11 : u_T := fun k => match k with
  | _ => ("", "", "", false)
def tyX11 : Nat → FieldType := fun k => match k with
  | _ => .int
abbrev wsX110 : List Cond := u_ws RX11 TX11 0
theorem nmX11 : ∀ a, a < 0 → ∀ b, b < 0 → a ≠ b → (TX11 a).2.1 ≠ (TX11 b).2.1 := by decide +kernel
theorem tyX11_ok : ∀ k, k < 0 → parseFieldDescriptor (TX11 k).2.2.1 = some (tyX11 k) := by decide +kernel
def RJx145de : String := "java/io/Serializable"
def TJx145de : u_T := fun k => match k with
  | _ => ("", "", "", false)
def tyJx145de : Nat → FieldType := fun k => match k with
  | _ => .int
abbrev wsJx145de0 : List Cond := u_ws RJx145de TJx145de 0
theorem nmJx145de : ∀ a, a < 0 → ∀ b, b < 0 → a ≠ b → (TJx145de a).2.1 ≠ (TJx145de b).2.1 := by decide +kernel
theorem tyJx145de_ok : ∀ k, k < 0 → parseFieldDescriptor (TJx145de k).2.2.1 = some (tyJx145de k) := by decide +kernel
def RJ9 : String := "java/lang/Math"
def TJ9 : u_T := fun k => match k with
  | _ => ("", "", "", false)
def tyJ9 : Nat → FieldType := fun k => match k with
  | _ => .int
abbrev wsJ90 : List Cond := u_ws RJ9 TJ9 0
theorem nmJ9 : ∀ a, a < 0 → ∀ b, b < 0 → a ≠ b → (TJ9 a).2.1 ≠ (TJ9 b).2.1 := by decide +kernel
theorem tyJ9_ok : ∀ k, k < 0 → parseFieldDescriptor (TJ9 k).2.2.1 = some (tyJ9 k) := by decide +kernel
abbrev cJ9_abs_0f7a4 : ByteArray := prog_18_method_59_code
def yJ9_abs_0f7a4 : MethodName := ⟨RJ9, "abs", "(I)I"⟩
abbrev cJ9_max_7cf53 : ByteArray := prog_18_method_65_code
def yJ9_max_7cf53 : MethodName := ⟨RJ9, "max", "(II)I"⟩
abbrev cJ9_min_7cf53 : ByteArray := prog_18_method_69_code
def yJ9_min_7cf53 : MethodName := ⟨RJ9, "min", "(II)I"⟩
def RJ0 : String := "java/lang/String"
def TJ0 : u_T := fun k => match k with
  | _ => ("", "", "", false)
def tyJ0 : Nat → FieldType := fun k => match k with
  | _ => .int
abbrev wsJ00 : List Cond := u_ws RJ0 TJ0 0
theorem nmJ0 : ∀ a, a < 0 → ∀ b, b < 0 → a ≠ b → (TJ0 a).2.1 ≠ (TJ0 b).2.1 := by decide +kernel
theorem tyJ0_ok : ∀ k, k < 0 → parseFieldDescriptor (TJ0 k).2.2.1 = some (tyJ0 k) := by decide +kernel
def RL : String := "CairnIndexLaw"
abbrev cL_below : ByteArray := method_2_code
def yL_below : MethodName := ⟨RL, "below", "(II)I"⟩
abbrev cL_cell : ByteArray := method_3_code
def yL_cell : MethodName := ⟨RL, "cell", "([II)I"⟩
abbrev cL_law : ByteArray := code
def yL_law : MethodName := ⟨RL, "law", "([I)Z"⟩
abbrev cL_isGone : ByteArray := method_5_code
def yL_isGone : MethodName := ⟨RL, "isGone", "(LCairnIndex;I)Z"⟩
end
section
theorem dX0_init_0 : decode cX0_init 0 = .ok (.aload_n 0, 1) := by decide +kernel
theorem dX0_init_1 : decode cX0_init 1 = .ok (.invokespecial 1, 3) := by decide +kernel
theorem dX0_init_4 : decode cX0_init 4 = .ok (.aload_n 0, 1) := by decide +kernel
theorem dX0_init_5 : decode cX0_init 5 = .ok (.new 7, 3) := by decide +kernel
theorem dX0_init_8 : decode cX0_init 8 = .ok (.dup, 1) := by decide +kernel
theorem dX0_init_9 : decode cX0_init 9 = .ok (.iload_n 1, 1) := by decide +kernel
theorem dX0_init_10 : decode cX0_init 10 = .ok (.invokespecial 9, 3) := by decide +kernel
theorem dX0_init_13 : decode cX0_init 13 = .ok (.putfield 12, 3) := by decide +kernel
theorem dX0_init_16 : decode cX0_init 16 = .ok (.aload_n 0, 1) := by decide +kernel
theorem dX0_init_17 : decode cX0_init 17 = .ok (.new 7, 3) := by decide +kernel
theorem dX0_init_20 : decode cX0_init 20 = .ok (.dup, 1) := by decide +kernel
theorem dX0_init_21 : decode cX0_init 21 = .ok (.iload_n 1, 1) := by decide +kernel
theorem dX0_init_22 : decode cX0_init 22 = .ok (.invokespecial 9, 3) := by decide +kernel
theorem dX0_init_25 : decode cX0_init 25 = .ok (.putfield 18, 3) := by decide +kernel
theorem dX0_init_28 : decode cX0_init 28 = .ok (.aload_n 0, 1) := by decide +kernel
theorem dX0_init_29 : decode cX0_init 29 = .ok (.new 7, 3) := by decide +kernel
theorem dX0_init_32 : decode cX0_init 32 = .ok (.dup, 1) := by decide +kernel
theorem dX0_init_33 : decode cX0_init 33 = .ok (.iload_n 1, 1) := by decide +kernel
theorem dX0_init_34 : decode cX0_init 34 = .ok (.invokespecial 9, 3) := by decide +kernel
theorem dX0_init_37 : decode cX0_init 37 = .ok (.putfield 21, 3) := by decide +kernel
theorem dX0_init_40 : decode cX0_init 40 = .ok (.aload_n 0, 1) := by decide +kernel
theorem dX0_init_41 : decode cX0_init 41 = .ok (.new 7, 3) := by decide +kernel
theorem dX0_init_44 : decode cX0_init 44 = .ok (.dup, 1) := by decide +kernel
theorem dX0_init_45 : decode cX0_init 45 = .ok (.iload_n 1, 1) := by decide +kernel
theorem dX0_init_46 : decode cX0_init 46 = .ok (.invokespecial 9, 3) := by decide +kernel
theorem dX0_init_49 : decode cX0_init 49 = .ok (.putfield 24, 3) := by decide +kernel
theorem dX0_init_52 : decode cX0_init 52 = .ok (.return_, 1) := by decide +kernel
theorem dX0_put_0 : decode cX0_put 0 = .ok (.aload_n 0, 1) := by decide +kernel
theorem dX0_put_1 : decode cX0_put 1 = .ok (.getfield 12, 3) := by decide +kernel
theorem dX0_put_4 : decode cX0_put 4 = .ok (.iload_n 1, 1) := by decide +kernel
theorem dX0_put_5 : decode cX0_put 5 = .ok (.iload_n 2, 1) := by decide +kernel
theorem dX0_put_6 : decode cX0_put 6 = .ok (.invokevirtual 27, 3) := by decide +kernel
theorem dX0_put_9 : decode cX0_put 9 = .ok (.aload_n 0, 1) := by decide +kernel
theorem dX0_put_10 : decode cX0_put 10 = .ok (.getfield 18, 3) := by decide +kernel
theorem dX0_put_13 : decode cX0_put 13 = .ok (.iload_n 1, 1) := by decide +kernel
theorem dX0_put_14 : decode cX0_put 14 = .ok (.iload_n 3, 1) := by decide +kernel
theorem dX0_put_15 : decode cX0_put 15 = .ok (.invokevirtual 27, 3) := by decide +kernel
theorem dX0_put_18 : decode cX0_put 18 = .ok (.aload_n 0, 1) := by decide +kernel
theorem dX0_put_19 : decode cX0_put 19 = .ok (.getfield 21, 3) := by decide +kernel
theorem dX0_put_22 : decode cX0_put 22 = .ok (.iload_n 1, 1) := by decide +kernel
theorem dX0_put_23 : decode cX0_put 23 = .ok (.iload 4, 2) := by decide +kernel
theorem dX0_put_25 : decode cX0_put 25 = .ok (.invokevirtual 27, 3) := by decide +kernel
theorem dX0_put_28 : decode cX0_put 28 = .ok (.aload_n 0, 1) := by decide +kernel
theorem dX0_put_29 : decode cX0_put 29 = .ok (.getfield 24, 3) := by decide +kernel
theorem dX0_put_32 : decode cX0_put 32 = .ok (.iload_n 1, 1) := by decide +kernel
theorem dX0_put_33 : decode cX0_put 33 = .ok (.iload 5, 2) := by decide +kernel
theorem dX0_put_35 : decode cX0_put 35 = .ok (.invokevirtual 27, 3) := by decide +kernel
theorem dX0_put_38 : decode cX0_put 38 = .ok (.return_, 1) := by decide +kernel
theorem dX0_twiceMiddleX_0 : decode cX0_twiceMiddleX 0 = .ok (.iconst 2, 1) := by decide +kernel
theorem dX0_twiceMiddleX_1 : decode cX0_twiceMiddleX 1 = .ok (.aload_n 0, 1) := by decide +kernel
theorem dX0_twiceMiddleX_2 : decode cX0_twiceMiddleX 2 = .ok (.getfield 12, 3) := by decide +kernel
theorem dX0_twiceMiddleX_5 : decode cX0_twiceMiddleX 5 = .ok (.iload_n 1, 1) := by decide +kernel
theorem dX0_twiceMiddleX_6 : decode cX0_twiceMiddleX 6 = .ok (.invokevirtual 31, 3) := by decide +kernel
theorem dX0_twiceMiddleX_9 : decode cX0_twiceMiddleX 9 = .ok (.imul, 1) := by decide +kernel
theorem dX0_twiceMiddleX_10 : decode cX0_twiceMiddleX 10 = .ok (.aload_n 0, 1) := by decide +kernel
theorem dX0_twiceMiddleX_11 : decode cX0_twiceMiddleX 11 = .ok (.getfield 21, 3) := by decide +kernel
theorem dX0_twiceMiddleX_14 : decode cX0_twiceMiddleX 14 = .ok (.iload_n 1, 1) := by decide +kernel
theorem dX0_twiceMiddleX_15 : decode cX0_twiceMiddleX 15 = .ok (.invokevirtual 31, 3) := by decide +kernel
theorem dX0_twiceMiddleX_18 : decode cX0_twiceMiddleX 18 = .ok (.iadd, 1) := by decide +kernel
theorem dX0_twiceMiddleX_19 : decode cX0_twiceMiddleX 19 = .ok (.ireturn, 1) := by decide +kernel
theorem dX0_twiceMiddleY_0 : decode cX0_twiceMiddleY 0 = .ok (.iconst 2, 1) := by decide +kernel
theorem dX0_twiceMiddleY_1 : decode cX0_twiceMiddleY 1 = .ok (.aload_n 0, 1) := by decide +kernel
theorem dX0_twiceMiddleY_2 : decode cX0_twiceMiddleY 2 = .ok (.getfield 18, 3) := by decide +kernel
theorem dX0_twiceMiddleY_5 : decode cX0_twiceMiddleY 5 = .ok (.iload_n 1, 1) := by decide +kernel
theorem dX0_twiceMiddleY_6 : decode cX0_twiceMiddleY 6 = .ok (.invokevirtual 31, 3) := by decide +kernel
theorem dX0_twiceMiddleY_9 : decode cX0_twiceMiddleY 9 = .ok (.imul, 1) := by decide +kernel
theorem dX0_twiceMiddleY_10 : decode cX0_twiceMiddleY 10 = .ok (.aload_n 0, 1) := by decide +kernel
theorem dX0_twiceMiddleY_11 : decode cX0_twiceMiddleY 11 = .ok (.getfield 24, 3) := by decide +kernel
theorem dX0_twiceMiddleY_14 : decode cX0_twiceMiddleY 14 = .ok (.iload_n 1, 1) := by decide +kernel
theorem dX0_twiceMiddleY_15 : decode cX0_twiceMiddleY 15 = .ok (.invokevirtual 31, 3) := by decide +kernel
theorem dX0_twiceMiddleY_18 : decode cX0_twiceMiddleY 18 = .ok (.iadd, 1) := by decide +kernel
theorem dX0_twiceMiddleY_19 : decode cX0_twiceMiddleY 19 = .ok (.ireturn, 1) := by decide +kernel
theorem dX0_farFrom_0 : decode cX0_farFrom 0 = .ok (.aload_n 0, 1) := by decide +kernel
theorem dX0_farFrom_1 : decode cX0_farFrom 1 = .ok (.getfield 12, 3) := by decide +kernel
theorem dX0_farFrom_4 : decode cX0_farFrom 4 = .ok (.iload_n 1, 1) := by decide +kernel
theorem dX0_farFrom_5 : decode cX0_farFrom 5 = .ok (.invokevirtual 31, 3) := by decide +kernel
theorem dX0_farFrom_8 : decode cX0_farFrom 8 = .ok (.aload_n 0, 1) := by decide +kernel
theorem dX0_farFrom_9 : decode cX0_farFrom 9 = .ok (.getfield 21, 3) := by decide +kernel
theorem dX0_farFrom_12 : decode cX0_farFrom 12 = .ok (.iload_n 1, 1) := by decide +kernel
theorem dX0_farFrom_13 : decode cX0_farFrom 13 = .ok (.invokevirtual 31, 3) := by decide +kernel
theorem dX0_farFrom_16 : decode cX0_farFrom 16 = .ok (.iload_n 2, 1) := by decide +kernel
theorem dX0_farFrom_17 : decode cX0_farFrom 17 = .ok (.iload 4, 2) := by decide +kernel
theorem dX0_farFrom_19 : decode cX0_farFrom 19 = .ok (.invokestatic 35, 3) := by decide +kernel
theorem dX0_farFrom_22 : decode cX0_farFrom 22 = .ok (.istore 6, 2) := by decide +kernel
theorem dX0_farFrom_24 : decode cX0_farFrom 24 = .ok (.aload_n 0, 1) := by decide +kernel
theorem dX0_farFrom_25 : decode cX0_farFrom 25 = .ok (.getfield 18, 3) := by decide +kernel
theorem dX0_farFrom_28 : decode cX0_farFrom 28 = .ok (.iload_n 1, 1) := by decide +kernel
theorem dX0_farFrom_29 : decode cX0_farFrom 29 = .ok (.invokevirtual 31, 3) := by decide +kernel
theorem dX0_farFrom_32 : decode cX0_farFrom 32 = .ok (.aload_n 0, 1) := by decide +kernel
theorem dX0_farFrom_33 : decode cX0_farFrom 33 = .ok (.getfield 24, 3) := by decide +kernel
theorem dX0_farFrom_36 : decode cX0_farFrom 36 = .ok (.iload_n 1, 1) := by decide +kernel
theorem dX0_farFrom_37 : decode cX0_farFrom 37 = .ok (.invokevirtual 31, 3) := by decide +kernel
theorem dX0_farFrom_40 : decode cX0_farFrom 40 = .ok (.iload_n 3, 1) := by decide +kernel
theorem dX0_farFrom_41 : decode cX0_farFrom 41 = .ok (.iload 5, 2) := by decide +kernel
theorem dX0_farFrom_43 : decode cX0_farFrom 43 = .ok (.invokestatic 35, 3) := by decide +kernel
theorem dX0_farFrom_46 : decode cX0_farFrom 46 = .ok (.istore 7, 2) := by decide +kernel
theorem dX0_farFrom_48 : decode cX0_farFrom 48 = .ok (.iload 6, 2) := by decide +kernel
theorem dX0_farFrom_50 : decode cX0_farFrom 50 = .ok (.iload 6, 2) := by decide +kernel
theorem dX0_farFrom_52 : decode cX0_farFrom 52 = .ok (.imul, 1) := by decide +kernel
theorem dX0_farFrom_53 : decode cX0_farFrom 53 = .ok (.iload 7, 2) := by decide +kernel
theorem dX0_farFrom_55 : decode cX0_farFrom 55 = .ok (.iload 7, 2) := by decide +kernel
theorem dX0_farFrom_57 : decode cX0_farFrom 57 = .ok (.imul, 1) := by decide +kernel
theorem dX0_farFrom_58 : decode cX0_farFrom 58 = .ok (.iadd, 1) := by decide +kernel
theorem dX0_farFrom_59 : decode cX0_farFrom 59 = .ok (.ireturn, 1) := by decide +kernel
theorem dX0_farBetween_0 : decode cX0_farBetween 0 = .ok (.aload_n 0, 1) := by decide +kernel
theorem dX0_farBetween_1 : decode cX0_farBetween 1 = .ok (.iload_n 1, 1) := by decide +kernel
theorem dX0_farBetween_2 : decode cX0_farBetween 2 = .ok (.aload_n 2, 1) := by decide +kernel
theorem dX0_farBetween_3 : decode cX0_farBetween 3 = .ok (.getfield 12, 3) := by decide +kernel
theorem dX0_farBetween_6 : decode cX0_farBetween 6 = .ok (.iload_n 3, 1) := by decide +kernel
theorem dX0_farBetween_7 : decode cX0_farBetween 7 = .ok (.invokevirtual 31, 3) := by decide +kernel
theorem dX0_farBetween_10 : decode cX0_farBetween 10 = .ok (.aload_n 2, 1) := by decide +kernel
theorem dX0_farBetween_11 : decode cX0_farBetween 11 = .ok (.getfield 18, 3) := by decide +kernel
theorem dX0_farBetween_14 : decode cX0_farBetween 14 = .ok (.iload_n 3, 1) := by decide +kernel
theorem dX0_farBetween_15 : decode cX0_farBetween 15 = .ok (.invokevirtual 31, 3) := by decide +kernel
theorem dX0_farBetween_18 : decode cX0_farBetween 18 = .ok (.aload_n 2, 1) := by decide +kernel
theorem dX0_farBetween_19 : decode cX0_farBetween 19 = .ok (.getfield 21, 3) := by decide +kernel
theorem dX0_farBetween_22 : decode cX0_farBetween 22 = .ok (.iload_n 3, 1) := by decide +kernel
theorem dX0_farBetween_23 : decode cX0_farBetween 23 = .ok (.invokevirtual 31, 3) := by decide +kernel
theorem dX0_farBetween_26 : decode cX0_farBetween 26 = .ok (.aload_n 2, 1) := by decide +kernel
theorem dX0_farBetween_27 : decode cX0_farBetween 27 = .ok (.getfield 24, 3) := by decide +kernel
theorem dX0_farBetween_30 : decode cX0_farBetween 30 = .ok (.iload_n 3, 1) := by decide +kernel
theorem dX0_farBetween_31 : decode cX0_farBetween 31 = .ok (.invokevirtual 31, 3) := by decide +kernel
theorem dX0_farBetween_34 : decode cX0_farBetween 34 = .ok (.invokevirtual 39, 3) := by decide +kernel
theorem dX0_farBetween_37 : decode cX0_farBetween 37 = .ok (.ireturn, 1) := by decide +kernel
theorem dX0_gap_0 : decode cX0_gap 0 = .ok (.iconst 0, 1) := by decide +kernel
theorem dX0_gap_1 : decode cX0_gap 1 = .ok (.iload_n 0, 1) := by decide +kernel
theorem dX0_gap_2 : decode cX0_gap 2 = .ok (.iload_n 2, 1) := by decide +kernel
theorem dX0_gap_3 : decode cX0_gap 3 = .ok (.isub, 1) := by decide +kernel
theorem dX0_gap_4 : decode cX0_gap 4 = .ok (.iload_n 3, 1) := by decide +kernel
theorem dX0_gap_5 : decode cX0_gap 5 = .ok (.isub, 1) := by decide +kernel
theorem dX0_gap_6 : decode cX0_gap 6 = .ok (.iload_n 2, 1) := by decide +kernel
theorem dX0_gap_7 : decode cX0_gap 7 = .ok (.iload_n 0, 1) := by decide +kernel
theorem dX0_gap_8 : decode cX0_gap 8 = .ok (.isub, 1) := by decide +kernel
theorem dX0_gap_9 : decode cX0_gap 9 = .ok (.iload_n 1, 1) := by decide +kernel
theorem dX0_gap_10 : decode cX0_gap 10 = .ok (.isub, 1) := by decide +kernel
theorem dX0_gap_11 : decode cX0_gap 11 = .ok (.invokestatic 43, 3) := by decide +kernel
theorem dX0_gap_14 : decode cX0_gap 14 = .ok (.invokestatic 43, 3) := by decide +kernel
theorem dX0_gap_17 : decode cX0_gap 17 = .ok (.ireturn, 1) := by decide +kernel
theorem dX0_stretchOver_0 : decode cX0_stretchOver 0 = .ok (.aload_n 0, 1) := by decide +kernel
theorem dX0_stretchOver_1 : decode cX0_stretchOver 1 = .ok (.getfield 12, 3) := by decide +kernel
theorem dX0_stretchOver_4 : decode cX0_stretchOver 4 = .ok (.iload_n 1, 1) := by decide +kernel
theorem dX0_stretchOver_5 : decode cX0_stretchOver 5 = .ok (.invokevirtual 31, 3) := by decide +kernel
theorem dX0_stretchOver_8 : decode cX0_stretchOver 8 = .ok (.aload_n 2, 1) := by decide +kernel
theorem dX0_stretchOver_9 : decode cX0_stretchOver 9 = .ok (.getfield 12, 3) := by decide +kernel
theorem dX0_stretchOver_12 : decode cX0_stretchOver 12 = .ok (.iload_n 3, 1) := by decide +kernel
theorem dX0_stretchOver_13 : decode cX0_stretchOver 13 = .ok (.invokevirtual 31, 3) := by decide +kernel
theorem dX0_stretchOver_16 : decode cX0_stretchOver 16 = .ok (.invokestatic 49, 3) := by decide +kernel
theorem dX0_stretchOver_19 : decode cX0_stretchOver 19 = .ok (.istore 4, 2) := by decide +kernel
theorem dX0_stretchOver_21 : decode cX0_stretchOver 21 = .ok (.aload_n 0, 1) := by decide +kernel
theorem dX0_stretchOver_22 : decode cX0_stretchOver 22 = .ok (.getfield 18, 3) := by decide +kernel
theorem dX0_stretchOver_25 : decode cX0_stretchOver 25 = .ok (.iload_n 1, 1) := by decide +kernel
theorem dX0_stretchOver_26 : decode cX0_stretchOver 26 = .ok (.invokevirtual 31, 3) := by decide +kernel
theorem dX0_stretchOver_29 : decode cX0_stretchOver 29 = .ok (.aload_n 2, 1) := by decide +kernel
theorem dX0_stretchOver_30 : decode cX0_stretchOver 30 = .ok (.getfield 18, 3) := by decide +kernel
theorem dX0_stretchOver_33 : decode cX0_stretchOver 33 = .ok (.iload_n 3, 1) := by decide +kernel
theorem dX0_stretchOver_34 : decode cX0_stretchOver 34 = .ok (.invokevirtual 31, 3) := by decide +kernel
theorem dX0_stretchOver_37 : decode cX0_stretchOver 37 = .ok (.invokestatic 49, 3) := by decide +kernel
theorem dX0_stretchOver_40 : decode cX0_stretchOver 40 = .ok (.istore 5, 2) := by decide +kernel
theorem dX0_stretchOver_42 : decode cX0_stretchOver 42 = .ok (.aload_n 0, 1) := by decide +kernel
theorem dX0_stretchOver_43 : decode cX0_stretchOver 43 = .ok (.getfield 12, 3) := by decide +kernel
theorem dX0_stretchOver_46 : decode cX0_stretchOver 46 = .ok (.iload_n 1, 1) := by decide +kernel
theorem dX0_stretchOver_47 : decode cX0_stretchOver 47 = .ok (.invokevirtual 31, 3) := by decide +kernel
theorem dX0_stretchOver_50 : decode cX0_stretchOver 50 = .ok (.aload_n 0, 1) := by decide +kernel
theorem dX0_stretchOver_51 : decode cX0_stretchOver 51 = .ok (.getfield 21, 3) := by decide +kernel
theorem dX0_stretchOver_54 : decode cX0_stretchOver 54 = .ok (.iload_n 1, 1) := by decide +kernel
theorem dX0_stretchOver_55 : decode cX0_stretchOver 55 = .ok (.invokevirtual 31, 3) := by decide +kernel
theorem dX0_stretchOver_58 : decode cX0_stretchOver 58 = .ok (.iadd, 1) := by decide +kernel
theorem dX0_stretchOver_59 : decode cX0_stretchOver 59 = .ok (.aload_n 2, 1) := by decide +kernel
theorem dX0_stretchOver_60 : decode cX0_stretchOver 60 = .ok (.getfield 12, 3) := by decide +kernel
theorem dX0_stretchOver_63 : decode cX0_stretchOver 63 = .ok (.iload_n 3, 1) := by decide +kernel
theorem dX0_stretchOver_64 : decode cX0_stretchOver 64 = .ok (.invokevirtual 31, 3) := by decide +kernel
theorem dX0_stretchOver_67 : decode cX0_stretchOver 67 = .ok (.aload_n 2, 1) := by decide +kernel
theorem dX0_stretchOver_68 : decode cX0_stretchOver 68 = .ok (.getfield 21, 3) := by decide +kernel
theorem dX0_stretchOver_71 : decode cX0_stretchOver 71 = .ok (.iload_n 3, 1) := by decide +kernel
theorem dX0_stretchOver_72 : decode cX0_stretchOver 72 = .ok (.invokevirtual 31, 3) := by decide +kernel
theorem dX0_stretchOver_75 : decode cX0_stretchOver 75 = .ok (.iadd, 1) := by decide +kernel
theorem dX0_stretchOver_76 : decode cX0_stretchOver 76 = .ok (.invokestatic 43, 3) := by decide +kernel
theorem dX0_stretchOver_79 : decode cX0_stretchOver 79 = .ok (.istore 6, 2) := by decide +kernel
theorem dX0_stretchOver_81 : decode cX0_stretchOver 81 = .ok (.aload_n 0, 1) := by decide +kernel
theorem dX0_stretchOver_82 : decode cX0_stretchOver 82 = .ok (.getfield 18, 3) := by decide +kernel
theorem dX0_stretchOver_85 : decode cX0_stretchOver 85 = .ok (.iload_n 1, 1) := by decide +kernel
theorem dX0_stretchOver_86 : decode cX0_stretchOver 86 = .ok (.invokevirtual 31, 3) := by decide +kernel
theorem dX0_stretchOver_89 : decode cX0_stretchOver 89 = .ok (.aload_n 0, 1) := by decide +kernel
theorem dX0_stretchOver_90 : decode cX0_stretchOver 90 = .ok (.getfield 24, 3) := by decide +kernel
theorem dX0_stretchOver_93 : decode cX0_stretchOver 93 = .ok (.iload_n 1, 1) := by decide +kernel
theorem dX0_stretchOver_94 : decode cX0_stretchOver 94 = .ok (.invokevirtual 31, 3) := by decide +kernel
theorem dX0_stretchOver_97 : decode cX0_stretchOver 97 = .ok (.iadd, 1) := by decide +kernel
theorem dX0_stretchOver_98 : decode cX0_stretchOver 98 = .ok (.aload_n 2, 1) := by decide +kernel
theorem dX0_stretchOver_99 : decode cX0_stretchOver 99 = .ok (.getfield 18, 3) := by decide +kernel
theorem dX0_stretchOver_102 : decode cX0_stretchOver 102 = .ok (.iload_n 3, 1) := by decide +kernel
theorem dX0_stretchOver_103 : decode cX0_stretchOver 103 = .ok (.invokevirtual 31, 3) := by decide +kernel
theorem dX0_stretchOver_106 : decode cX0_stretchOver 106 = .ok (.aload_n 2, 1) := by decide +kernel
theorem dX0_stretchOver_107 : decode cX0_stretchOver 107 = .ok (.getfield 24, 3) := by decide +kernel
theorem dX0_stretchOver_110 : decode cX0_stretchOver 110 = .ok (.iload_n 3, 1) := by decide +kernel
theorem dX0_stretchOver_111 : decode cX0_stretchOver 111 = .ok (.invokevirtual 31, 3) := by decide +kernel
theorem dX0_stretchOver_114 : decode cX0_stretchOver 114 = .ok (.iadd, 1) := by decide +kernel
theorem dX0_stretchOver_115 : decode cX0_stretchOver 115 = .ok (.invokestatic 43, 3) := by decide +kernel
theorem dX0_stretchOver_118 : decode cX0_stretchOver 118 = .ok (.istore 7, 2) := by decide +kernel
theorem dX0_stretchOver_120 : decode cX0_stretchOver 120 = .ok (.aload_n 0, 1) := by decide +kernel
theorem dX0_stretchOver_121 : decode cX0_stretchOver 121 = .ok (.iload_n 1, 1) := by decide +kernel
theorem dX0_stretchOver_122 : decode cX0_stretchOver 122 = .ok (.iload 4, 2) := by decide +kernel
theorem dX0_stretchOver_124 : decode cX0_stretchOver 124 = .ok (.iload 5, 2) := by decide +kernel
theorem dX0_stretchOver_126 : decode cX0_stretchOver 126 = .ok (.iload 6, 2) := by decide +kernel
theorem dX0_stretchOver_128 : decode cX0_stretchOver 128 = .ok (.iload 4, 2) := by decide +kernel
theorem dX0_stretchOver_130 : decode cX0_stretchOver 130 = .ok (.isub, 1) := by decide +kernel
theorem dX0_stretchOver_131 : decode cX0_stretchOver 131 = .ok (.iload 7, 2) := by decide +kernel
theorem dX0_stretchOver_133 : decode cX0_stretchOver 133 = .ok (.iload 5, 2) := by decide +kernel
theorem dX0_stretchOver_135 : decode cX0_stretchOver 135 = .ok (.isub, 1) := by decide +kernel
theorem dX0_stretchOver_136 : decode cX0_stretchOver 136 = .ok (.invokevirtual 52, 3) := by decide +kernel
theorem dX0_stretchOver_139 : decode cX0_stretchOver 139 = .ok (.return_, 1) := by decide +kernel
theorem dX1_init_0 : decode cX1_init 0 = .ok (.aload_n 0, 1) := by decide +kernel
theorem dX1_init_1 : decode cX1_init 1 = .ok (.invokespecial 3, 3) := by decide +kernel
theorem dX1_init_4 : decode cX1_init 4 = .ok (.aload_n 0, 1) := by decide +kernel
theorem dX1_init_5 : decode cX1_init 5 = .ok (.new 9, 3) := by decide +kernel
theorem dX1_init_8 : decode cX1_init 8 = .ok (.dup, 1) := by decide +kernel
theorem dX1_init_9 : decode cX1_init 9 = .ok (.bipush 8, 2) := by decide +kernel
theorem dX1_init_11 : decode cX1_init 11 = .ok (.invokespecial 11, 3) := by decide +kernel
theorem dX1_init_14 : decode cX1_init 14 = .ok (.putfield 14, 3) := by decide +kernel
theorem dX1_init_17 : decode cX1_init 17 = .ok (.aload_n 0, 1) := by decide +kernel
theorem dX1_init_18 : decode cX1_init 18 = .ok (.new 9, 3) := by decide +kernel
theorem dX1_init_21 : decode cX1_init 21 = .ok (.dup, 1) := by decide +kernel
theorem dX1_init_22 : decode cX1_init 22 = .ok (.bipush 8, 2) := by decide +kernel
theorem dX1_init_24 : decode cX1_init 24 = .ok (.invokespecial 11, 3) := by decide +kernel
theorem dX1_init_27 : decode cX1_init 27 = .ok (.putfield 20, 3) := by decide +kernel
theorem dX1_init_30 : decode cX1_init 30 = .ok (.return_, 1) := by decide +kernel
theorem dX1_next_0 : decode cX1_next 0 = .ok (.iload_n 1, 1) := by decide +kernel
theorem dX1_next_1 : decode cX1_next 1 = .ok (.iconst 1, 1) := by decide +kernel
theorem dX1_next_2 : decode cX1_next 2 = .ok (.iadd, 1) := by decide +kernel
theorem dX1_next_3 : decode cX1_next 3 = .ok (.aload_n 0, 1) := by decide +kernel
theorem dX1_next_4 : decode cX1_next 4 = .ok (.getfield 23, 3) := by decide +kernel
theorem dX1_next_7 : decode cX1_next 7 = .ok (.if_icmp .ge 9, 3) := by decide +kernel
theorem dX1_next_10 : decode cX1_next 10 = .ok (.iload_n 1, 1) := by decide +kernel
theorem dX1_next_11 : decode cX1_next 11 = .ok (.iconst 1, 1) := by decide +kernel
theorem dX1_next_12 : decode cX1_next 12 = .ok (.iadd, 1) := by decide +kernel
theorem dX1_next_13 : decode cX1_next 13 = .ok (.goto 4, 3) := by decide +kernel
theorem dX1_next_16 : decode cX1_next 16 = .ok (.iconst 0, 1) := by decide +kernel
theorem dX1_next_17 : decode cX1_next 17 = .ok (.ireturn, 1) := by decide +kernel
theorem dX1_twiceItsArea_0 : decode cX1_twiceItsArea 0 = .ok (.iconst 0, 1) := by decide +kernel
theorem dX1_twiceItsArea_1 : decode cX1_twiceItsArea 1 = .ok (.istore_n 1, 1) := by decide +kernel
theorem dX1_twiceItsArea_2 : decode cX1_twiceItsArea 2 = .ok (.iconst 0, 1) := by decide +kernel
theorem dX1_twiceItsArea_3 : decode cX1_twiceItsArea 3 = .ok (.istore_n 2, 1) := by decide +kernel
theorem dX1_twiceItsArea_4 : decode cX1_twiceItsArea 4 = .ok (.iload_n 2, 1) := by decide +kernel
theorem dX1_twiceItsArea_5 : decode cX1_twiceItsArea 5 = .ok (.aload_n 0, 1) := by decide +kernel
theorem dX1_twiceItsArea_6 : decode cX1_twiceItsArea 6 = .ok (.getfield 23, 3) := by decide +kernel
theorem dX1_twiceItsArea_9 : decode cX1_twiceItsArea 9 = .ok (.if_icmp .ge 53, 3) := by decide +kernel
theorem dX1_twiceItsArea_12 : decode cX1_twiceItsArea 12 = .ok (.aload_n 0, 1) := by decide +kernel
theorem dX1_twiceItsArea_13 : decode cX1_twiceItsArea 13 = .ok (.iload_n 2, 1) := by decide +kernel
theorem dX1_twiceItsArea_14 : decode cX1_twiceItsArea 14 = .ok (.invokevirtual 31, 3) := by decide +kernel
theorem dX1_twiceItsArea_17 : decode cX1_twiceItsArea 17 = .ok (.istore_n 3, 1) := by decide +kernel
theorem dX1_twiceItsArea_18 : decode cX1_twiceItsArea 18 = .ok (.iload_n 1, 1) := by decide +kernel
theorem dX1_twiceItsArea_19 : decode cX1_twiceItsArea 19 = .ok (.aload_n 0, 1) := by decide +kernel
theorem dX1_twiceItsArea_20 : decode cX1_twiceItsArea 20 = .ok (.getfield 14, 3) := by decide +kernel
theorem dX1_twiceItsArea_23 : decode cX1_twiceItsArea 23 = .ok (.iload_n 2, 1) := by decide +kernel
theorem dX1_twiceItsArea_24 : decode cX1_twiceItsArea 24 = .ok (.invokevirtual 35, 3) := by decide +kernel
theorem dX1_twiceItsArea_27 : decode cX1_twiceItsArea 27 = .ok (.aload_n 0, 1) := by decide +kernel
theorem dX1_twiceItsArea_28 : decode cX1_twiceItsArea 28 = .ok (.getfield 20, 3) := by decide +kernel
theorem dX1_twiceItsArea_31 : decode cX1_twiceItsArea 31 = .ok (.iload_n 3, 1) := by decide +kernel
theorem dX1_twiceItsArea_32 : decode cX1_twiceItsArea 32 = .ok (.invokevirtual 35, 3) := by decide +kernel
theorem dX1_twiceItsArea_35 : decode cX1_twiceItsArea 35 = .ok (.imul, 1) := by decide +kernel
theorem dX1_twiceItsArea_36 : decode cX1_twiceItsArea 36 = .ok (.aload_n 0, 1) := by decide +kernel
theorem dX1_twiceItsArea_37 : decode cX1_twiceItsArea 37 = .ok (.getfield 14, 3) := by decide +kernel
theorem dX1_twiceItsArea_40 : decode cX1_twiceItsArea 40 = .ok (.iload_n 3, 1) := by decide +kernel
theorem dX1_twiceItsArea_41 : decode cX1_twiceItsArea 41 = .ok (.invokevirtual 35, 3) := by decide +kernel
theorem dX1_twiceItsArea_44 : decode cX1_twiceItsArea 44 = .ok (.aload_n 0, 1) := by decide +kernel
theorem dX1_twiceItsArea_45 : decode cX1_twiceItsArea 45 = .ok (.getfield 20, 3) := by decide +kernel
theorem dX1_twiceItsArea_48 : decode cX1_twiceItsArea 48 = .ok (.iload_n 2, 1) := by decide +kernel
theorem dX1_twiceItsArea_49 : decode cX1_twiceItsArea 49 = .ok (.invokevirtual 35, 3) := by decide +kernel
theorem dX1_twiceItsArea_52 : decode cX1_twiceItsArea 52 = .ok (.imul, 1) := by decide +kernel
theorem dX1_twiceItsArea_53 : decode cX1_twiceItsArea 53 = .ok (.isub, 1) := by decide +kernel
theorem dX1_twiceItsArea_54 : decode cX1_twiceItsArea 54 = .ok (.iadd, 1) := by decide +kernel
theorem dX1_twiceItsArea_55 : decode cX1_twiceItsArea 55 = .ok (.istore_n 1, 1) := by decide +kernel
theorem dX1_twiceItsArea_56 : decode cX1_twiceItsArea 56 = .ok (.iinc 2 1, 3) := by decide +kernel
theorem dX1_twiceItsArea_59 : decode cX1_twiceItsArea 59 = .ok (.goto (-55), 3) := by decide +kernel
theorem dX1_twiceItsArea_62 : decode cX1_twiceItsArea 62 = .ok (.iload_n 1, 1) := by decide +kernel
theorem dX1_twiceItsArea_63 : decode cX1_twiceItsArea 63 = .ok (.invokestatic 38, 3) := by decide +kernel
theorem dX1_twiceItsArea_66 : decode cX1_twiceItsArea 66 = .ok (.ireturn, 1) := by decide +kernel
theorem dX2_init_0 : decode cX2_init 0 = .ok (.aload_n 0, 1) := by decide +kernel
theorem dX2_init_1 : decode cX2_init 1 = .ok (.invokespecial 3, 3) := by decide +kernel
theorem dX2_init_4 : decode cX2_init 4 = .ok (.aload_n 0, 1) := by decide +kernel
theorem dX2_init_5 : decode cX2_init 5 = .ok (.new 9, 3) := by decide +kernel
theorem dX2_init_8 : decode cX2_init 8 = .ok (.dup, 1) := by decide +kernel
theorem dX2_init_9 : decode cX2_init 9 = .ok (.invokespecial 11, 3) := by decide +kernel
theorem dX2_init_12 : decode cX2_init 12 = .ok (.putfield 12, 3) := by decide +kernel
theorem dX2_init_15 : decode cX2_init 15 = .ok (.aload_n 0, 1) := by decide +kernel
theorem dX2_init_16 : decode cX2_init 16 = .ok (.iconst 4, 1) := by decide +kernel
theorem dX2_init_17 : decode cX2_init 17 = .ok (.putfield 18, 3) := by decide +kernel
theorem dX2_init_20 : decode cX2_init 20 = .ok (.aload_n 0, 1) := by decide +kernel
theorem dX2_init_21 : decode cX2_init 21 = .ok (.iload_n 1, 1) := by decide +kernel
theorem dX2_init_22 : decode cX2_init 22 = .ok (.putfield 22, 3) := by decide +kernel
theorem dX2_init_25 : decode cX2_init 25 = .ok (.aload_n 0, 1) := by decide +kernel
theorem dX2_init_26 : decode cX2_init 26 = .ok (.iload_n 2, 1) := by decide +kernel
theorem dX2_init_27 : decode cX2_init 27 = .ok (.putfield 25, 3) := by decide +kernel
theorem dX2_init_30 : decode cX2_init 30 = .ok (.return_, 1) := by decide +kernel
theorem dX2_regrow_0 : decode cX2_regrow 0 = .ok (.aload_n 0, 1) := by decide +kernel
theorem dX2_regrow_1 : decode cX2_regrow 1 = .ok (.getfield 25, 3) := by decide +kernel
theorem dX2_regrow_4 : decode cX2_regrow 4 = .ok (.ifCond .eq 19, 3) := by decide +kernel
theorem dX2_regrow_7 : decode cX2_regrow 7 = .ok (.aload_n 0, 1) := by decide +kernel
theorem dX2_regrow_8 : decode cX2_regrow 8 = .ok (.getfield 12, 3) := by decide +kernel
theorem dX2_regrow_11 : decode cX2_regrow 11 = .ok (.aload_n 1, 1) := by decide +kernel
theorem dX2_regrow_12 : decode cX2_regrow 12 = .ok (.aload_n 0, 1) := by decide +kernel
theorem dX2_regrow_13 : decode cX2_regrow 13 = .ok (.getfield 22, 3) := by decide +kernel
theorem dX2_regrow_16 : decode cX2_regrow 16 = .ok (.aload_n 0, 1) := by decide +kernel
theorem dX2_regrow_17 : decode cX2_regrow 17 = .ok (.getfield 18, 3) := by decide +kernel
theorem dX2_regrow_20 : decode cX2_regrow 20 = .ok (.invokevirtual 29, 3) := by decide +kernel
theorem dX2_regrow_23 : decode cX2_regrow 23 = .ok (.return_, 1) := by decide +kernel
theorem dX2_letGo_0 : decode cX2_letGo 0 = .ok (.aload_n 0, 1) := by decide +kernel
theorem dX2_letGo_1 : decode cX2_letGo 1 = .ok (.getfield 12, 3) := by decide +kernel
theorem dX2_letGo_4 : decode cX2_letGo 4 = .ok (.getfield 33, 3) := by decide +kernel
theorem dX2_letGo_7 : decode cX2_letGo 7 = .ok (.iload_n 1, 1) := by decide +kernel
theorem dX2_letGo_8 : decode cX2_letGo 8 = .ok (.invokevirtual 37, 3) := by decide +kernel
theorem dX2_letGo_11 : decode cX2_letGo 11 = .ok (.istore_n 2, 1) := by decide +kernel
theorem dX2_letGo_12 : decode cX2_letGo 12 = .ok (.iload_n 2, 1) := by decide +kernel
theorem dX2_letGo_13 : decode cX2_letGo 13 = .ok (.iconst (-1), 1) := by decide +kernel
theorem dX2_letGo_14 : decode cX2_letGo 14 = .ok (.if_icmp .eq 27, 3) := by decide +kernel
theorem dX2_letGo_17 : decode cX2_letGo 17 = .ok (.aload_n 0, 1) := by decide +kernel
theorem dX2_letGo_18 : decode cX2_letGo 18 = .ok (.getfield 12, 3) := by decide +kernel
theorem dX2_letGo_21 : decode cX2_letGo 21 = .ok (.getfield 43, 3) := by decide +kernel
theorem dX2_letGo_24 : decode cX2_letGo 24 = .ok (.iload_n 2, 1) := by decide +kernel
theorem dX2_letGo_25 : decode cX2_letGo 25 = .ok (.iconst (-1), 1) := by decide +kernel
theorem dX2_letGo_26 : decode cX2_letGo 26 = .ok (.invokevirtual 46, 3) := by decide +kernel
theorem dX2_letGo_29 : decode cX2_letGo 29 = .ok (.aload_n 0, 1) := by decide +kernel
theorem dX2_letGo_30 : decode cX2_letGo 30 = .ok (.getfield 12, 3) := by decide +kernel
theorem dX2_letGo_33 : decode cX2_letGo 33 = .ok (.getfield 33, 3) := by decide +kernel
theorem dX2_letGo_36 : decode cX2_letGo 36 = .ok (.iload_n 1, 1) := by decide +kernel
theorem dX2_letGo_37 : decode cX2_letGo 37 = .ok (.iconst (-1), 1) := by decide +kernel
theorem dX2_letGo_38 : decode cX2_letGo 38 = .ok (.invokevirtual 50, 3) := by decide +kernel
theorem dX2_letGo_41 : decode cX2_letGo 41 = .ok (.return_, 1) := by decide +kernel
theorem dX2_isLoose_0 : decode cX2_isLoose 0 = .ok (.aload_n 0, 1) := by decide +kernel
theorem dX2_isLoose_1 : decode cX2_isLoose 1 = .ok (.getfield 25, 3) := by decide +kernel
theorem dX2_isLoose_4 : decode cX2_isLoose 4 = .ok (.ifCond .ne 22, 3) := by decide +kernel
theorem dX2_isLoose_7 : decode cX2_isLoose 7 = .ok (.aload_n 0, 1) := by decide +kernel
theorem dX2_isLoose_8 : decode cX2_isLoose 8 = .ok (.getfield 12, 3) := by decide +kernel
theorem dX2_isLoose_11 : decode cX2_isLoose 11 = .ok (.getfield 33, 3) := by decide +kernel
theorem dX2_isLoose_14 : decode cX2_isLoose 14 = .ok (.iload_n 1, 1) := by decide +kernel
theorem dX2_isLoose_15 : decode cX2_isLoose 15 = .ok (.invokevirtual 37, 3) := by decide +kernel
theorem dX2_isLoose_18 : decode cX2_isLoose 18 = .ok (.iconst (-1), 1) := by decide +kernel
theorem dX2_isLoose_19 : decode cX2_isLoose 19 = .ok (.if_icmp .ne 7, 3) := by decide +kernel
theorem dX2_isLoose_22 : decode cX2_isLoose 22 = .ok (.iconst 1, 1) := by decide +kernel
theorem dX2_isLoose_23 : decode cX2_isLoose 23 = .ok (.goto 4, 3) := by decide +kernel
theorem dX2_isLoose_26 : decode cX2_isLoose 26 = .ok (.iconst 0, 1) := by decide +kernel
theorem dX2_isLoose_27 : decode cX2_isLoose 27 = .ok (.ireturn, 1) := by decide +kernel
theorem dX3_init_0 : decode cX3_init 0 = .ok (.aload_n 0, 1) := by decide +kernel
theorem dX3_init_1 : decode cX3_init 1 = .ok (.invokespecial 1, 3) := by decide +kernel
theorem dX3_init_4 : decode cX3_init 4 = .ok (.aload_n 0, 1) := by decide +kernel
theorem dX3_init_5 : decode cX3_init 5 = .ok (.iload_n 1, 1) := by decide +kernel
theorem dX3_init_6 : decode cX3_init 6 = .ok (.iconst 0, 1) := by decide +kernel
theorem dX3_init_7 : decode cX3_init 7 = .ok (.invokestatic 7, 3) := by decide +kernel
theorem dX3_init_10 : decode cX3_init 10 = .ok (.newarray .int, 2) := by decide +kernel
theorem dX3_init_12 : decode cX3_init 12 = .ok (.putfield 13, 3) := by decide +kernel
theorem dX3_init_15 : decode cX3_init 15 = .ok (.return_, 1) := by decide +kernel
theorem dX3_at_0 : decode cX3_at 0 = .ok (.iload_n 1, 1) := by decide +kernel
theorem dX3_at_1 : decode cX3_at 1 = .ok (.ifCond .lt 21, 3) := by decide +kernel
theorem dX3_at_4 : decode cX3_at 4 = .ok (.iload_n 1, 1) := by decide +kernel
theorem dX3_at_5 : decode cX3_at 5 = .ok (.aload_n 0, 1) := by decide +kernel
theorem dX3_at_6 : decode cX3_at 6 = .ok (.getfield 13, 3) := by decide +kernel
theorem dX3_at_9 : decode cX3_at 9 = .ok (.arraylength, 1) := by decide +kernel
theorem dX3_at_10 : decode cX3_at 10 = .ok (.if_icmp .ge 12, 3) := by decide +kernel
theorem dX3_at_13 : decode cX3_at 13 = .ok (.aload_n 0, 1) := by decide +kernel
theorem dX3_at_14 : decode cX3_at 14 = .ok (.getfield 13, 3) := by decide +kernel
theorem dX3_at_17 : decode cX3_at 17 = .ok (.iload_n 1, 1) := by decide +kernel
theorem dX3_at_18 : decode cX3_at 18 = .ok (.iaload, 1) := by decide +kernel
theorem dX3_at_19 : decode cX3_at 19 = .ok (.goto 4, 3) := by decide +kernel
theorem dX3_at_22 : decode cX3_at 22 = .ok (.iconst 0, 1) := by decide +kernel
theorem dX3_at_23 : decode cX3_at 23 = .ok (.ireturn, 1) := by decide +kernel
theorem dX3_put_0 : decode cX3_put 0 = .ok (.iload_n 1, 1) := by decide +kernel
theorem dX3_put_1 : decode cX3_put 1 = .ok (.ifCond .lt 19, 3) := by decide +kernel
theorem dX3_put_4 : decode cX3_put 4 = .ok (.iload_n 1, 1) := by decide +kernel
theorem dX3_put_5 : decode cX3_put 5 = .ok (.aload_n 0, 1) := by decide +kernel
theorem dX3_put_6 : decode cX3_put 6 = .ok (.getfield 13, 3) := by decide +kernel
theorem dX3_put_9 : decode cX3_put 9 = .ok (.arraylength, 1) := by decide +kernel
theorem dX3_put_10 : decode cX3_put 10 = .ok (.if_icmp .ge 10, 3) := by decide +kernel
theorem dX3_put_13 : decode cX3_put 13 = .ok (.aload_n 0, 1) := by decide +kernel
theorem dX3_put_14 : decode cX3_put 14 = .ok (.getfield 13, 3) := by decide +kernel
theorem dX3_put_17 : decode cX3_put 17 = .ok (.iload_n 1, 1) := by decide +kernel
theorem dX3_put_18 : decode cX3_put 18 = .ok (.iload_n 2, 1) := by decide +kernel
theorem dX3_put_19 : decode cX3_put 19 = .ok (.iastore, 1) := by decide +kernel
theorem dX3_put_20 : decode cX3_put 20 = .ok (.return_, 1) := by decide +kernel
theorem dX3_addTo_0 : decode cX3_addTo 0 = .ok (.iload_n 1, 1) := by decide +kernel
theorem dX3_addTo_1 : decode cX3_addTo 1 = .ok (.ifCond .lt 22, 3) := by decide +kernel
theorem dX3_addTo_4 : decode cX3_addTo 4 = .ok (.iload_n 1, 1) := by decide +kernel
theorem dX3_addTo_5 : decode cX3_addTo 5 = .ok (.aload_n 0, 1) := by decide +kernel
theorem dX3_addTo_6 : decode cX3_addTo 6 = .ok (.getfield 13, 3) := by decide +kernel
theorem dX3_addTo_9 : decode cX3_addTo 9 = .ok (.arraylength, 1) := by decide +kernel
theorem dX3_addTo_10 : decode cX3_addTo 10 = .ok (.if_icmp .ge 13, 3) := by decide +kernel
theorem dX3_addTo_13 : decode cX3_addTo 13 = .ok (.aload_n 0, 1) := by decide +kernel
theorem dX3_addTo_14 : decode cX3_addTo 14 = .ok (.getfield 13, 3) := by decide +kernel
theorem dX3_addTo_17 : decode cX3_addTo 17 = .ok (.iload_n 1, 1) := by decide +kernel
theorem dX3_addTo_18 : decode cX3_addTo 18 = .ok (.dup2, 1) := by decide +kernel
theorem dX3_addTo_19 : decode cX3_addTo 19 = .ok (.iaload, 1) := by decide +kernel
theorem dX3_addTo_20 : decode cX3_addTo 20 = .ok (.iload_n 2, 1) := by decide +kernel
theorem dX3_addTo_21 : decode cX3_addTo 21 = .ok (.iadd, 1) := by decide +kernel
theorem dX3_addTo_22 : decode cX3_addTo 22 = .ok (.iastore, 1) := by decide +kernel
theorem dX3_addTo_23 : decode cX3_addTo 23 = .ok (.return_, 1) := by decide +kernel
theorem dX3_fill_0 : decode cX3_fill 0 = .ok (.iconst 0, 1) := by decide +kernel
theorem dX3_fill_1 : decode cX3_fill 1 = .ok (.istore_n 2, 1) := by decide +kernel
theorem dX3_fill_2 : decode cX3_fill 2 = .ok (.iload_n 2, 1) := by decide +kernel
theorem dX3_fill_3 : decode cX3_fill 3 = .ok (.aload_n 0, 1) := by decide +kernel
theorem dX3_fill_4 : decode cX3_fill 4 = .ok (.getfield 13, 3) := by decide +kernel
theorem dX3_fill_7 : decode cX3_fill 7 = .ok (.arraylength, 1) := by decide +kernel
theorem dX3_fill_8 : decode cX3_fill 8 = .ok (.if_icmp .ge 16, 3) := by decide +kernel
theorem dX3_fill_11 : decode cX3_fill 11 = .ok (.aload_n 0, 1) := by decide +kernel
theorem dX3_fill_12 : decode cX3_fill 12 = .ok (.getfield 13, 3) := by decide +kernel
theorem dX3_fill_15 : decode cX3_fill 15 = .ok (.iload_n 2, 1) := by decide +kernel
theorem dX3_fill_16 : decode cX3_fill 16 = .ok (.iload_n 1, 1) := by decide +kernel
theorem dX3_fill_17 : decode cX3_fill 17 = .ok (.iastore, 1) := by decide +kernel
theorem dX3_fill_18 : decode cX3_fill 18 = .ok (.iinc 2 1, 3) := by decide +kernel
theorem dX3_fill_21 : decode cX3_fill 21 = .ok (.goto (-19), 3) := by decide +kernel
theorem dX3_fill_24 : decode cX3_fill 24 = .ok (.return_, 1) := by decide +kernel
theorem dX3_sortPart_0 : decode cX3_sortPart 0 = .ok (.iload_n 1, 1) := by decide +kernel
theorem dX3_sortPart_1 : decode cX3_sortPart 1 = .ok (.iconst 0, 1) := by decide +kernel
theorem dX3_sortPart_2 : decode cX3_sortPart 2 = .ok (.invokestatic 7, 3) := by decide +kernel
theorem dX3_sortPart_5 : decode cX3_sortPart 5 = .ok (.istore_n 3, 1) := by decide +kernel
theorem dX3_sortPart_6 : decode cX3_sortPart 6 = .ok (.iload_n 2, 1) := by decide +kernel
theorem dX3_sortPart_7 : decode cX3_sortPart 7 = .ok (.aload_n 0, 1) := by decide +kernel
theorem dX3_sortPart_8 : decode cX3_sortPart 8 = .ok (.getfield 13, 3) := by decide +kernel
theorem dX3_sortPart_11 : decode cX3_sortPart 11 = .ok (.arraylength, 1) := by decide +kernel
theorem dX3_sortPart_12 : decode cX3_sortPart 12 = .ok (.invokestatic 19, 3) := by decide +kernel
theorem dX3_sortPart_15 : decode cX3_sortPart 15 = .ok (.istore 4, 2) := by decide +kernel
theorem dX3_sortPart_17 : decode cX3_sortPart 17 = .ok (.iload_n 3, 1) := by decide +kernel
theorem dX3_sortPart_18 : decode cX3_sortPart 18 = .ok (.istore 5, 2) := by decide +kernel
theorem dX3_sortPart_20 : decode cX3_sortPart 20 = .ok (.iload 5, 2) := by decide +kernel
theorem dX3_sortPart_22 : decode cX3_sortPart 22 = .ok (.iload 4, 2) := by decide +kernel
theorem dX3_sortPart_24 : decode cX3_sortPart 24 = .ok (.if_icmp .ge 73, 3) := by decide +kernel
theorem dX3_sortPart_27 : decode cX3_sortPart 27 = .ok (.aload_n 0, 1) := by decide +kernel
theorem dX3_sortPart_28 : decode cX3_sortPart 28 = .ok (.getfield 13, 3) := by decide +kernel
theorem dX3_sortPart_31 : decode cX3_sortPart 31 = .ok (.iload 5, 2) := by decide +kernel
theorem dX3_sortPart_33 : decode cX3_sortPart 33 = .ok (.iaload, 1) := by decide +kernel
theorem dX3_sortPart_34 : decode cX3_sortPart 34 = .ok (.istore 6, 2) := by decide +kernel
theorem dX3_sortPart_36 : decode cX3_sortPart 36 = .ok (.iload 5, 2) := by decide +kernel
theorem dX3_sortPart_38 : decode cX3_sortPart 38 = .ok (.istore 7, 2) := by decide +kernel
theorem dX3_sortPart_40 : decode cX3_sortPart 40 = .ok (.iload 7, 2) := by decide +kernel
theorem dX3_sortPart_42 : decode cX3_sortPart 42 = .ok (.iload_n 3, 1) := by decide +kernel
theorem dX3_sortPart_43 : decode cX3_sortPart 43 = .ok (.if_icmp .le 39, 3) := by decide +kernel
theorem dX3_sortPart_46 : decode cX3_sortPart 46 = .ok (.aload_n 0, 1) := by decide +kernel
theorem dX3_sortPart_47 : decode cX3_sortPart 47 = .ok (.getfield 13, 3) := by decide +kernel
theorem dX3_sortPart_50 : decode cX3_sortPart 50 = .ok (.iload 7, 2) := by decide +kernel
theorem dX3_sortPart_52 : decode cX3_sortPart 52 = .ok (.iconst 1, 1) := by decide +kernel
theorem dX3_sortPart_53 : decode cX3_sortPart 53 = .ok (.isub, 1) := by decide +kernel
theorem dX3_sortPart_54 : decode cX3_sortPart 54 = .ok (.iaload, 1) := by decide +kernel
theorem dX3_sortPart_55 : decode cX3_sortPart 55 = .ok (.iload 6, 2) := by decide +kernel
theorem dX3_sortPart_57 : decode cX3_sortPart 57 = .ok (.if_icmp .le 25, 3) := by decide +kernel
theorem dX3_sortPart_60 : decode cX3_sortPart 60 = .ok (.aload_n 0, 1) := by decide +kernel
theorem dX3_sortPart_61 : decode cX3_sortPart 61 = .ok (.getfield 13, 3) := by decide +kernel
theorem dX3_sortPart_64 : decode cX3_sortPart 64 = .ok (.iload 7, 2) := by decide +kernel
theorem dX3_sortPart_66 : decode cX3_sortPart 66 = .ok (.aload_n 0, 1) := by decide +kernel
theorem dX3_sortPart_67 : decode cX3_sortPart 67 = .ok (.getfield 13, 3) := by decide +kernel
theorem dX3_sortPart_70 : decode cX3_sortPart 70 = .ok (.iload 7, 2) := by decide +kernel
theorem dX3_sortPart_72 : decode cX3_sortPart 72 = .ok (.iconst 1, 1) := by decide +kernel
theorem dX3_sortPart_73 : decode cX3_sortPart 73 = .ok (.isub, 1) := by decide +kernel
theorem dX3_sortPart_74 : decode cX3_sortPart 74 = .ok (.iaload, 1) := by decide +kernel
theorem dX3_sortPart_75 : decode cX3_sortPart 75 = .ok (.iastore, 1) := by decide +kernel
theorem dX3_sortPart_76 : decode cX3_sortPart 76 = .ok (.iinc 7 (-1), 3) := by decide +kernel
theorem dX3_sortPart_79 : decode cX3_sortPart 79 = .ok (.goto (-39), 3) := by decide +kernel
theorem dX3_sortPart_82 : decode cX3_sortPart 82 = .ok (.aload_n 0, 1) := by decide +kernel
theorem dX3_sortPart_83 : decode cX3_sortPart 83 = .ok (.getfield 13, 3) := by decide +kernel
theorem dX3_sortPart_86 : decode cX3_sortPart 86 = .ok (.iload 7, 2) := by decide +kernel
theorem dX3_sortPart_88 : decode cX3_sortPart 88 = .ok (.iload 6, 2) := by decide +kernel
theorem dX3_sortPart_90 : decode cX3_sortPart 90 = .ok (.iastore, 1) := by decide +kernel
theorem dX3_sortPart_91 : decode cX3_sortPart 91 = .ok (.iinc 5 1, 3) := by decide +kernel
theorem dX3_sortPart_94 : decode cX3_sortPart 94 = .ok (.goto (-74), 3) := by decide +kernel
theorem dX3_sortPart_97 : decode cX3_sortPart 97 = .ok (.return_, 1) := by decide +kernel
theorem dX4_init_0 : decode cX4_init 0 = .ok (.aload_n 0, 1) := by decide +kernel
theorem dX4_init_1 : decode cX4_init 1 = .ok (.invokespecial 3, 3) := by decide +kernel
theorem dX4_init_4 : decode cX4_init 4 = .ok (.aload_n 0, 1) := by decide +kernel
theorem dX4_init_5 : decode cX4_init 5 = .ok (.new 9, 3) := by decide +kernel
theorem dX4_init_8 : decode cX4_init 8 = .ok (.dup, 1) := by decide +kernel
theorem dX4_init_9 : decode cX4_init 9 = .ok (.bipush 80, 2) := by decide +kernel
theorem dX4_init_11 : decode cX4_init 11 = .ok (.invokespecial 11, 3) := by decide +kernel
theorem dX4_init_14 : decode cX4_init 14 = .ok (.putfield 14, 3) := by decide +kernel
theorem dX4_init_17 : decode cX4_init 17 = .ok (.aload_n 0, 1) := by decide +kernel
theorem dX4_init_18 : decode cX4_init 18 = .ok (.new 20, 3) := by decide +kernel
theorem dX4_init_21 : decode cX4_init 21 = .ok (.dup, 1) := by decide +kernel
theorem dX4_init_22 : decode cX4_init 22 = .ok (.bipush 80, 2) := by decide +kernel
theorem dX4_init_24 : decode cX4_init 24 = .ok (.invokespecial 22, 3) := by decide +kernel
theorem dX4_init_27 : decode cX4_init 27 = .ok (.putfield 23, 3) := by decide +kernel
theorem dX4_init_30 : decode cX4_init 30 = .ok (.aload_n 0, 1) := by decide +kernel
theorem dX4_init_31 : decode cX4_init 31 = .ok (.new 20, 3) := by decide +kernel
theorem dX4_init_34 : decode cX4_init 34 = .ok (.dup, 1) := by decide +kernel
theorem dX4_init_35 : decode cX4_init 35 = .ok (.bipush 80, 2) := by decide +kernel
theorem dX4_init_37 : decode cX4_init 37 = .ok (.invokespecial 22, 3) := by decide +kernel
theorem dX4_init_40 : decode cX4_init 40 = .ok (.putfield 27, 3) := by decide +kernel
theorem dX4_init_43 : decode cX4_init 43 = .ok (.aload_n 0, 1) := by decide +kernel
theorem dX4_init_44 : decode cX4_init 44 = .ok (.new 20, 3) := by decide +kernel
theorem dX4_init_47 : decode cX4_init 47 = .ok (.dup, 1) := by decide +kernel
theorem dX4_init_48 : decode cX4_init 48 = .ok (.bipush 80, 2) := by decide +kernel
theorem dX4_init_50 : decode cX4_init 50 = .ok (.invokespecial 22, 3) := by decide +kernel
theorem dX4_init_53 : decode cX4_init 53 = .ok (.putfield 30, 3) := by decide +kernel
theorem dX4_init_56 : decode cX4_init 56 = .ok (.aload_n 0, 1) := by decide +kernel
theorem dX4_init_57 : decode cX4_init 57 = .ok (.new 20, 3) := by decide +kernel
theorem dX4_init_60 : decode cX4_init 60 = .ok (.dup, 1) := by decide +kernel
theorem dX4_init_61 : decode cX4_init 61 = .ok (.bipush 80, 2) := by decide +kernel
theorem dX4_init_63 : decode cX4_init 63 = .ok (.invokespecial 22, 3) := by decide +kernel
theorem dX4_init_66 : decode cX4_init 66 = .ok (.putfield 33, 3) := by decide +kernel
theorem dX4_init_69 : decode cX4_init 69 = .ok (.return_, 1) := by decide +kernel
theorem dX4_add_0 : decode cX4_add 0 = .ok (.aload_n 0, 1) := by decide +kernel
theorem dX4_add_1 : decode cX4_add 1 = .ok (.getfield 36, 3) := by decide +kernel
theorem dX4_add_4 : decode cX4_add 4 = .ok (.istore_n 3, 1) := by decide +kernel
theorem dX4_add_5 : decode cX4_add 5 = .ok (.aload_n 0, 1) := by decide +kernel
theorem dX4_add_6 : decode cX4_add 6 = .ok (.getfield 23, 3) := by decide +kernel
theorem dX4_add_9 : decode cX4_add 9 = .ok (.iload_n 3, 1) := by decide +kernel
theorem dX4_add_10 : decode cX4_add 10 = .ok (.iload_n 1, 1) := by decide +kernel
theorem dX4_add_11 : decode cX4_add 11 = .ok (.invokevirtual 40, 3) := by decide +kernel
theorem dX4_add_14 : decode cX4_add 14 = .ok (.aload_n 0, 1) := by decide +kernel
theorem dX4_add_15 : decode cX4_add 15 = .ok (.getfield 27, 3) := by decide +kernel
theorem dX4_add_18 : decode cX4_add 18 = .ok (.iload_n 3, 1) := by decide +kernel
theorem dX4_add_19 : decode cX4_add 19 = .ok (.iload_n 2, 1) := by decide +kernel
theorem dX4_add_20 : decode cX4_add 20 = .ok (.invokevirtual 40, 3) := by decide +kernel
theorem dX4_add_23 : decode cX4_add 23 = .ok (.aload_n 0, 1) := by decide +kernel
theorem dX4_add_24 : decode cX4_add 24 = .ok (.dup, 1) := by decide +kernel
theorem dX4_add_25 : decode cX4_add 25 = .ok (.getfield 36, 3) := by decide +kernel
theorem dX4_add_28 : decode cX4_add 28 = .ok (.iconst 1, 1) := by decide +kernel
theorem dX4_add_29 : decode cX4_add 29 = .ok (.iadd, 1) := by decide +kernel
theorem dX4_add_30 : decode cX4_add 30 = .ok (.putfield 36, 3) := by decide +kernel
theorem dX4_add_33 : decode cX4_add 33 = .ok (.iload_n 3, 1) := by decide +kernel
theorem dX4_add_34 : decode cX4_add 34 = .ok (.ireturn, 1) := by decide +kernel
theorem dX4_isIn_0 : decode cX4_isIn 0 = .ok (.aload_n 0, 1) := by decide +kernel
theorem dX4_isIn_1 : decode cX4_isIn 1 = .ok (.getfield 23, 3) := by decide +kernel
theorem dX4_isIn_4 : decode cX4_isIn 4 = .ok (.iload_n 1, 1) := by decide +kernel
theorem dX4_isIn_5 : decode cX4_isIn 5 = .ok (.invokevirtual 44, 3) := by decide +kernel
theorem dX4_isIn_8 : decode cX4_isIn 8 = .ok (.iload_n 2, 1) := by decide +kernel
theorem dX4_isIn_9 : decode cX4_isIn 9 = .ok (.if_icmp .ne 7, 3) := by decide +kernel
theorem dX4_isIn_12 : decode cX4_isIn 12 = .ok (.iconst 1, 1) := by decide +kernel
theorem dX4_isIn_13 : decode cX4_isIn 13 = .ok (.goto 4, 3) := by decide +kernel
theorem dX4_isIn_16 : decode cX4_isIn 16 = .ok (.iconst 0, 1) := by decide +kernel
theorem dX4_isIn_17 : decode cX4_isIn 17 = .ok (.ireturn, 1) := by decide +kernel
theorem dX4_countIn_0 : decode cX4_countIn 0 = .ok (.iconst 0, 1) := by decide +kernel
theorem dX4_countIn_1 : decode cX4_countIn 1 = .ok (.istore_n 2, 1) := by decide +kernel
theorem dX4_countIn_2 : decode cX4_countIn 2 = .ok (.iconst 0, 1) := by decide +kernel
theorem dX4_countIn_3 : decode cX4_countIn 3 = .ok (.istore_n 3, 1) := by decide +kernel
theorem dX4_countIn_4 : decode cX4_countIn 4 = .ok (.iload_n 3, 1) := by decide +kernel
theorem dX4_countIn_5 : decode cX4_countIn 5 = .ok (.aload_n 0, 1) := by decide +kernel
theorem dX4_countIn_6 : decode cX4_countIn 6 = .ok (.getfield 36, 3) := by decide +kernel
theorem dX4_countIn_9 : decode cX4_countIn 9 = .ok (.if_icmp .ge 21, 3) := by decide +kernel
theorem dX4_countIn_12 : decode cX4_countIn 12 = .ok (.aload_n 0, 1) := by decide +kernel
theorem dX4_countIn_13 : decode cX4_countIn 13 = .ok (.iload_n 3, 1) := by decide +kernel
theorem dX4_countIn_14 : decode cX4_countIn 14 = .ok (.iload_n 1, 1) := by decide +kernel
theorem dX4_countIn_15 : decode cX4_countIn 15 = .ok (.invokevirtual 48, 3) := by decide +kernel
theorem dX4_countIn_18 : decode cX4_countIn 18 = .ok (.ifCond .eq 6, 3) := by decide +kernel
theorem dX4_countIn_21 : decode cX4_countIn 21 = .ok (.iinc 2 1, 3) := by decide +kernel
theorem dX4_countIn_24 : decode cX4_countIn 24 = .ok (.iinc 3 1, 3) := by decide +kernel
theorem dX4_countIn_27 : decode cX4_countIn 27 = .ok (.goto (-23), 3) := by decide +kernel
theorem dX4_countIn_30 : decode cX4_countIn 30 = .ok (.iload_n 2, 1) := by decide +kernel
theorem dX4_countIn_31 : decode cX4_countIn 31 = .ok (.ireturn, 1) := by decide +kernel
theorem dX4_countMeeting_0 : decode cX4_countMeeting 0 = .ok (.iconst 0, 1) := by decide +kernel
theorem dX4_countMeeting_1 : decode cX4_countMeeting 1 = .ok (.istore 6, 2) := by decide +kernel
theorem dX4_countMeeting_3 : decode cX4_countMeeting 3 = .ok (.iconst 0, 1) := by decide +kernel
theorem dX4_countMeeting_4 : decode cX4_countMeeting 4 = .ok (.istore 7, 2) := by decide +kernel
theorem dX4_countMeeting_6 : decode cX4_countMeeting 6 = .ok (.iload 7, 2) := by decide +kernel
theorem dX4_countMeeting_8 : decode cX4_countMeeting 8 = .ok (.aload_n 0, 1) := by decide +kernel
theorem dX4_countMeeting_9 : decode cX4_countMeeting 9 = .ok (.getfield 36, 3) := by decide +kernel
theorem dX4_countMeeting_12 : decode cX4_countMeeting 12 = .ok (.if_icmp .ge 40, 3) := by decide +kernel
theorem dX4_countMeeting_15 : decode cX4_countMeeting 15 = .ok (.aload_n 0, 1) := by decide +kernel
theorem dX4_countMeeting_16 : decode cX4_countMeeting 16 = .ok (.iload 7, 2) := by decide +kernel
theorem dX4_countMeeting_18 : decode cX4_countMeeting 18 = .ok (.iload_n 1, 1) := by decide +kernel
theorem dX4_countMeeting_19 : decode cX4_countMeeting 19 = .ok (.invokevirtual 48, 3) := by decide +kernel
theorem dX4_countMeeting_22 : decode cX4_countMeeting 22 = .ok (.ifCond .eq 24, 3) := by decide +kernel
theorem dX4_countMeeting_25 : decode cX4_countMeeting 25 = .ok (.aload_n 0, 1) := by decide +kernel
theorem dX4_countMeeting_26 : decode cX4_countMeeting 26 = .ok (.getfield 14, 3) := by decide +kernel
theorem dX4_countMeeting_29 : decode cX4_countMeeting 29 = .ok (.iload 7, 2) := by decide +kernel
theorem dX4_countMeeting_31 : decode cX4_countMeeting 31 = .ok (.iload_n 2, 1) := by decide +kernel
theorem dX4_countMeeting_32 : decode cX4_countMeeting 32 = .ok (.iload_n 3, 1) := by decide +kernel
theorem dX4_countMeeting_33 : decode cX4_countMeeting 33 = .ok (.iload 4, 2) := by decide +kernel
theorem dX4_countMeeting_35 : decode cX4_countMeeting 35 = .ok (.iload 5, 2) := by decide +kernel
theorem dX4_countMeeting_37 : decode cX4_countMeeting 37 = .ok (.invokevirtual 52, 3) := by decide +kernel
theorem dX4_countMeeting_40 : decode cX4_countMeeting 40 = .ok (.ifCond .ne 6, 3) := by decide +kernel
theorem dX4_countMeeting_43 : decode cX4_countMeeting 43 = .ok (.iinc 6 1, 3) := by decide +kernel
theorem dX4_countMeeting_46 : decode cX4_countMeeting 46 = .ok (.iinc 7 1, 3) := by decide +kernel
theorem dX4_countMeeting_49 : decode cX4_countMeeting 49 = .ok (.goto (-43), 3) := by decide +kernel
theorem dX4_countMeeting_52 : decode cX4_countMeeting 52 = .ok (.iload 6, 2) := by decide +kernel
theorem dX4_countMeeting_54 : decode cX4_countMeeting 54 = .ok (.ireturn, 1) := by decide +kernel
theorem dX4_sortByFar_0 : decode cX4_sortByFar 0 = .ok (.iconst 0, 1) := by decide +kernel
theorem dX4_sortByFar_1 : decode cX4_sortByFar 1 = .ok (.istore 4, 2) := by decide +kernel
theorem dX4_sortByFar_3 : decode cX4_sortByFar 3 = .ok (.iconst 0, 1) := by decide +kernel
theorem dX4_sortByFar_4 : decode cX4_sortByFar 4 = .ok (.istore 5, 2) := by decide +kernel
theorem dX4_sortByFar_6 : decode cX4_sortByFar 6 = .ok (.iload 5, 2) := by decide +kernel
theorem dX4_sortByFar_8 : decode cX4_sortByFar 8 = .ok (.aload_n 0, 1) := by decide +kernel
theorem dX4_sortByFar_9 : decode cX4_sortByFar 9 = .ok (.getfield 36, 3) := by decide +kernel
theorem dX4_sortByFar_12 : decode cX4_sortByFar 12 = .ok (.if_icmp .ge 51, 3) := by decide +kernel
theorem dX4_sortByFar_15 : decode cX4_sortByFar 15 = .ok (.aload_n 0, 1) := by decide +kernel
theorem dX4_sortByFar_16 : decode cX4_sortByFar 16 = .ok (.iload 5, 2) := by decide +kernel
theorem dX4_sortByFar_18 : decode cX4_sortByFar 18 = .ok (.iload_n 1, 1) := by decide +kernel
theorem dX4_sortByFar_19 : decode cX4_sortByFar 19 = .ok (.invokevirtual 48, 3) := by decide +kernel
theorem dX4_sortByFar_22 : decode cX4_sortByFar 22 = .ok (.ifCond .eq 35, 3) := by decide +kernel
theorem dX4_sortByFar_25 : decode cX4_sortByFar 25 = .ok (.aload_n 0, 1) := by decide +kernel
theorem dX4_sortByFar_26 : decode cX4_sortByFar 26 = .ok (.getfield 30, 3) := by decide +kernel
theorem dX4_sortByFar_29 : decode cX4_sortByFar 29 = .ok (.iload 4, 2) := by decide +kernel
theorem dX4_sortByFar_31 : decode cX4_sortByFar 31 = .ok (.aload_n 0, 1) := by decide +kernel
theorem dX4_sortByFar_32 : decode cX4_sortByFar 32 = .ok (.getfield 14, 3) := by decide +kernel
theorem dX4_sortByFar_35 : decode cX4_sortByFar 35 = .ok (.iload 5, 2) := by decide +kernel
theorem dX4_sortByFar_37 : decode cX4_sortByFar 37 = .ok (.iload_n 2, 1) := by decide +kernel
theorem dX4_sortByFar_38 : decode cX4_sortByFar 38 = .ok (.iload_n 3, 1) := by decide +kernel
theorem dX4_sortByFar_39 : decode cX4_sortByFar 39 = .ok (.iconst 0, 1) := by decide +kernel
theorem dX4_sortByFar_40 : decode cX4_sortByFar 40 = .ok (.iconst 0, 1) := by decide +kernel
theorem dX4_sortByFar_41 : decode cX4_sortByFar 41 = .ok (.invokevirtual 52, 3) := by decide +kernel
theorem dX4_sortByFar_44 : decode cX4_sortByFar 44 = .ok (.sipush 128, 3) := by decide +kernel
theorem dX4_sortByFar_47 : decode cX4_sortByFar 47 = .ok (.imul, 1) := by decide +kernel
theorem dX4_sortByFar_48 : decode cX4_sortByFar 48 = .ok (.iload 5, 2) := by decide +kernel
theorem dX4_sortByFar_50 : decode cX4_sortByFar 50 = .ok (.iadd, 1) := by decide +kernel
theorem dX4_sortByFar_51 : decode cX4_sortByFar 51 = .ok (.invokevirtual 40, 3) := by decide +kernel
theorem dX4_sortByFar_54 : decode cX4_sortByFar 54 = .ok (.iinc 4 1, 3) := by decide +kernel
theorem dX4_sortByFar_57 : decode cX4_sortByFar 57 = .ok (.iinc 5 1, 3) := by decide +kernel
theorem dX4_sortByFar_60 : decode cX4_sortByFar 60 = .ok (.goto (-54), 3) := by decide +kernel
theorem dX4_sortByFar_63 : decode cX4_sortByFar 63 = .ok (.aload_n 0, 1) := by decide +kernel
theorem dX4_sortByFar_64 : decode cX4_sortByFar 64 = .ok (.getfield 30, 3) := by decide +kernel
theorem dX4_sortByFar_67 : decode cX4_sortByFar 67 = .ok (.iconst 0, 1) := by decide +kernel
theorem dX4_sortByFar_68 : decode cX4_sortByFar 68 = .ok (.iload 4, 2) := by decide +kernel
theorem dX4_sortByFar_70 : decode cX4_sortByFar 70 = .ok (.invokevirtual 56, 3) := by decide +kernel
theorem dX4_sortByFar_73 : decode cX4_sortByFar 73 = .ok (.iload 4, 2) := by decide +kernel
theorem dX4_sortByFar_75 : decode cX4_sortByFar 75 = .ok (.ireturn, 1) := by decide +kernel
theorem dX4_countPairs_0 : decode cX4_countPairs 0 = .ok (.iconst 0, 1) := by decide +kernel
theorem dX4_countPairs_1 : decode cX4_countPairs 1 = .ok (.istore 4, 2) := by decide +kernel
theorem dX4_countPairs_3 : decode cX4_countPairs 3 = .ok (.iconst 0, 1) := by decide +kernel
theorem dX4_countPairs_4 : decode cX4_countPairs 4 = .ok (.istore 5, 2) := by decide +kernel
theorem dX4_countPairs_6 : decode cX4_countPairs 6 = .ok (.iload 5, 2) := by decide +kernel
theorem dX4_countPairs_8 : decode cX4_countPairs 8 = .ok (.aload_n 0, 1) := by decide +kernel
theorem dX4_countPairs_9 : decode cX4_countPairs 9 = .ok (.getfield 36, 3) := by decide +kernel
theorem dX4_countPairs_12 : decode cX4_countPairs 12 = .ok (.if_icmp .ge 49, 3) := by decide +kernel
theorem dX4_countPairs_15 : decode cX4_countPairs 15 = .ok (.aload_n 0, 1) := by decide +kernel
theorem dX4_countPairs_16 : decode cX4_countPairs 16 = .ok (.iload 5, 2) := by decide +kernel
theorem dX4_countPairs_18 : decode cX4_countPairs 18 = .ok (.iload_n 1, 1) := by decide +kernel
theorem dX4_countPairs_19 : decode cX4_countPairs 19 = .ok (.invokevirtual 48, 3) := by decide +kernel
theorem dX4_countPairs_22 : decode cX4_countPairs 22 = .ok (.ifCond .eq 33, 3) := by decide +kernel
theorem dX4_countPairs_25 : decode cX4_countPairs 25 = .ok (.iload_n 1, 1) := by decide +kernel
theorem dX4_countPairs_26 : decode cX4_countPairs 26 = .ok (.iload_n 2, 1) := by decide +kernel
theorem dX4_countPairs_27 : decode cX4_countPairs 27 = .ok (.if_icmp .ne 10, 3) := by decide +kernel
theorem dX4_countPairs_30 : decode cX4_countPairs 30 = .ok (.iload 5, 2) := by decide +kernel
theorem dX4_countPairs_32 : decode cX4_countPairs 32 = .ok (.iconst 1, 1) := by decide +kernel
theorem dX4_countPairs_33 : decode cX4_countPairs 33 = .ok (.iadd, 1) := by decide +kernel
theorem dX4_countPairs_34 : decode cX4_countPairs 34 = .ok (.goto 4, 3) := by decide +kernel
theorem dX4_countPairs_37 : decode cX4_countPairs 37 = .ok (.iconst 0, 1) := by decide +kernel
theorem dX4_countPairs_38 : decode cX4_countPairs 38 = .ok (.istore 6, 2) := by decide +kernel
theorem dX4_countPairs_40 : decode cX4_countPairs 40 = .ok (.iload 4, 2) := by decide +kernel
theorem dX4_countPairs_42 : decode cX4_countPairs 42 = .ok (.aload_n 0, 1) := by decide +kernel
theorem dX4_countPairs_43 : decode cX4_countPairs 43 = .ok (.iload 5, 2) := by decide +kernel
theorem dX4_countPairs_45 : decode cX4_countPairs 45 = .ok (.iload 6, 2) := by decide +kernel
theorem dX4_countPairs_47 : decode cX4_countPairs 47 = .ok (.iload_n 2, 1) := by decide +kernel
theorem dX4_countPairs_48 : decode cX4_countPairs 48 = .ok (.iload_n 3, 1) := by decide +kernel
theorem dX4_countPairs_49 : decode cX4_countPairs 49 = .ok (.invokevirtual 59, 3) := by decide +kernel
theorem dX4_countPairs_52 : decode cX4_countPairs 52 = .ok (.iadd, 1) := by decide +kernel
theorem dX4_countPairs_53 : decode cX4_countPairs 53 = .ok (.istore 4, 2) := by decide +kernel
theorem dX4_countPairs_55 : decode cX4_countPairs 55 = .ok (.iinc 5 1, 3) := by decide +kernel
theorem dX4_countPairs_58 : decode cX4_countPairs 58 = .ok (.goto (-52), 3) := by decide +kernel
theorem dX4_countPairs_61 : decode cX4_countPairs 61 = .ok (.iload 4, 2) := by decide +kernel
theorem dX4_countPairs_63 : decode cX4_countPairs 63 = .ok (.ireturn, 1) := by decide +kernel
theorem dX4_countNear_0 : decode cX4_countNear 0 = .ok (.iconst 0, 1) := by decide +kernel
theorem dX4_countNear_1 : decode cX4_countNear 1 = .ok (.istore 5, 2) := by decide +kernel
theorem dX4_countNear_3 : decode cX4_countNear 3 = .ok (.iload_n 2, 1) := by decide +kernel
theorem dX4_countNear_4 : decode cX4_countNear 4 = .ok (.istore 6, 2) := by decide +kernel
theorem dX4_countNear_6 : decode cX4_countNear 6 = .ok (.iload 6, 2) := by decide +kernel
theorem dX4_countNear_8 : decode cX4_countNear 8 = .ok (.aload_n 0, 1) := by decide +kernel
theorem dX4_countNear_9 : decode cX4_countNear 9 = .ok (.getfield 36, 3) := by decide +kernel
theorem dX4_countNear_12 : decode cX4_countNear 12 = .ok (.if_icmp .ge 41, 3) := by decide +kernel
theorem dX4_countNear_15 : decode cX4_countNear 15 = .ok (.aload_n 0, 1) := by decide +kernel
theorem dX4_countNear_16 : decode cX4_countNear 16 = .ok (.iload 6, 2) := by decide +kernel
theorem dX4_countNear_18 : decode cX4_countNear 18 = .ok (.iload_n 3, 1) := by decide +kernel
theorem dX4_countNear_19 : decode cX4_countNear 19 = .ok (.invokevirtual 48, 3) := by decide +kernel
theorem dX4_countNear_22 : decode cX4_countNear 22 = .ok (.ifCond .eq 25, 3) := by decide +kernel
theorem dX4_countNear_25 : decode cX4_countNear 25 = .ok (.aload_n 0, 1) := by decide +kernel
theorem dX4_countNear_26 : decode cX4_countNear 26 = .ok (.getfield 14, 3) := by decide +kernel
theorem dX4_countNear_29 : decode cX4_countNear 29 = .ok (.iload_n 1, 1) := by decide +kernel
theorem dX4_countNear_30 : decode cX4_countNear 30 = .ok (.aload_n 0, 1) := by decide +kernel
theorem dX4_countNear_31 : decode cX4_countNear 31 = .ok (.getfield 14, 3) := by decide +kernel
theorem dX4_countNear_34 : decode cX4_countNear 34 = .ok (.iload 6, 2) := by decide +kernel
theorem dX4_countNear_36 : decode cX4_countNear 36 = .ok (.invokevirtual 63, 3) := by decide +kernel
theorem dX4_countNear_39 : decode cX4_countNear 39 = .ok (.iload 4, 2) := by decide +kernel
theorem dX4_countNear_41 : decode cX4_countNear 41 = .ok (.if_icmp .gt 6, 3) := by decide +kernel
theorem dX4_countNear_44 : decode cX4_countNear 44 = .ok (.iinc 5 1, 3) := by decide +kernel
theorem dX4_countNear_47 : decode cX4_countNear 47 = .ok (.iinc 6 1, 3) := by decide +kernel
theorem dX4_countNear_50 : decode cX4_countNear 50 = .ok (.goto (-44), 3) := by decide +kernel
theorem dX4_countNear_53 : decode cX4_countNear 53 = .ok (.iload 5, 2) := by decide +kernel
theorem dX4_countNear_55 : decode cX4_countNear 55 = .ok (.ireturn, 1) := by decide +kernel
theorem dX4_gatherClusters_0 : decode cX4_gatherClusters 0 = .ok (.iconst 0, 1) := by decide +kernel
theorem dX4_gatherClusters_1 : decode cX4_gatherClusters 1 = .ok (.istore_n 3, 1) := by decide +kernel
theorem dX4_gatherClusters_2 : decode cX4_gatherClusters 2 = .ok (.iload_n 3, 1) := by decide +kernel
theorem dX4_gatherClusters_3 : decode cX4_gatherClusters 3 = .ok (.aload_n 0, 1) := by decide +kernel
theorem dX4_gatherClusters_4 : decode cX4_gatherClusters 4 = .ok (.getfield 36, 3) := by decide +kernel
theorem dX4_gatherClusters_7 : decode cX4_gatherClusters 7 = .ok (.if_icmp .ge 103, 3) := by decide +kernel
theorem dX4_gatherClusters_10 : decode cX4_gatherClusters 10 = .ok (.aload_n 0, 1) := by decide +kernel
theorem dX4_gatherClusters_11 : decode cX4_gatherClusters 11 = .ok (.getfield 33, 3) := by decide +kernel
theorem dX4_gatherClusters_14 : decode cX4_gatherClusters 14 = .ok (.iload_n 3, 1) := by decide +kernel
theorem dX4_gatherClusters_15 : decode cX4_gatherClusters 15 = .ok (.iload_n 3, 1) := by decide +kernel
theorem dX4_gatherClusters_16 : decode cX4_gatherClusters 16 = .ok (.invokevirtual 40, 3) := by decide +kernel
theorem dX4_gatherClusters_19 : decode cX4_gatherClusters 19 = .ok (.iconst 0, 1) := by decide +kernel
theorem dX4_gatherClusters_20 : decode cX4_gatherClusters 20 = .ok (.istore 4, 2) := by decide +kernel
theorem dX4_gatherClusters_22 : decode cX4_gatherClusters 22 = .ok (.iload 4, 2) := by decide +kernel
theorem dX4_gatherClusters_24 : decode cX4_gatherClusters 24 = .ok (.iload_n 3, 1) := by decide +kernel
theorem dX4_gatherClusters_25 : decode cX4_gatherClusters 25 = .ok (.if_icmp .ge 79, 3) := by decide +kernel
theorem dX4_gatherClusters_28 : decode cX4_gatherClusters 28 = .ok (.aload_n 0, 1) := by decide +kernel
theorem dX4_gatherClusters_29 : decode cX4_gatherClusters 29 = .ok (.iload_n 3, 1) := by decide +kernel
theorem dX4_gatherClusters_30 : decode cX4_gatherClusters 30 = .ok (.iload_n 1, 1) := by decide +kernel
theorem dX4_gatherClusters_31 : decode cX4_gatherClusters 31 = .ok (.invokevirtual 48, 3) := by decide +kernel
theorem dX4_gatherClusters_34 : decode cX4_gatherClusters 34 = .ok (.ifCond .eq 17, 3) := by decide +kernel
theorem dX4_gatherClusters_37 : decode cX4_gatherClusters 37 = .ok (.aload_n 0, 1) := by decide +kernel
theorem dX4_gatherClusters_38 : decode cX4_gatherClusters 38 = .ok (.iload 4, 2) := by decide +kernel
theorem dX4_gatherClusters_40 : decode cX4_gatherClusters 40 = .ok (.iload_n 1, 1) := by decide +kernel
theorem dX4_gatherClusters_41 : decode cX4_gatherClusters 41 = .ok (.invokevirtual 48, 3) := by decide +kernel
theorem dX4_gatherClusters_44 : decode cX4_gatherClusters 44 = .ok (.ifCond .eq 7, 3) := by decide +kernel
theorem dX4_gatherClusters_47 : decode cX4_gatherClusters 47 = .ok (.iconst 1, 1) := by decide +kernel
theorem dX4_gatherClusters_48 : decode cX4_gatherClusters 48 = .ok (.goto 4, 3) := by decide +kernel
theorem dX4_gatherClusters_51 : decode cX4_gatherClusters 51 = .ok (.iconst 0, 1) := by decide +kernel
theorem dX4_gatherClusters_52 : decode cX4_gatherClusters 52 = .ok (.istore 5, 2) := by decide +kernel
theorem dX4_gatherClusters_54 : decode cX4_gatherClusters 54 = .ok (.iload 5, 2) := by decide +kernel
theorem dX4_gatherClusters_56 : decode cX4_gatherClusters 56 = .ok (.ifCond .eq 42, 3) := by decide +kernel
theorem dX4_gatherClusters_59 : decode cX4_gatherClusters 59 = .ok (.aload_n 0, 1) := by decide +kernel
theorem dX4_gatherClusters_60 : decode cX4_gatherClusters 60 = .ok (.getfield 14, 3) := by decide +kernel
theorem dX4_gatherClusters_63 : decode cX4_gatherClusters 63 = .ok (.iload_n 3, 1) := by decide +kernel
theorem dX4_gatherClusters_64 : decode cX4_gatherClusters 64 = .ok (.aload_n 0, 1) := by decide +kernel
theorem dX4_gatherClusters_65 : decode cX4_gatherClusters 65 = .ok (.getfield 14, 3) := by decide +kernel
theorem dX4_gatherClusters_68 : decode cX4_gatherClusters 68 = .ok (.iload 4, 2) := by decide +kernel
theorem dX4_gatherClusters_70 : decode cX4_gatherClusters 70 = .ok (.invokevirtual 63, 3) := by decide +kernel
theorem dX4_gatherClusters_73 : decode cX4_gatherClusters 73 = .ok (.iload_n 2, 1) := by decide +kernel
theorem dX4_gatherClusters_74 : decode cX4_gatherClusters 74 = .ok (.if_icmp .gt 24, 3) := by decide +kernel
theorem dX4_gatherClusters_77 : decode cX4_gatherClusters 77 = .ok (.aload_n 0, 1) := by decide +kernel
theorem dX4_gatherClusters_78 : decode cX4_gatherClusters 78 = .ok (.aload_n 0, 1) := by decide +kernel
theorem dX4_gatherClusters_79 : decode cX4_gatherClusters 79 = .ok (.getfield 33, 3) := by decide +kernel
theorem dX4_gatherClusters_82 : decode cX4_gatherClusters 82 = .ok (.iload_n 3, 1) := by decide +kernel
theorem dX4_gatherClusters_83 : decode cX4_gatherClusters 83 = .ok (.invokevirtual 44, 3) := by decide +kernel
theorem dX4_gatherClusters_86 : decode cX4_gatherClusters 86 = .ok (.aload_n 0, 1) := by decide +kernel
theorem dX4_gatherClusters_87 : decode cX4_gatherClusters 87 = .ok (.getfield 33, 3) := by decide +kernel
theorem dX4_gatherClusters_90 : decode cX4_gatherClusters 90 = .ok (.iload 4, 2) := by decide +kernel
theorem dX4_gatherClusters_92 : decode cX4_gatherClusters 92 = .ok (.invokevirtual 44, 3) := by decide +kernel
theorem dX4_gatherClusters_95 : decode cX4_gatherClusters 95 = .ok (.invokevirtual 67, 3) := by decide +kernel
theorem dX4_gatherClusters_98 : decode cX4_gatherClusters 98 = .ok (.iinc 4 1, 3) := by decide +kernel
theorem dX4_gatherClusters_101 : decode cX4_gatherClusters 101 = .ok (.goto (-79), 3) := by decide +kernel
theorem dX4_gatherClusters_104 : decode cX4_gatherClusters 104 = .ok (.iinc 3 1, 3) := by decide +kernel
theorem dX4_gatherClusters_107 : decode cX4_gatherClusters 107 = .ok (.goto (-105), 3) := by decide +kernel
theorem dX4_gatherClusters_110 : decode cX4_gatherClusters 110 = .ok (.return_, 1) := by decide +kernel
theorem dX4_joinClusters_0 : decode cX4_joinClusters 0 = .ok (.iload_n 1, 1) := by decide +kernel
theorem dX4_joinClusters_1 : decode cX4_joinClusters 1 = .ok (.iload_n 2, 1) := by decide +kernel
theorem dX4_joinClusters_2 : decode cX4_joinClusters 2 = .ok (.if_icmp .ne 4, 3) := by decide +kernel
theorem dX4_joinClusters_5 : decode cX4_joinClusters 5 = .ok (.return_, 1) := by decide +kernel
theorem dX4_joinClusters_6 : decode cX4_joinClusters 6 = .ok (.iload_n 1, 1) := by decide +kernel
theorem dX4_joinClusters_7 : decode cX4_joinClusters 7 = .ok (.iload_n 2, 1) := by decide +kernel
theorem dX4_joinClusters_8 : decode cX4_joinClusters 8 = .ok (.invokestatic 70, 3) := by decide +kernel
theorem dX4_joinClusters_11 : decode cX4_joinClusters 11 = .ok (.istore_n 3, 1) := by decide +kernel
theorem dX4_joinClusters_12 : decode cX4_joinClusters 12 = .ok (.iload_n 1, 1) := by decide +kernel
theorem dX4_joinClusters_13 : decode cX4_joinClusters 13 = .ok (.iload_n 2, 1) := by decide +kernel
theorem dX4_joinClusters_14 : decode cX4_joinClusters 14 = .ok (.invokestatic 76, 3) := by decide +kernel
theorem dX4_joinClusters_17 : decode cX4_joinClusters 17 = .ok (.istore 4, 2) := by decide +kernel
theorem dX4_joinClusters_19 : decode cX4_joinClusters 19 = .ok (.iconst 0, 1) := by decide +kernel
theorem dX4_joinClusters_20 : decode cX4_joinClusters 20 = .ok (.istore 5, 2) := by decide +kernel
theorem dX4_joinClusters_22 : decode cX4_joinClusters 22 = .ok (.iload 5, 2) := by decide +kernel
theorem dX4_joinClusters_24 : decode cX4_joinClusters 24 = .ok (.aload_n 0, 1) := by decide +kernel
theorem dX4_joinClusters_25 : decode cX4_joinClusters 25 = .ok (.getfield 36, 3) := by decide +kernel
theorem dX4_joinClusters_28 : decode cX4_joinClusters 28 = .ok (.if_icmp .ge 33, 3) := by decide +kernel
theorem dX4_joinClusters_31 : decode cX4_joinClusters 31 = .ok (.aload_n 0, 1) := by decide +kernel
theorem dX4_joinClusters_32 : decode cX4_joinClusters 32 = .ok (.getfield 33, 3) := by decide +kernel
theorem dX4_joinClusters_35 : decode cX4_joinClusters 35 = .ok (.iload 5, 2) := by decide +kernel
theorem dX4_joinClusters_37 : decode cX4_joinClusters 37 = .ok (.invokevirtual 44, 3) := by decide +kernel
theorem dX4_joinClusters_40 : decode cX4_joinClusters 40 = .ok (.iload 4, 2) := by decide +kernel
theorem dX4_joinClusters_42 : decode cX4_joinClusters 42 = .ok (.if_icmp .ne 13, 3) := by decide +kernel
theorem dX4_joinClusters_45 : decode cX4_joinClusters 45 = .ok (.aload_n 0, 1) := by decide +kernel
theorem dX4_joinClusters_46 : decode cX4_joinClusters 46 = .ok (.getfield 33, 3) := by decide +kernel
theorem dX4_joinClusters_49 : decode cX4_joinClusters 49 = .ok (.iload 5, 2) := by decide +kernel
theorem dX4_joinClusters_51 : decode cX4_joinClusters 51 = .ok (.iload_n 3, 1) := by decide +kernel
theorem dX4_joinClusters_52 : decode cX4_joinClusters 52 = .ok (.invokevirtual 40, 3) := by decide +kernel
theorem dX4_joinClusters_55 : decode cX4_joinClusters 55 = .ok (.iinc 5 1, 3) := by decide +kernel
theorem dX4_joinClusters_58 : decode cX4_joinClusters 58 = .ok (.goto (-36), 3) := by decide +kernel
theorem dX4_joinClusters_61 : decode cX4_joinClusters 61 = .ok (.return_, 1) := by decide +kernel
theorem dX4_countClusters_0 : decode cX4_countClusters 0 = .ok (.iconst 0, 1) := by decide +kernel
theorem dX4_countClusters_1 : decode cX4_countClusters 1 = .ok (.istore_n 2, 1) := by decide +kernel
theorem dX4_countClusters_2 : decode cX4_countClusters 2 = .ok (.iconst 0, 1) := by decide +kernel
theorem dX4_countClusters_3 : decode cX4_countClusters 3 = .ok (.istore_n 3, 1) := by decide +kernel
theorem dX4_countClusters_4 : decode cX4_countClusters 4 = .ok (.iload_n 3, 1) := by decide +kernel
theorem dX4_countClusters_5 : decode cX4_countClusters 5 = .ok (.aload_n 0, 1) := by decide +kernel
theorem dX4_countClusters_6 : decode cX4_countClusters 6 = .ok (.getfield 36, 3) := by decide +kernel
theorem dX4_countClusters_9 : decode cX4_countClusters 9 = .ok (.if_icmp .ge 33, 3) := by decide +kernel
theorem dX4_countClusters_12 : decode cX4_countClusters 12 = .ok (.aload_n 0, 1) := by decide +kernel
theorem dX4_countClusters_13 : decode cX4_countClusters 13 = .ok (.iload_n 3, 1) := by decide +kernel
theorem dX4_countClusters_14 : decode cX4_countClusters 14 = .ok (.iload_n 1, 1) := by decide +kernel
theorem dX4_countClusters_15 : decode cX4_countClusters 15 = .ok (.invokevirtual 48, 3) := by decide +kernel
theorem dX4_countClusters_18 : decode cX4_countClusters 18 = .ok (.ifCond .eq 18, 3) := by decide +kernel
theorem dX4_countClusters_21 : decode cX4_countClusters 21 = .ok (.aload_n 0, 1) := by decide +kernel
theorem dX4_countClusters_22 : decode cX4_countClusters 22 = .ok (.getfield 33, 3) := by decide +kernel
theorem dX4_countClusters_25 : decode cX4_countClusters 25 = .ok (.iload_n 3, 1) := by decide +kernel
theorem dX4_countClusters_26 : decode cX4_countClusters 26 = .ok (.invokevirtual 44, 3) := by decide +kernel
theorem dX4_countClusters_29 : decode cX4_countClusters 29 = .ok (.iload_n 3, 1) := by decide +kernel
theorem dX4_countClusters_30 : decode cX4_countClusters 30 = .ok (.if_icmp .ne 6, 3) := by decide +kernel
theorem dX4_countClusters_33 : decode cX4_countClusters 33 = .ok (.iinc 2 1, 3) := by decide +kernel
theorem dX4_countClusters_36 : decode cX4_countClusters 36 = .ok (.iinc 3 1, 3) := by decide +kernel
theorem dX4_countClusters_39 : decode cX4_countClusters 39 = .ok (.goto (-35), 3) := by decide +kernel
theorem dX4_countClusters_42 : decode cX4_countClusters 42 = .ok (.iload_n 2, 1) := by decide +kernel
theorem dX4_countClusters_43 : decode cX4_countClusters 43 = .ok (.ireturn, 1) := by decide +kernel
theorem dX4_greatestCluster_0 : decode cX4_greatestCluster 0 = .ok (.iconst 0, 1) := by decide +kernel
theorem dX4_greatestCluster_1 : decode cX4_greatestCluster 1 = .ok (.istore_n 2, 1) := by decide +kernel
theorem dX4_greatestCluster_2 : decode cX4_greatestCluster 2 = .ok (.iconst 0, 1) := by decide +kernel
theorem dX4_greatestCluster_3 : decode cX4_greatestCluster 3 = .ok (.istore_n 3, 1) := by decide +kernel
theorem dX4_greatestCluster_4 : decode cX4_greatestCluster 4 = .ok (.iload_n 3, 1) := by decide +kernel
theorem dX4_greatestCluster_5 : decode cX4_greatestCluster 5 = .ok (.aload_n 0, 1) := by decide +kernel
theorem dX4_greatestCluster_6 : decode cX4_greatestCluster 6 = .ok (.getfield 36, 3) := by decide +kernel
theorem dX4_greatestCluster_9 : decode cX4_greatestCluster 9 = .ok (.if_icmp .ge 63, 3) := by decide +kernel
theorem dX4_greatestCluster_12 : decode cX4_greatestCluster 12 = .ok (.iconst 0, 1) := by decide +kernel
theorem dX4_greatestCluster_13 : decode cX4_greatestCluster 13 = .ok (.istore 4, 2) := by decide +kernel
theorem dX4_greatestCluster_15 : decode cX4_greatestCluster 15 = .ok (.iconst 0, 1) := by decide +kernel
theorem dX4_greatestCluster_16 : decode cX4_greatestCluster 16 = .ok (.istore 5, 2) := by decide +kernel
theorem dX4_greatestCluster_18 : decode cX4_greatestCluster 18 = .ok (.iload 5, 2) := by decide +kernel
theorem dX4_greatestCluster_20 : decode cX4_greatestCluster 20 = .ok (.aload_n 0, 1) := by decide +kernel
theorem dX4_greatestCluster_21 : decode cX4_greatestCluster 21 = .ok (.getfield 36, 3) := by decide +kernel
theorem dX4_greatestCluster_24 : decode cX4_greatestCluster 24 = .ok (.if_icmp .ge 35, 3) := by decide +kernel
theorem dX4_greatestCluster_27 : decode cX4_greatestCluster 27 = .ok (.aload_n 0, 1) := by decide +kernel
theorem dX4_greatestCluster_28 : decode cX4_greatestCluster 28 = .ok (.iload 5, 2) := by decide +kernel
theorem dX4_greatestCluster_30 : decode cX4_greatestCluster 30 = .ok (.iload_n 1, 1) := by decide +kernel
theorem dX4_greatestCluster_31 : decode cX4_greatestCluster 31 = .ok (.invokevirtual 48, 3) := by decide +kernel
theorem dX4_greatestCluster_34 : decode cX4_greatestCluster 34 = .ok (.ifCond .eq 19, 3) := by decide +kernel
theorem dX4_greatestCluster_37 : decode cX4_greatestCluster 37 = .ok (.aload_n 0, 1) := by decide +kernel
theorem dX4_greatestCluster_38 : decode cX4_greatestCluster 38 = .ok (.getfield 33, 3) := by decide +kernel
theorem dX4_greatestCluster_41 : decode cX4_greatestCluster 41 = .ok (.iload 5, 2) := by decide +kernel
theorem dX4_greatestCluster_43 : decode cX4_greatestCluster 43 = .ok (.invokevirtual 44, 3) := by decide +kernel
theorem dX4_greatestCluster_46 : decode cX4_greatestCluster 46 = .ok (.iload_n 3, 1) := by decide +kernel
theorem dX4_greatestCluster_47 : decode cX4_greatestCluster 47 = .ok (.if_icmp .ne 6, 3) := by decide +kernel
theorem dX4_greatestCluster_50 : decode cX4_greatestCluster 50 = .ok (.iinc 4 1, 3) := by decide +kernel
theorem dX4_greatestCluster_53 : decode cX4_greatestCluster 53 = .ok (.iinc 5 1, 3) := by decide +kernel
theorem dX4_greatestCluster_56 : decode cX4_greatestCluster 56 = .ok (.goto (-38), 3) := by decide +kernel
theorem dX4_greatestCluster_59 : decode cX4_greatestCluster 59 = .ok (.iload_n 2, 1) := by decide +kernel
theorem dX4_greatestCluster_60 : decode cX4_greatestCluster 60 = .ok (.iload 4, 2) := by decide +kernel
theorem dX4_greatestCluster_62 : decode cX4_greatestCluster 62 = .ok (.invokestatic 76, 3) := by decide +kernel
theorem dX4_greatestCluster_65 : decode cX4_greatestCluster 65 = .ok (.istore_n 2, 1) := by decide +kernel
theorem dX4_greatestCluster_66 : decode cX4_greatestCluster 66 = .ok (.iinc 3 1, 3) := by decide +kernel
theorem dX4_greatestCluster_69 : decode cX4_greatestCluster 69 = .ok (.goto (-65), 3) := by decide +kernel
theorem dX4_greatestCluster_72 : decode cX4_greatestCluster 72 = .ok (.iload_n 2, 1) := by decide +kernel
theorem dX4_greatestCluster_73 : decode cX4_greatestCluster 73 = .ok (.ireturn, 1) := by decide +kernel
theorem dX5_init_0 : decode cX5_init 0 = .ok (.aload_n 0, 1) := by decide +kernel
theorem dX5_init_1 : decode cX5_init 1 = .ok (.invokespecial 3, 3) := by decide +kernel
theorem dX5_init_4 : decode cX5_init 4 = .ok (.aload_n 0, 1) := by decide +kernel
theorem dX5_init_5 : decode cX5_init 5 = .ok (.new 9, 3) := by decide +kernel
theorem dX5_init_8 : decode cX5_init 8 = .ok (.dup, 1) := by decide +kernel
theorem dX5_init_9 : decode cX5_init 9 = .ok (.sipush 1205, 3) := by decide +kernel
theorem dX5_init_12 : decode cX5_init 12 = .ok (.invokespecial 11, 3) := by decide +kernel
theorem dX5_init_15 : decode cX5_init 15 = .ok (.putfield 14, 3) := by decide +kernel
theorem dX5_init_18 : decode cX5_init 18 = .ok (.aload_n 0, 1) := by decide +kernel
theorem dX5_init_19 : decode cX5_init 19 = .ok (.new 20, 3) := by decide +kernel
theorem dX5_init_22 : decode cX5_init 22 = .ok (.dup, 1) := by decide +kernel
theorem dX5_init_23 : decode cX5_init 23 = .ok (.sipush 1205, 3) := by decide +kernel
theorem dX5_init_26 : decode cX5_init 26 = .ok (.invokespecial 22, 3) := by decide +kernel
theorem dX5_init_29 : decode cX5_init 29 = .ok (.putfield 23, 3) := by decide +kernel
theorem dX5_init_32 : decode cX5_init 32 = .ok (.aload_n 0, 1) := by decide +kernel
theorem dX5_init_33 : decode cX5_init 33 = .ok (.new 20, 3) := by decide +kernel
theorem dX5_init_36 : decode cX5_init 36 = .ok (.dup, 1) := by decide +kernel
theorem dX5_init_37 : decode cX5_init 37 = .ok (.sipush 1205, 3) := by decide +kernel
theorem dX5_init_40 : decode cX5_init 40 = .ok (.invokespecial 22, 3) := by decide +kernel
theorem dX5_init_43 : decode cX5_init 43 = .ok (.putfield 27, 3) := by decide +kernel
theorem dX5_init_46 : decode cX5_init 46 = .ok (.aload_n 0, 1) := by decide +kernel
theorem dX5_init_47 : decode cX5_init 47 = .ok (.new 20, 3) := by decide +kernel
theorem dX5_init_50 : decode cX5_init 50 = .ok (.dup, 1) := by decide +kernel
theorem dX5_init_51 : decode cX5_init 51 = .ok (.sipush 1205, 3) := by decide +kernel
theorem dX5_init_54 : decode cX5_init 54 = .ok (.invokespecial 22, 3) := by decide +kernel
theorem dX5_init_57 : decode cX5_init 57 = .ok (.putfield 30, 3) := by decide +kernel
theorem dX5_init_60 : decode cX5_init 60 = .ok (.aload_n 0, 1) := by decide +kernel
theorem dX5_init_61 : decode cX5_init 61 = .ok (.new 20, 3) := by decide +kernel
theorem dX5_init_64 : decode cX5_init 64 = .ok (.dup, 1) := by decide +kernel
theorem dX5_init_65 : decode cX5_init 65 = .ok (.sipush 1205, 3) := by decide +kernel
theorem dX5_init_68 : decode cX5_init 68 = .ok (.invokespecial 22, 3) := by decide +kernel
theorem dX5_init_71 : decode cX5_init 71 = .ok (.putfield 33, 3) := by decide +kernel
theorem dX5_init_74 : decode cX5_init 74 = .ok (.aload_n 0, 1) := by decide +kernel
theorem dX5_init_75 : decode cX5_init 75 = .ok (.new 20, 3) := by decide +kernel
theorem dX5_init_78 : decode cX5_init 78 = .ok (.dup, 1) := by decide +kernel
theorem dX5_init_79 : decode cX5_init 79 = .ok (.sipush 1205, 3) := by decide +kernel
theorem dX5_init_82 : decode cX5_init 82 = .ok (.invokespecial 22, 3) := by decide +kernel
theorem dX5_init_85 : decode cX5_init 85 = .ok (.putfield 36, 3) := by decide +kernel
theorem dX5_init_88 : decode cX5_init 88 = .ok (.aload_n 0, 1) := by decide +kernel
theorem dX5_init_89 : decode cX5_init 89 = .ok (.new 20, 3) := by decide +kernel
theorem dX5_init_92 : decode cX5_init 92 = .ok (.dup, 1) := by decide +kernel
theorem dX5_init_93 : decode cX5_init 93 = .ok (.bipush 80, 2) := by decide +kernel
theorem dX5_init_95 : decode cX5_init 95 = .ok (.invokespecial 22, 3) := by decide +kernel
theorem dX5_init_98 : decode cX5_init 98 = .ok (.putfield 39, 3) := by decide +kernel
theorem dX5_init_101 : decode cX5_init 101 = .ok (.aload_n 0, 1) := by decide +kernel
theorem dX5_init_102 : decode cX5_init 102 = .ok (.new 20, 3) := by decide +kernel
theorem dX5_init_105 : decode cX5_init 105 = .ok (.dup, 1) := by decide +kernel
theorem dX5_init_106 : decode cX5_init 106 = .ok (.bipush 80, 2) := by decide +kernel
theorem dX5_init_108 : decode cX5_init 108 = .ok (.invokespecial 22, 3) := by decide +kernel
theorem dX5_init_111 : decode cX5_init 111 = .ok (.putfield 42, 3) := by decide +kernel
theorem dX5_init_114 : decode cX5_init 114 = .ok (.aload_n 0, 1) := by decide +kernel
theorem dX5_init_115 : decode cX5_init 115 = .ok (.getfield 39, 3) := by decide +kernel
theorem dX5_init_118 : decode cX5_init 118 = .ok (.iconst (-1), 1) := by decide +kernel
theorem dX5_init_119 : decode cX5_init 119 = .ok (.invokevirtual 45, 3) := by decide +kernel
theorem dX5_init_122 : decode cX5_init 122 = .ok (.return_, 1) := by decide +kernel
theorem dX5_isLeaf_0 : decode cX5_isLeaf 0 = .ok (.aload_n 0, 1) := by decide +kernel
theorem dX5_isLeaf_1 : decode cX5_isLeaf 1 = .ok (.getfield 33, 3) := by decide +kernel
theorem dX5_isLeaf_4 : decode cX5_isLeaf 4 = .ok (.iload_n 1, 1) := by decide +kernel
theorem dX5_isLeaf_5 : decode cX5_isLeaf 5 = .ok (.invokevirtual 48, 3) := by decide +kernel
theorem dX5_isLeaf_8 : decode cX5_isLeaf 8 = .ok (.ifCond .ne 7, 3) := by decide +kernel
theorem dX5_isLeaf_11 : decode cX5_isLeaf 11 = .ok (.iconst 1, 1) := by decide +kernel
theorem dX5_isLeaf_12 : decode cX5_isLeaf 12 = .ok (.goto 4, 3) := by decide +kernel
theorem dX5_isLeaf_15 : decode cX5_isLeaf 15 = .ok (.iconst 0, 1) := by decide +kernel
theorem dX5_isLeaf_16 : decode cX5_isLeaf 16 = .ok (.ireturn, 1) := by decide +kernel
theorem dX5_belowAt_0 : decode cX5_belowAt 0 = .ok (.aload_n 0, 1) := by decide +kernel
theorem dX5_belowAt_1 : decode cX5_belowAt 1 = .ok (.getfield 36, 3) := by decide +kernel
theorem dX5_belowAt_4 : decode cX5_belowAt 4 = .ok (.aload_n 0, 1) := by decide +kernel
theorem dX5_belowAt_5 : decode cX5_belowAt 5 = .ok (.getfield 30, 3) := by decide +kernel
theorem dX5_belowAt_8 : decode cX5_belowAt 8 = .ok (.iload_n 1, 1) := by decide +kernel
theorem dX5_belowAt_9 : decode cX5_belowAt 9 = .ok (.invokevirtual 48, 3) := by decide +kernel
theorem dX5_belowAt_12 : decode cX5_belowAt 12 = .ok (.iload_n 2, 1) := by decide +kernel
theorem dX5_belowAt_13 : decode cX5_belowAt 13 = .ok (.iadd, 1) := by decide +kernel
theorem dX5_belowAt_14 : decode cX5_belowAt 14 = .ok (.invokevirtual 48, 3) := by decide +kernel
theorem dX5_belowAt_17 : decode cX5_belowAt 17 = .ok (.ireturn, 1) := by decide +kernel
theorem dX5_countLevels_0 : decode cX5_countLevels 0 = .ok (.aload_n 0, 1) := by decide +kernel
theorem dX5_countLevels_1 : decode cX5_countLevels 1 = .ok (.getfield 52, 3) := by decide +kernel
theorem dX5_countLevels_4 : decode cX5_countLevels 4 = .ok (.ifCond .ne 7, 3) := by decide +kernel
theorem dX5_countLevels_7 : decode cX5_countLevels 7 = .ok (.iconst 0, 1) := by decide +kernel
theorem dX5_countLevels_8 : decode cX5_countLevels 8 = .ok (.goto 18, 3) := by decide +kernel
theorem dX5_countLevels_11 : decode cX5_countLevels 11 = .ok (.aload_n 0, 1) := by decide +kernel
theorem dX5_countLevels_12 : decode cX5_countLevels 12 = .ok (.getfield 23, 3) := by decide +kernel
theorem dX5_countLevels_15 : decode cX5_countLevels 15 = .ok (.aload_n 0, 1) := by decide +kernel
theorem dX5_countLevels_16 : decode cX5_countLevels 16 = .ok (.getfield 52, 3) := by decide +kernel
theorem dX5_countLevels_19 : decode cX5_countLevels 19 = .ok (.iconst 1, 1) := by decide +kernel
theorem dX5_countLevels_20 : decode cX5_countLevels 20 = .ok (.isub, 1) := by decide +kernel
theorem dX5_countLevels_21 : decode cX5_countLevels 21 = .ok (.invokevirtual 48, 3) := by decide +kernel
theorem dX5_countLevels_24 : decode cX5_countLevels 24 = .ok (.iconst 1, 1) := by decide +kernel
theorem dX5_countLevels_25 : decode cX5_countLevels 25 = .ok (.iadd, 1) := by decide +kernel
theorem dX5_countLevels_26 : decode cX5_countLevels 26 = .ok (.ireturn, 1) := by decide +kernel
theorem dX5_firstOnLevel_0 : decode cX5_firstOnLevel 0 = .ok (.iconst 0, 1) := by decide +kernel
theorem dX5_firstOnLevel_1 : decode cX5_firstOnLevel 1 = .ok (.istore_n 2, 1) := by decide +kernel
theorem dX5_firstOnLevel_2 : decode cX5_firstOnLevel 2 = .ok (.iload_n 2, 1) := by decide +kernel
theorem dX5_firstOnLevel_3 : decode cX5_firstOnLevel 3 = .ok (.aload_n 0, 1) := by decide +kernel
theorem dX5_firstOnLevel_4 : decode cX5_firstOnLevel 4 = .ok (.getfield 52, 3) := by decide +kernel
theorem dX5_firstOnLevel_7 : decode cX5_firstOnLevel 7 = .ok (.if_icmp .ge 21, 3) := by decide +kernel
theorem dX5_firstOnLevel_10 : decode cX5_firstOnLevel 10 = .ok (.aload_n 0, 1) := by decide +kernel
theorem dX5_firstOnLevel_11 : decode cX5_firstOnLevel 11 = .ok (.getfield 23, 3) := by decide +kernel
theorem dX5_firstOnLevel_14 : decode cX5_firstOnLevel 14 = .ok (.iload_n 2, 1) := by decide +kernel
theorem dX5_firstOnLevel_15 : decode cX5_firstOnLevel 15 = .ok (.invokevirtual 48, 3) := by decide +kernel
theorem dX5_firstOnLevel_18 : decode cX5_firstOnLevel 18 = .ok (.iload_n 1, 1) := by decide +kernel
theorem dX5_firstOnLevel_19 : decode cX5_firstOnLevel 19 = .ok (.if_icmp .ge 9, 3) := by decide +kernel
theorem dX5_firstOnLevel_22 : decode cX5_firstOnLevel 22 = .ok (.iinc 2 1, 3) := by decide +kernel
theorem dX5_firstOnLevel_25 : decode cX5_firstOnLevel 25 = .ok (.goto (-23), 3) := by decide +kernel
theorem dX5_firstOnLevel_28 : decode cX5_firstOnLevel 28 = .ok (.iload_n 2, 1) := by decide +kernel
theorem dX5_firstOnLevel_29 : decode cX5_firstOnLevel 29 = .ok (.ireturn, 1) := by decide +kernel
theorem dX5_countOnLevel_0 : decode cX5_countOnLevel 0 = .ok (.iconst 0, 1) := by decide +kernel
theorem dX5_countOnLevel_1 : decode cX5_countOnLevel 1 = .ok (.istore_n 2, 1) := by decide +kernel
theorem dX5_countOnLevel_2 : decode cX5_countOnLevel 2 = .ok (.iconst 0, 1) := by decide +kernel
theorem dX5_countOnLevel_3 : decode cX5_countOnLevel 3 = .ok (.istore_n 3, 1) := by decide +kernel
theorem dX5_countOnLevel_4 : decode cX5_countOnLevel 4 = .ok (.iload_n 3, 1) := by decide +kernel
theorem dX5_countOnLevel_5 : decode cX5_countOnLevel 5 = .ok (.aload_n 0, 1) := by decide +kernel
theorem dX5_countOnLevel_6 : decode cX5_countOnLevel 6 = .ok (.getfield 52, 3) := by decide +kernel
theorem dX5_countOnLevel_9 : decode cX5_countOnLevel 9 = .ok (.if_icmp .ge 24, 3) := by decide +kernel
theorem dX5_countOnLevel_12 : decode cX5_countOnLevel 12 = .ok (.aload_n 0, 1) := by decide +kernel
theorem dX5_countOnLevel_13 : decode cX5_countOnLevel 13 = .ok (.getfield 23, 3) := by decide +kernel
theorem dX5_countOnLevel_16 : decode cX5_countOnLevel 16 = .ok (.iload_n 3, 1) := by decide +kernel
theorem dX5_countOnLevel_17 : decode cX5_countOnLevel 17 = .ok (.invokevirtual 48, 3) := by decide +kernel
theorem dX5_countOnLevel_20 : decode cX5_countOnLevel 20 = .ok (.iload_n 1, 1) := by decide +kernel
theorem dX5_countOnLevel_21 : decode cX5_countOnLevel 21 = .ok (.if_icmp .ne 6, 3) := by decide +kernel
theorem dX5_countOnLevel_24 : decode cX5_countOnLevel 24 = .ok (.iinc 2 1, 3) := by decide +kernel
theorem dX5_countOnLevel_27 : decode cX5_countOnLevel 27 = .ok (.iinc 3 1, 3) := by decide +kernel
theorem dX5_countOnLevel_30 : decode cX5_countOnLevel 30 = .ok (.goto (-26), 3) := by decide +kernel
theorem dX5_countOnLevel_33 : decode cX5_countOnLevel 33 = .ok (.iload_n 2, 1) := by decide +kernel
theorem dX5_countOnLevel_34 : decode cX5_countOnLevel 34 = .ok (.ireturn, 1) := by decide +kernel
theorem dX5_countVisited_0 : decode cX5_countVisited 0 = .ok (.iconst 0, 1) := by decide +kernel
theorem dX5_countVisited_1 : decode cX5_countVisited 1 = .ok (.istore 6, 2) := by decide +kernel
theorem dX5_countVisited_3 : decode cX5_countVisited 3 = .ok (.iconst 0, 1) := by decide +kernel
theorem dX5_countVisited_4 : decode cX5_countVisited 4 = .ok (.istore 7, 2) := by decide +kernel
theorem dX5_countVisited_6 : decode cX5_countVisited 6 = .ok (.iload 7, 2) := by decide +kernel
theorem dX5_countVisited_8 : decode cX5_countVisited 8 = .ok (.aload_n 0, 1) := by decide +kernel
theorem dX5_countVisited_9 : decode cX5_countVisited 9 = .ok (.getfield 52, 3) := by decide +kernel
theorem dX5_countVisited_12 : decode cX5_countVisited 12 = .ok (.if_icmp .ge 31, 3) := by decide +kernel
theorem dX5_countVisited_15 : decode cX5_countVisited 15 = .ok (.aload_n 0, 1) := by decide +kernel
theorem dX5_countVisited_16 : decode cX5_countVisited 16 = .ok (.getfield 14, 3) := by decide +kernel
theorem dX5_countVisited_19 : decode cX5_countVisited 19 = .ok (.iload 7, 2) := by decide +kernel
theorem dX5_countVisited_21 : decode cX5_countVisited 21 = .ok (.iload_n 1, 1) := by decide +kernel
theorem dX5_countVisited_22 : decode cX5_countVisited 22 = .ok (.iload_n 2, 1) := by decide +kernel
theorem dX5_countVisited_23 : decode cX5_countVisited 23 = .ok (.iload_n 3, 1) := by decide +kernel
theorem dX5_countVisited_24 : decode cX5_countVisited 24 = .ok (.iload 4, 2) := by decide +kernel
theorem dX5_countVisited_26 : decode cX5_countVisited 26 = .ok (.invokevirtual 56, 3) := by decide +kernel
theorem dX5_countVisited_29 : decode cX5_countVisited 29 = .ok (.iload 5, 2) := by decide +kernel
theorem dX5_countVisited_31 : decode cX5_countVisited 31 = .ok (.if_icmp .gt 6, 3) := by decide +kernel
theorem dX5_countVisited_34 : decode cX5_countVisited 34 = .ok (.iinc 6 1, 3) := by decide +kernel
theorem dX5_countVisited_37 : decode cX5_countVisited 37 = .ok (.iinc 7 1, 3) := by decide +kernel
theorem dX5_countVisited_40 : decode cX5_countVisited 40 = .ok (.goto (-34), 3) := by decide +kernel
theorem dX5_countVisited_43 : decode cX5_countVisited 43 = .ok (.iload 6, 2) := by decide +kernel
theorem dX5_countVisited_45 : decode cX5_countVisited 45 = .ok (.ireturn, 1) := by decide +kernel
theorem dX5_leafAt_0 : decode cX5_leafAt 0 = .ok (.aload_n 0, 1) := by decide +kernel
theorem dX5_leafAt_1 : decode cX5_leafAt 1 = .ok (.getfield 60, 3) := by decide +kernel
theorem dX5_leafAt_4 : decode cX5_leafAt 4 = .ok (.istore_n 3, 1) := by decide +kernel
theorem dX5_leafAt_5 : decode cX5_leafAt 5 = .ok (.iconst 0, 1) := by decide +kernel
theorem dX5_leafAt_6 : decode cX5_leafAt 6 = .ok (.istore 4, 2) := by decide +kernel
theorem dX5_leafAt_8 : decode cX5_leafAt 8 = .ok (.iload 4, 2) := by decide +kernel
theorem dX5_leafAt_10 : decode cX5_leafAt 10 = .ok (.bipush 11, 2) := by decide +kernel
theorem dX5_leafAt_12 : decode cX5_leafAt 12 = .ok (.if_icmp .ge 30, 3) := by decide +kernel
theorem dX5_leafAt_15 : decode cX5_leafAt 15 = .ok (.aload_n 0, 1) := by decide +kernel
theorem dX5_leafAt_16 : decode cX5_leafAt 16 = .ok (.iload_n 3, 1) := by decide +kernel
theorem dX5_leafAt_17 : decode cX5_leafAt 17 = .ok (.invokevirtual 63, 3) := by decide +kernel
theorem dX5_leafAt_20 : decode cX5_leafAt 20 = .ok (.ifCond .ne 22, 3) := by decide +kernel
theorem dX5_leafAt_23 : decode cX5_leafAt 23 = .ok (.aload_n 0, 1) := by decide +kernel
theorem dX5_leafAt_24 : decode cX5_leafAt 24 = .ok (.iload_n 3, 1) := by decide +kernel
theorem dX5_leafAt_25 : decode cX5_leafAt 25 = .ok (.aload_n 0, 1) := by decide +kernel
theorem dX5_leafAt_26 : decode cX5_leafAt 26 = .ok (.iload_n 3, 1) := by decide +kernel
theorem dX5_leafAt_27 : decode cX5_leafAt 27 = .ok (.iload_n 1, 1) := by decide +kernel
theorem dX5_leafAt_28 : decode cX5_leafAt 28 = .ok (.iload_n 2, 1) := by decide +kernel
theorem dX5_leafAt_29 : decode cX5_leafAt 29 = .ok (.invokevirtual 67, 3) := by decide +kernel
theorem dX5_leafAt_32 : decode cX5_leafAt 32 = .ok (.invokevirtual 71, 3) := by decide +kernel
theorem dX5_leafAt_35 : decode cX5_leafAt 35 = .ok (.istore_n 3, 1) := by decide +kernel
theorem dX5_leafAt_36 : decode cX5_leafAt 36 = .ok (.iinc 4 1, 3) := by decide +kernel
theorem dX5_leafAt_39 : decode cX5_leafAt 39 = .ok (.goto (-31), 3) := by decide +kernel
theorem dX5_leafAt_42 : decode cX5_leafAt 42 = .ok (.iload_n 3, 1) := by decide +kernel
theorem dX5_leafAt_43 : decode cX5_leafAt 43 = .ok (.ireturn, 1) := by decide +kernel
theorem dX5_quarterOf_0 : decode cX5_quarterOf 0 = .ok (.aload_n 0, 1) := by decide +kernel
theorem dX5_quarterOf_1 : decode cX5_quarterOf 1 = .ok (.iload_n 1, 1) := by decide +kernel
theorem dX5_quarterOf_2 : decode cX5_quarterOf 2 = .ok (.invokevirtual 75, 3) := by decide +kernel
theorem dX5_quarterOf_5 : decode cX5_quarterOf 5 = .ok (.istore 4, 2) := by decide +kernel
theorem dX5_quarterOf_7 : decode cX5_quarterOf 7 = .ok (.iload_n 2, 1) := by decide +kernel
theorem dX5_quarterOf_8 : decode cX5_quarterOf 8 = .ok (.aload_n 0, 1) := by decide +kernel
theorem dX5_quarterOf_9 : decode cX5_quarterOf 9 = .ok (.getfield 14, 3) := by decide +kernel
theorem dX5_quarterOf_12 : decode cX5_quarterOf 12 = .ok (.getfield 78, 3) := by decide +kernel
theorem dX5_quarterOf_15 : decode cX5_quarterOf 15 = .ok (.iload_n 1, 1) := by decide +kernel
theorem dX5_quarterOf_16 : decode cX5_quarterOf 16 = .ok (.invokevirtual 48, 3) := by decide +kernel
theorem dX5_quarterOf_19 : decode cX5_quarterOf 19 = .ok (.iload 4, 2) := by decide +kernel
theorem dX5_quarterOf_21 : decode cX5_quarterOf 21 = .ok (.iadd, 1) := by decide +kernel
theorem dX5_quarterOf_22 : decode cX5_quarterOf 22 = .ok (.if_icmp .lt 7, 3) := by decide +kernel
theorem dX5_quarterOf_25 : decode cX5_quarterOf 25 = .ok (.iconst 1, 1) := by decide +kernel
theorem dX5_quarterOf_26 : decode cX5_quarterOf 26 = .ok (.goto 4, 3) := by decide +kernel
theorem dX5_quarterOf_29 : decode cX5_quarterOf 29 = .ok (.iconst 0, 1) := by decide +kernel
theorem dX5_quarterOf_30 : decode cX5_quarterOf 30 = .ok (.istore 5, 2) := by decide +kernel
theorem dX5_quarterOf_32 : decode cX5_quarterOf 32 = .ok (.iload_n 3, 1) := by decide +kernel
theorem dX5_quarterOf_33 : decode cX5_quarterOf 33 = .ok (.aload_n 0, 1) := by decide +kernel
theorem dX5_quarterOf_34 : decode cX5_quarterOf 34 = .ok (.getfield 14, 3) := by decide +kernel
theorem dX5_quarterOf_37 : decode cX5_quarterOf 37 = .ok (.getfield 81, 3) := by decide +kernel
theorem dX5_quarterOf_40 : decode cX5_quarterOf 40 = .ok (.iload_n 1, 1) := by decide +kernel
theorem dX5_quarterOf_41 : decode cX5_quarterOf 41 = .ok (.invokevirtual 48, 3) := by decide +kernel
theorem dX5_quarterOf_44 : decode cX5_quarterOf 44 = .ok (.iload 4, 2) := by decide +kernel
theorem dX5_quarterOf_46 : decode cX5_quarterOf 46 = .ok (.iadd, 1) := by decide +kernel
theorem dX5_quarterOf_47 : decode cX5_quarterOf 47 = .ok (.if_icmp .lt 7, 3) := by decide +kernel
theorem dX5_quarterOf_50 : decode cX5_quarterOf 50 = .ok (.iconst 2, 1) := by decide +kernel
theorem dX5_quarterOf_51 : decode cX5_quarterOf 51 = .ok (.goto 4, 3) := by decide +kernel
theorem dX5_quarterOf_54 : decode cX5_quarterOf 54 = .ok (.iconst 0, 1) := by decide +kernel
theorem dX5_quarterOf_55 : decode cX5_quarterOf 55 = .ok (.istore 6, 2) := by decide +kernel
theorem dX5_quarterOf_57 : decode cX5_quarterOf 57 = .ok (.iload 5, 2) := by decide +kernel
theorem dX5_quarterOf_59 : decode cX5_quarterOf 59 = .ok (.iload 6, 2) := by decide +kernel
theorem dX5_quarterOf_61 : decode cX5_quarterOf 61 = .ok (.iadd, 1) := by decide +kernel
theorem dX5_quarterOf_62 : decode cX5_quarterOf 62 = .ok (.ireturn, 1) := by decide +kernel
theorem dX5_halfSide_0 : decode cX5_halfSide 0 = .ok (.aload_n 0, 1) := by decide +kernel
theorem dX5_halfSide_1 : decode cX5_halfSide 1 = .ok (.getfield 14, 3) := by decide +kernel
theorem dX5_halfSide_4 : decode cX5_halfSide 4 = .ok (.getfield 84, 3) := by decide +kernel
theorem dX5_halfSide_7 : decode cX5_halfSide 7 = .ok (.iload_n 1, 1) := by decide +kernel
theorem dX5_halfSide_8 : decode cX5_halfSide 8 = .ok (.invokevirtual 48, 3) := by decide +kernel
theorem dX5_halfSide_11 : decode cX5_halfSide 11 = .ok (.iconst 1, 1) := by decide +kernel
theorem dX5_halfSide_12 : decode cX5_halfSide 12 = .ok (.iadd, 1) := by decide +kernel
theorem dX5_halfSide_13 : decode cX5_halfSide 13 = .ok (.iconst 2, 1) := by decide +kernel
theorem dX5_halfSide_14 : decode cX5_halfSide 14 = .ok (.idiv, 1) := by decide +kernel
theorem dX5_halfSide_15 : decode cX5_halfSide 15 = .ok (.ireturn, 1) := by decide +kernel
theorem dX5_fell_0 : decode cX5_fell 0 = .ok (.aload_n 0, 1) := by decide +kernel
theorem dX5_fell_1 : decode cX5_fell 1 = .ok (.iconst 0, 1) := by decide +kernel
theorem dX5_fell_2 : decode cX5_fell 2 = .ok (.putfield 52, 3) := by decide +kernel
theorem dX5_fell_5 : decode cX5_fell 5 = .ok (.aload_n 0, 1) := by decide +kernel
theorem dX5_fell_6 : decode cX5_fell 6 = .ok (.iconst 0, 1) := by decide +kernel
theorem dX5_fell_7 : decode cX5_fell 7 = .ok (.putfield 60, 3) := by decide +kernel
theorem dX5_fell_10 : decode cX5_fell 10 = .ok (.aload_n 0, 1) := by decide +kernel
theorem dX5_fell_11 : decode cX5_fell 11 = .ok (.getfield 39, 3) := by decide +kernel
theorem dX5_fell_14 : decode cX5_fell 14 = .ok (.iconst (-1), 1) := by decide +kernel
theorem dX5_fell_15 : decode cX5_fell 15 = .ok (.invokevirtual 45, 3) := by decide +kernel
theorem dX5_fell_18 : decode cX5_fell 18 = .ok (.return_, 1) := by decide +kernel
theorem dX5_addNode_0 : decode cX5_addNode 0 = .ok (.aload_n 0, 1) := by decide +kernel
theorem dX5_addNode_1 : decode cX5_addNode 1 = .ok (.getfield 52, 3) := by decide +kernel
theorem dX5_addNode_4 : decode cX5_addNode 4 = .ok (.istore_n 2, 1) := by decide +kernel
theorem dX5_addNode_5 : decode cX5_addNode 5 = .ok (.aload_n 0, 1) := by decide +kernel
theorem dX5_addNode_6 : decode cX5_addNode 6 = .ok (.getfield 23, 3) := by decide +kernel
theorem dX5_addNode_9 : decode cX5_addNode 9 = .ok (.iload_n 2, 1) := by decide +kernel
theorem dX5_addNode_10 : decode cX5_addNode 10 = .ok (.iload_n 1, 1) := by decide +kernel
theorem dX5_addNode_11 : decode cX5_addNode 11 = .ok (.invokevirtual 87, 3) := by decide +kernel
theorem dX5_addNode_14 : decode cX5_addNode 14 = .ok (.aload_n 0, 1) := by decide +kernel
theorem dX5_addNode_15 : decode cX5_addNode 15 = .ok (.getfield 27, 3) := by decide +kernel
theorem dX5_addNode_18 : decode cX5_addNode 18 = .ok (.iload_n 2, 1) := by decide +kernel
theorem dX5_addNode_19 : decode cX5_addNode 19 = .ok (.iconst 0, 1) := by decide +kernel
theorem dX5_addNode_20 : decode cX5_addNode 20 = .ok (.invokevirtual 87, 3) := by decide +kernel
theorem dX5_addNode_23 : decode cX5_addNode 23 = .ok (.aload_n 0, 1) := by decide +kernel
theorem dX5_addNode_24 : decode cX5_addNode 24 = .ok (.getfield 33, 3) := by decide +kernel
theorem dX5_addNode_27 : decode cX5_addNode 27 = .ok (.iload_n 2, 1) := by decide +kernel
theorem dX5_addNode_28 : decode cX5_addNode 28 = .ok (.iconst 0, 1) := by decide +kernel
theorem dX5_addNode_29 : decode cX5_addNode 29 = .ok (.invokevirtual 87, 3) := by decide +kernel
theorem dX5_addNode_32 : decode cX5_addNode 32 = .ok (.aload_n 0, 1) := by decide +kernel
theorem dX5_addNode_33 : decode cX5_addNode 33 = .ok (.dup, 1) := by decide +kernel
theorem dX5_addNode_34 : decode cX5_addNode 34 = .ok (.getfield 52, 3) := by decide +kernel
theorem dX5_addNode_37 : decode cX5_addNode 37 = .ok (.iconst 1, 1) := by decide +kernel
theorem dX5_addNode_38 : decode cX5_addNode 38 = .ok (.iadd, 1) := by decide +kernel
theorem dX5_addNode_39 : decode cX5_addNode 39 = .ok (.putfield 52, 3) := by decide +kernel
theorem dX5_addNode_42 : decode cX5_addNode 42 = .ok (.iload_n 2, 1) := by decide +kernel
theorem dX5_addNode_43 : decode cX5_addNode 43 = .ok (.ireturn, 1) := by decide +kernel
theorem dX5_settle_0 : decode cX5_settle 0 = .ok (.aload_n 0, 1) := by decide +kernel
theorem dX5_settle_1 : decode cX5_settle 1 = .ok (.getfield 39, 3) := by decide +kernel
theorem dX5_settle_4 : decode cX5_settle 4 = .ok (.iload_n 1, 1) := by decide +kernel
theorem dX5_settle_5 : decode cX5_settle 5 = .ok (.iload_n 2, 1) := by decide +kernel
theorem dX5_settle_6 : decode cX5_settle 6 = .ok (.invokevirtual 87, 3) := by decide +kernel
theorem dX5_settle_9 : decode cX5_settle 9 = .ok (.aload_n 0, 1) := by decide +kernel
theorem dX5_settle_10 : decode cX5_settle 10 = .ok (.getfield 27, 3) := by decide +kernel
theorem dX5_settle_13 : decode cX5_settle 13 = .ok (.iload_n 2, 1) := by decide +kernel
theorem dX5_settle_14 : decode cX5_settle 14 = .ok (.iconst 1, 1) := by decide +kernel
theorem dX5_settle_15 : decode cX5_settle 15 = .ok (.invokevirtual 91, 3) := by decide +kernel
theorem dX5_settle_18 : decode cX5_settle 18 = .ok (.return_, 1) := by decide +kernel
theorem dX5_growQuarters_0 : decode cX5_growQuarters 0 = .ok (.aload_n 0, 1) := by decide +kernel
theorem dX5_growQuarters_1 : decode cX5_growQuarters 1 = .ok (.invokevirtual 94, 3) := by decide +kernel
theorem dX5_growQuarters_4 : decode cX5_growQuarters 4 = .ok (.aload_n 0, 1) := by decide +kernel
theorem dX5_growQuarters_5 : decode cX5_growQuarters 5 = .ok (.aload_n 0, 1) := by decide +kernel
theorem dX5_growQuarters_6 : decode cX5_growQuarters 6 = .ok (.iconst 0, 1) := by decide +kernel
theorem dX5_growQuarters_7 : decode cX5_growQuarters 7 = .ok (.invokevirtual 97, 3) := by decide +kernel
theorem dX5_growQuarters_10 : decode cX5_growQuarters 10 = .ok (.putfield 60, 3) := by decide +kernel
theorem dX5_growQuarters_13 : decode cX5_growQuarters 13 = .ok (.aload_n 0, 1) := by decide +kernel
theorem dX5_growQuarters_14 : decode cX5_growQuarters 14 = .ok (.getfield 14, 3) := by decide +kernel
theorem dX5_growQuarters_17 : decode cX5_growQuarters 17 = .ok (.aload_n 0, 1) := by decide +kernel
theorem dX5_growQuarters_18 : decode cX5_growQuarters 18 = .ok (.getfield 60, 3) := by decide +kernel
theorem dX5_growQuarters_21 : decode cX5_growQuarters 21 = .ok (.iconst 0, 1) := by decide +kernel
theorem dX5_growQuarters_22 : decode cX5_growQuarters 22 = .ok (.iconst 0, 1) := by decide +kernel
theorem dX5_growQuarters_23 : decode cX5_growQuarters 23 = .ok (.sipush 1023, 3) := by decide +kernel
theorem dX5_growQuarters_26 : decode cX5_growQuarters 26 = .ok (.sipush 1023, 3) := by decide +kernel
theorem dX5_growQuarters_29 : decode cX5_growQuarters 29 = .ok (.invokevirtual 100, 3) := by decide +kernel
theorem dX5_growQuarters_32 : decode cX5_growQuarters 32 = .ok (.iconst 0, 1) := by decide +kernel
theorem dX5_growQuarters_33 : decode cX5_growQuarters 33 = .ok (.istore 4, 2) := by decide +kernel
theorem dX5_growQuarters_35 : decode cX5_growQuarters 35 = .ok (.iload 4, 2) := by decide +kernel
theorem dX5_growQuarters_37 : decode cX5_growQuarters 37 = .ok (.aload_n 1, 1) := by decide +kernel
theorem dX5_growQuarters_38 : decode cX5_growQuarters 38 = .ok (.getfield 103, 3) := by decide +kernel
theorem dX5_growQuarters_41 : decode cX5_growQuarters 41 = .ok (.if_icmp .ge 29, 3) := by decide +kernel
theorem dX5_growQuarters_44 : decode cX5_growQuarters 44 = .ok (.aload_n 1, 1) := by decide +kernel
theorem dX5_growQuarters_45 : decode cX5_growQuarters 45 = .ok (.iload 4, 2) := by decide +kernel
theorem dX5_growQuarters_47 : decode cX5_growQuarters 47 = .ok (.iload_n 2, 1) := by decide +kernel
theorem dX5_growQuarters_48 : decode cX5_growQuarters 48 = .ok (.invokevirtual 108, 3) := by decide +kernel
theorem dX5_growQuarters_51 : decode cX5_growQuarters 51 = .ok (.ifCond .eq 13, 3) := by decide +kernel
theorem dX5_growQuarters_54 : decode cX5_growQuarters 54 = .ok (.aload_n 0, 1) := by decide +kernel
theorem dX5_growQuarters_55 : decode cX5_growQuarters 55 = .ok (.iload 4, 2) := by decide +kernel
theorem dX5_growQuarters_57 : decode cX5_growQuarters 57 = .ok (.aload_n 0, 1) := by decide +kernel
theorem dX5_growQuarters_58 : decode cX5_growQuarters 58 = .ok (.getfield 60, 3) := by decide +kernel
theorem dX5_growQuarters_61 : decode cX5_growQuarters 61 = .ok (.invokevirtual 112, 3) := by decide +kernel
theorem dX5_growQuarters_64 : decode cX5_growQuarters 64 = .ok (.iinc 4 1, 3) := by decide +kernel
theorem dX5_growQuarters_67 : decode cX5_growQuarters 67 = .ok (.goto (-32), 3) := by decide +kernel
theorem dX5_growQuarters_70 : decode cX5_growQuarters 70 = .ok (.iconst 0, 1) := by decide +kernel
theorem dX5_growQuarters_71 : decode cX5_growQuarters 71 = .ok (.istore 4, 2) := by decide +kernel
theorem dX5_growQuarters_73 : decode cX5_growQuarters 73 = .ok (.iload 4, 2) := by decide +kernel
theorem dX5_growQuarters_75 : decode cX5_growQuarters 75 = .ok (.sipush 1205, 3) := by decide +kernel
theorem dX5_growQuarters_78 : decode cX5_growQuarters 78 = .ok (.if_icmp .ge 47, 3) := by decide +kernel
theorem dX5_growQuarters_81 : decode cX5_growQuarters 81 = .ok (.iload 4, 2) := by decide +kernel
theorem dX5_growQuarters_83 : decode cX5_growQuarters 83 = .ok (.aload_n 0, 1) := by decide +kernel
theorem dX5_growQuarters_84 : decode cX5_growQuarters 84 = .ok (.getfield 52, 3) := by decide +kernel
theorem dX5_growQuarters_87 : decode cX5_growQuarters 87 = .ok (.if_icmp .ge 38, 3) := by decide +kernel
theorem dX5_growQuarters_90 : decode cX5_growQuarters 90 = .ok (.aload_n 0, 1) := by decide +kernel
theorem dX5_growQuarters_91 : decode cX5_growQuarters 91 = .ok (.getfield 27, 3) := by decide +kernel
theorem dX5_growQuarters_94 : decode cX5_growQuarters 94 = .ok (.iload 4, 2) := by decide +kernel
theorem dX5_growQuarters_96 : decode cX5_growQuarters 96 = .ok (.invokevirtual 48, 3) := by decide +kernel
theorem dX5_growQuarters_99 : decode cX5_growQuarters 99 = .ok (.iload_n 3, 1) := by decide +kernel
theorem dX5_growQuarters_100 : decode cX5_growQuarters 100 = .ok (.if_icmp .le 19, 3) := by decide +kernel
theorem dX5_growQuarters_103 : decode cX5_growQuarters 103 = .ok (.aload_n 0, 1) := by decide +kernel
theorem dX5_growQuarters_104 : decode cX5_growQuarters 104 = .ok (.iload 4, 2) := by decide +kernel
theorem dX5_growQuarters_106 : decode cX5_growQuarters 106 = .ok (.invokevirtual 75, 3) := by decide +kernel
theorem dX5_growQuarters_109 : decode cX5_growQuarters 109 = .ok (.ifCond .le 10, 3) := by decide +kernel
theorem dX5_growQuarters_112 : decode cX5_growQuarters 112 = .ok (.aload_n 0, 1) := by decide +kernel
theorem dX5_growQuarters_113 : decode cX5_growQuarters 113 = .ok (.iload 4, 2) := by decide +kernel
theorem dX5_growQuarters_115 : decode cX5_growQuarters 115 = .ok (.aload_n 1, 1) := by decide +kernel
theorem dX5_growQuarters_116 : decode cX5_growQuarters 116 = .ok (.invokevirtual 115, 3) := by decide +kernel
theorem dX5_growQuarters_119 : decode cX5_growQuarters 119 = .ok (.iinc 4 1, 3) := by decide +kernel
theorem dX5_growQuarters_122 : decode cX5_growQuarters 122 = .ok (.goto (-49), 3) := by decide +kernel
theorem dX5_growQuarters_125 : decode cX5_growQuarters 125 = .ok (.return_, 1) := by decide +kernel
theorem dX5_split_0 : decode cX5_split 0 = .ok (.aload_n 0, 1) := by decide +kernel
theorem dX5_split_1 : decode cX5_split 1 = .ok (.iload_n 1, 1) := by decide +kernel
theorem dX5_split_2 : decode cX5_split 2 = .ok (.invokevirtual 75, 3) := by decide +kernel
theorem dX5_split_5 : decode cX5_split 5 = .ok (.istore_n 3, 1) := by decide +kernel
theorem dX5_split_6 : decode cX5_split 6 = .ok (.aload_n 0, 1) := by decide +kernel
theorem dX5_split_7 : decode cX5_split 7 = .ok (.getfield 52, 3) := by decide +kernel
theorem dX5_split_10 : decode cX5_split 10 = .ok (.istore 4, 2) := by decide +kernel
theorem dX5_split_12 : decode cX5_split 12 = .ok (.aload_n 0, 1) := by decide +kernel
theorem dX5_split_13 : decode cX5_split 13 = .ok (.getfield 30, 3) := by decide +kernel
theorem dX5_split_16 : decode cX5_split 16 = .ok (.iload_n 1, 1) := by decide +kernel
theorem dX5_split_17 : decode cX5_split 17 = .ok (.iload 4, 2) := by decide +kernel
theorem dX5_split_19 : decode cX5_split 19 = .ok (.invokevirtual 87, 3) := by decide +kernel
theorem dX5_split_22 : decode cX5_split 22 = .ok (.iconst 0, 1) := by decide +kernel
theorem dX5_split_23 : decode cX5_split 23 = .ok (.istore 5, 2) := by decide +kernel
theorem dX5_split_25 : decode cX5_split 25 = .ok (.iload 5, 2) := by decide +kernel
theorem dX5_split_27 : decode cX5_split 27 = .ok (.iconst 4, 1) := by decide +kernel
theorem dX5_split_28 : decode cX5_split 28 = .ok (.if_icmp .ge 95, 3) := by decide +kernel
theorem dX5_split_31 : decode cX5_split 31 = .ok (.aload_n 0, 1) := by decide +kernel
theorem dX5_split_32 : decode cX5_split 32 = .ok (.getfield 14, 3) := by decide +kernel
theorem dX5_split_35 : decode cX5_split 35 = .ok (.getfield 78, 3) := by decide +kernel
theorem dX5_split_38 : decode cX5_split 38 = .ok (.iload_n 1, 1) := by decide +kernel
theorem dX5_split_39 : decode cX5_split 39 = .ok (.invokevirtual 48, 3) := by decide +kernel
theorem dX5_split_42 : decode cX5_split 42 = .ok (.iload 5, 2) := by decide +kernel
theorem dX5_split_44 : decode cX5_split 44 = .ok (.iconst 2, 1) := by decide +kernel
theorem dX5_split_45 : decode cX5_split 45 = .ok (.irem, 1) := by decide +kernel
theorem dX5_split_46 : decode cX5_split 46 = .ok (.iload_n 3, 1) := by decide +kernel
theorem dX5_split_47 : decode cX5_split 47 = .ok (.imul, 1) := by decide +kernel
theorem dX5_split_48 : decode cX5_split 48 = .ok (.iadd, 1) := by decide +kernel
theorem dX5_split_49 : decode cX5_split 49 = .ok (.istore 6, 2) := by decide +kernel
theorem dX5_split_51 : decode cX5_split 51 = .ok (.aload_n 0, 1) := by decide +kernel
theorem dX5_split_52 : decode cX5_split 52 = .ok (.getfield 14, 3) := by decide +kernel
theorem dX5_split_55 : decode cX5_split 55 = .ok (.getfield 81, 3) := by decide +kernel
theorem dX5_split_58 : decode cX5_split 58 = .ok (.iload_n 1, 1) := by decide +kernel
theorem dX5_split_59 : decode cX5_split 59 = .ok (.invokevirtual 48, 3) := by decide +kernel
theorem dX5_split_62 : decode cX5_split 62 = .ok (.iload 5, 2) := by decide +kernel
theorem dX5_split_64 : decode cX5_split 64 = .ok (.iconst 2, 1) := by decide +kernel
theorem dX5_split_65 : decode cX5_split 65 = .ok (.idiv, 1) := by decide +kernel
theorem dX5_split_66 : decode cX5_split 66 = .ok (.iload_n 3, 1) := by decide +kernel
theorem dX5_split_67 : decode cX5_split 67 = .ok (.imul, 1) := by decide +kernel
theorem dX5_split_68 : decode cX5_split 68 = .ok (.iadd, 1) := by decide +kernel
theorem dX5_split_69 : decode cX5_split 69 = .ok (.istore 7, 2) := by decide +kernel
theorem dX5_split_71 : decode cX5_split 71 = .ok (.aload_n 0, 1) := by decide +kernel
theorem dX5_split_72 : decode cX5_split 72 = .ok (.aload_n 0, 1) := by decide +kernel
theorem dX5_split_73 : decode cX5_split 73 = .ok (.getfield 23, 3) := by decide +kernel
theorem dX5_split_76 : decode cX5_split 76 = .ok (.iload_n 1, 1) := by decide +kernel
theorem dX5_split_77 : decode cX5_split 77 = .ok (.invokevirtual 48, 3) := by decide +kernel
theorem dX5_split_80 : decode cX5_split 80 = .ok (.iconst 1, 1) := by decide +kernel
theorem dX5_split_81 : decode cX5_split 81 = .ok (.iadd, 1) := by decide +kernel
theorem dX5_split_82 : decode cX5_split 82 = .ok (.invokevirtual 97, 3) := by decide +kernel
theorem dX5_split_85 : decode cX5_split 85 = .ok (.istore 8, 2) := by decide +kernel
theorem dX5_split_87 : decode cX5_split 87 = .ok (.aload_n 0, 1) := by decide +kernel
theorem dX5_split_88 : decode cX5_split 88 = .ok (.getfield 14, 3) := by decide +kernel
theorem dX5_split_91 : decode cX5_split 91 = .ok (.iload 8, 2) := by decide +kernel
theorem dX5_split_93 : decode cX5_split 93 = .ok (.iload 6, 2) := by decide +kernel
theorem dX5_split_95 : decode cX5_split 95 = .ok (.iload 7, 2) := by decide +kernel
end
section
theorem dX5_split_97 : decode cX5_split 97 = .ok (.iload_n 3, 1) := by decide +kernel
theorem dX5_split_98 : decode cX5_split 98 = .ok (.iconst 1, 1) := by decide +kernel
theorem dX5_split_99 : decode cX5_split 99 = .ok (.isub, 1) := by decide +kernel
theorem dX5_split_100 : decode cX5_split 100 = .ok (.iload_n 3, 1) := by decide +kernel
theorem dX5_split_101 : decode cX5_split 101 = .ok (.iconst 1, 1) := by decide +kernel
theorem dX5_split_102 : decode cX5_split 102 = .ok (.isub, 1) := by decide +kernel
theorem dX5_split_103 : decode cX5_split 103 = .ok (.invokevirtual 100, 3) := by decide +kernel
theorem dX5_split_106 : decode cX5_split 106 = .ok (.aload_n 0, 1) := by decide +kernel
theorem dX5_split_107 : decode cX5_split 107 = .ok (.getfield 36, 3) := by decide +kernel
theorem dX5_split_110 : decode cX5_split 110 = .ok (.iload 8, 2) := by decide +kernel
theorem dX5_split_112 : decode cX5_split 112 = .ok (.iload 8, 2) := by decide +kernel
theorem dX5_split_114 : decode cX5_split 114 = .ok (.invokevirtual 87, 3) := by decide +kernel
theorem dX5_split_117 : decode cX5_split 117 = .ok (.iinc 5 1, 3) := by decide +kernel
theorem dX5_split_120 : decode cX5_split 120 = .ok (.goto (-95), 3) := by decide +kernel
theorem dX5_split_123 : decode cX5_split 123 = .ok (.aload_n 0, 1) := by decide +kernel
theorem dX5_split_124 : decode cX5_split 124 = .ok (.getfield 33, 3) := by decide +kernel
theorem dX5_split_127 : decode cX5_split 127 = .ok (.iload_n 1, 1) := by decide +kernel
theorem dX5_split_128 : decode cX5_split 128 = .ok (.iconst 4, 1) := by decide +kernel
theorem dX5_split_129 : decode cX5_split 129 = .ok (.invokevirtual 87, 3) := by decide +kernel
theorem dX5_split_132 : decode cX5_split 132 = .ok (.iconst 0, 1) := by decide +kernel
theorem dX5_split_133 : decode cX5_split 133 = .ok (.istore 5, 2) := by decide +kernel
theorem dX5_split_135 : decode cX5_split 135 = .ok (.iload 5, 2) := by decide +kernel
theorem dX5_split_137 : decode cX5_split 137 = .ok (.aload_n 2, 1) := by decide +kernel
theorem dX5_split_138 : decode cX5_split 138 = .ok (.getfield 103, 3) := by decide +kernel
theorem dX5_split_141 : decode cX5_split 141 = .ok (.if_icmp .ge 60, 3) := by decide +kernel
theorem dX5_split_144 : decode cX5_split 144 = .ok (.aload_n 0, 1) := by decide +kernel
theorem dX5_split_145 : decode cX5_split 145 = .ok (.getfield 39, 3) := by decide +kernel
theorem dX5_split_148 : decode cX5_split 148 = .ok (.iload 5, 2) := by decide +kernel
theorem dX5_split_150 : decode cX5_split 150 = .ok (.invokevirtual 48, 3) := by decide +kernel
theorem dX5_split_153 : decode cX5_split 153 = .ok (.iload_n 1, 1) := by decide +kernel
theorem dX5_split_154 : decode cX5_split 154 = .ok (.if_icmp .ne 41, 3) := by decide +kernel
theorem dX5_split_157 : decode cX5_split 157 = .ok (.aload_n 0, 1) := by decide +kernel
theorem dX5_split_158 : decode cX5_split 158 = .ok (.iload 5, 2) := by decide +kernel
theorem dX5_split_160 : decode cX5_split 160 = .ok (.iload 4, 2) := by decide +kernel
theorem dX5_split_162 : decode cX5_split 162 = .ok (.aload_n 0, 1) := by decide +kernel
theorem dX5_split_163 : decode cX5_split 163 = .ok (.iload_n 1, 1) := by decide +kernel
theorem dX5_split_164 : decode cX5_split 164 = .ok (.aload_n 2, 1) := by decide +kernel
theorem dX5_split_165 : decode cX5_split 165 = .ok (.getfield 119, 3) := by decide +kernel
theorem dX5_split_168 : decode cX5_split 168 = .ok (.getfield 78, 3) := by decide +kernel
theorem dX5_split_171 : decode cX5_split 171 = .ok (.iload 5, 2) := by decide +kernel
theorem dX5_split_173 : decode cX5_split 173 = .ok (.invokevirtual 48, 3) := by decide +kernel
theorem dX5_split_176 : decode cX5_split 176 = .ok (.aload_n 2, 1) := by decide +kernel
theorem dX5_split_177 : decode cX5_split 177 = .ok (.getfield 119, 3) := by decide +kernel
theorem dX5_split_180 : decode cX5_split 180 = .ok (.getfield 81, 3) := by decide +kernel
theorem dX5_split_183 : decode cX5_split 183 = .ok (.iload 5, 2) := by decide +kernel
theorem dX5_split_185 : decode cX5_split 185 = .ok (.invokevirtual 48, 3) := by decide +kernel
theorem dX5_split_188 : decode cX5_split 188 = .ok (.invokevirtual 67, 3) := by decide +kernel
theorem dX5_split_191 : decode cX5_split 191 = .ok (.iadd, 1) := by decide +kernel
theorem dX5_split_192 : decode cX5_split 192 = .ok (.invokevirtual 112, 3) := by decide +kernel
theorem dX5_split_195 : decode cX5_split 195 = .ok (.iinc 5 1, 3) := by decide +kernel
theorem dX5_split_198 : decode cX5_split 198 = .ok (.goto (-63), 3) := by decide +kernel
theorem dX5_split_201 : decode cX5_split 201 = .ok (.return_, 1) := by decide +kernel
theorem dX5_growPacked_0 : decode cX5_growPacked 0 = .ok (.aload_n 0, 1) := by decide +kernel
theorem dX5_growPacked_1 : decode cX5_growPacked 1 = .ok (.invokevirtual 94, 3) := by decide +kernel
theorem dX5_growPacked_4 : decode cX5_growPacked 4 = .ok (.iconst 0, 1) := by decide +kernel
theorem dX5_growPacked_5 : decode cX5_growPacked 5 = .ok (.istore 4, 2) := by decide +kernel
theorem dX5_growPacked_7 : decode cX5_growPacked 7 = .ok (.iconst 0, 1) := by decide +kernel
theorem dX5_growPacked_8 : decode cX5_growPacked 8 = .ok (.istore 5, 2) := by decide +kernel
theorem dX5_growPacked_10 : decode cX5_growPacked 10 = .ok (.iload 5, 2) := by decide +kernel
theorem dX5_growPacked_12 : decode cX5_growPacked 12 = .ok (.aload_n 1, 1) := by decide +kernel
theorem dX5_growPacked_13 : decode cX5_growPacked 13 = .ok (.getfield 103, 3) := by decide +kernel
theorem dX5_growPacked_16 : decode cX5_growPacked 16 = .ok (.if_icmp .ge 33, 3) := by decide +kernel
theorem dX5_growPacked_19 : decode cX5_growPacked 19 = .ok (.aload_n 1, 1) := by decide +kernel
theorem dX5_growPacked_20 : decode cX5_growPacked 20 = .ok (.iload 5, 2) := by decide +kernel
theorem dX5_growPacked_22 : decode cX5_growPacked 22 = .ok (.iload_n 2, 1) := by decide +kernel
theorem dX5_growPacked_23 : decode cX5_growPacked 23 = .ok (.invokevirtual 108, 3) := by decide +kernel
theorem dX5_growPacked_26 : decode cX5_growPacked 26 = .ok (.ifCond .eq 17, 3) := by decide +kernel
theorem dX5_growPacked_29 : decode cX5_growPacked 29 = .ok (.aload_n 0, 1) := by decide +kernel
theorem dX5_growPacked_30 : decode cX5_growPacked 30 = .ok (.getfield 42, 3) := by decide +kernel
theorem dX5_growPacked_33 : decode cX5_growPacked 33 = .ok (.iload 4, 2) := by decide +kernel
theorem dX5_growPacked_35 : decode cX5_growPacked 35 = .ok (.iload 5, 2) := by decide +kernel
theorem dX5_growPacked_37 : decode cX5_growPacked 37 = .ok (.invokevirtual 87, 3) := by decide +kernel
theorem dX5_growPacked_40 : decode cX5_growPacked 40 = .ok (.iinc 4 1, 3) := by decide +kernel
theorem dX5_growPacked_43 : decode cX5_growPacked 43 = .ok (.iinc 5 1, 3) := by decide +kernel
theorem dX5_growPacked_46 : decode cX5_growPacked 46 = .ok (.goto (-36), 3) := by decide +kernel
theorem dX5_growPacked_49 : decode cX5_growPacked 49 = .ok (.iload 4, 2) := by decide +kernel
theorem dX5_growPacked_51 : decode cX5_growPacked 51 = .ok (.ifCond .eq 8, 3) := by decide +kernel
theorem dX5_growPacked_54 : decode cX5_growPacked 54 = .ok (.iload_n 3, 1) := by decide +kernel
theorem dX5_growPacked_55 : decode cX5_growPacked 55 = .ok (.iconst 2, 1) := by decide +kernel
theorem dX5_growPacked_56 : decode cX5_growPacked 56 = .ok (.if_icmp .ge 4, 3) := by decide +kernel
theorem dX5_growPacked_59 : decode cX5_growPacked 59 = .ok (.return_, 1) := by decide +kernel
theorem dX5_growPacked_60 : decode cX5_growPacked 60 = .ok (.aload_n 0, 1) := by decide +kernel
theorem dX5_growPacked_61 : decode cX5_growPacked 61 = .ok (.aload_n 1, 1) := by decide +kernel
theorem dX5_growPacked_62 : decode cX5_growPacked 62 = .ok (.getfield 119, 3) := by decide +kernel
theorem dX5_growPacked_65 : decode cX5_growPacked 65 = .ok (.iload 4, 2) := by decide +kernel
theorem dX5_growPacked_67 : decode cX5_growPacked 67 = .ok (.iload_n 3, 1) := by decide +kernel
theorem dX5_growPacked_68 : decode cX5_growPacked 68 = .ok (.invokevirtual 120, 3) := by decide +kernel
theorem dX5_growPacked_71 : decode cX5_growPacked 71 = .ok (.aload_n 0, 1) := by decide +kernel
theorem dX5_growPacked_72 : decode cX5_growPacked 72 = .ok (.aload_n 1, 1) := by decide +kernel
theorem dX5_growPacked_73 : decode cX5_growPacked 73 = .ok (.getfield 119, 3) := by decide +kernel
theorem dX5_growPacked_76 : decode cX5_growPacked 76 = .ok (.iload 4, 2) := by decide +kernel
theorem dX5_growPacked_78 : decode cX5_growPacked 78 = .ok (.iload_n 3, 1) := by decide +kernel
theorem dX5_growPacked_79 : decode cX5_growPacked 79 = .ok (.invokevirtual 124, 3) := by decide +kernel
theorem dX5_growPacked_82 : decode cX5_growPacked 82 = .ok (.iconst 0, 1) := by decide +kernel
theorem dX5_growPacked_83 : decode cX5_growPacked 83 = .ok (.istore 5, 2) := by decide +kernel
theorem dX5_growPacked_85 : decode cX5_growPacked 85 = .ok (.iconst 1, 1) := by decide +kernel
theorem dX5_growPacked_86 : decode cX5_growPacked 86 = .ok (.istore 6, 2) := by decide +kernel
theorem dX5_growPacked_88 : decode cX5_growPacked 88 = .ok (.iload 6, 2) := by decide +kernel
theorem dX5_growPacked_90 : decode cX5_growPacked 90 = .ok (.bipush 11, 2) := by decide +kernel
theorem dX5_growPacked_92 : decode cX5_growPacked 92 = .ok (.if_icmp .ge 86, 3) := by decide +kernel
theorem dX5_growPacked_95 : decode cX5_growPacked 95 = .ok (.aload_n 0, 1) := by decide +kernel
theorem dX5_growPacked_96 : decode cX5_growPacked 96 = .ok (.getfield 52, 3) := by decide +kernel
theorem dX5_growPacked_99 : decode cX5_growPacked 99 = .ok (.iload 5, 2) := by decide +kernel
theorem dX5_growPacked_101 : decode cX5_growPacked 101 = .ok (.isub, 1) := by decide +kernel
theorem dX5_growPacked_102 : decode cX5_growPacked 102 = .ok (.iconst 1, 1) := by decide +kernel
theorem dX5_growPacked_103 : decode cX5_growPacked 103 = .ok (.if_icmp .le 75, 3) := by decide +kernel
theorem dX5_growPacked_106 : decode cX5_growPacked 106 = .ok (.aload_n 0, 1) := by decide +kernel
theorem dX5_growPacked_107 : decode cX5_growPacked 107 = .ok (.getfield 52, 3) := by decide +kernel
theorem dX5_growPacked_110 : decode cX5_growPacked 110 = .ok (.istore 7, 2) := by decide +kernel
theorem dX5_growPacked_112 : decode cX5_growPacked 112 = .ok (.iload 5, 2) := by decide +kernel
theorem dX5_growPacked_114 : decode cX5_growPacked 114 = .ok (.istore 8, 2) := by decide +kernel
theorem dX5_growPacked_116 : decode cX5_growPacked 116 = .ok (.iload 8, 2) := by decide +kernel
theorem dX5_growPacked_118 : decode cX5_growPacked 118 = .ok (.iload 7, 2) := by decide +kernel
theorem dX5_growPacked_120 : decode cX5_growPacked 120 = .ok (.if_icmp .ge 23, 3) := by decide +kernel
theorem dX5_growPacked_123 : decode cX5_growPacked 123 = .ok (.aload_n 0, 1) := by decide +kernel
theorem dX5_growPacked_124 : decode cX5_growPacked 124 = .ok (.getfield 42, 3) := by decide +kernel
theorem dX5_growPacked_127 : decode cX5_growPacked 127 = .ok (.iload 8, 2) := by decide +kernel
theorem dX5_growPacked_129 : decode cX5_growPacked 129 = .ok (.iload 5, 2) := by decide +kernel
theorem dX5_growPacked_131 : decode cX5_growPacked 131 = .ok (.isub, 1) := by decide +kernel
theorem dX5_growPacked_132 : decode cX5_growPacked 132 = .ok (.iload 8, 2) := by decide +kernel
theorem dX5_growPacked_134 : decode cX5_growPacked 134 = .ok (.invokevirtual 87, 3) := by decide +kernel
theorem dX5_growPacked_137 : decode cX5_growPacked 137 = .ok (.iinc 8 1, 3) := by decide +kernel
theorem dX5_growPacked_140 : decode cX5_growPacked 140 = .ok (.goto (-24), 3) := by decide +kernel
theorem dX5_growPacked_143 : decode cX5_growPacked 143 = .ok (.aload_n 0, 1) := by decide +kernel
theorem dX5_growPacked_144 : decode cX5_growPacked 144 = .ok (.aload_n 0, 1) := by decide +kernel
theorem dX5_growPacked_145 : decode cX5_growPacked 145 = .ok (.getfield 14, 3) := by decide +kernel
theorem dX5_growPacked_148 : decode cX5_growPacked 148 = .ok (.iload 7, 2) := by decide +kernel
theorem dX5_growPacked_150 : decode cX5_growPacked 150 = .ok (.iload 5, 2) := by decide +kernel
theorem dX5_growPacked_152 : decode cX5_growPacked 152 = .ok (.isub, 1) := by decide +kernel
theorem dX5_growPacked_153 : decode cX5_growPacked 153 = .ok (.iload_n 3, 1) := by decide +kernel
theorem dX5_growPacked_154 : decode cX5_growPacked 154 = .ok (.invokevirtual 120, 3) := by decide +kernel
theorem dX5_growPacked_157 : decode cX5_growPacked 157 = .ok (.aload_n 0, 1) := by decide +kernel
theorem dX5_growPacked_158 : decode cX5_growPacked 158 = .ok (.iload 5, 2) := by decide +kernel
theorem dX5_growPacked_160 : decode cX5_growPacked 160 = .ok (.iload 7, 2) := by decide +kernel
theorem dX5_growPacked_162 : decode cX5_growPacked 162 = .ok (.iload_n 3, 1) := by decide +kernel
theorem dX5_growPacked_163 : decode cX5_growPacked 163 = .ok (.iload 6, 2) := by decide +kernel
theorem dX5_growPacked_165 : decode cX5_growPacked 165 = .ok (.invokevirtual 127, 3) := by decide +kernel
theorem dX5_growPacked_168 : decode cX5_growPacked 168 = .ok (.iload 7, 2) := by decide +kernel
theorem dX5_growPacked_170 : decode cX5_growPacked 170 = .ok (.istore 5, 2) := by decide +kernel
theorem dX5_growPacked_172 : decode cX5_growPacked 172 = .ok (.iinc 6 1, 3) := by decide +kernel
theorem dX5_growPacked_175 : decode cX5_growPacked 175 = .ok (.goto (-87), 3) := by decide +kernel
theorem dX5_growPacked_178 : decode cX5_growPacked 178 = .ok (.aload_n 0, 1) := by decide +kernel
theorem dX5_growPacked_179 : decode cX5_growPacked 179 = .ok (.aload_n 0, 1) := by decide +kernel
theorem dX5_growPacked_180 : decode cX5_growPacked 180 = .ok (.getfield 52, 3) := by decide +kernel
theorem dX5_growPacked_183 : decode cX5_growPacked 183 = .ok (.iconst 1, 1) := by decide +kernel
theorem dX5_growPacked_184 : decode cX5_growPacked 184 = .ok (.isub, 1) := by decide +kernel
theorem dX5_growPacked_185 : decode cX5_growPacked 185 = .ok (.putfield 60, 3) := by decide +kernel
theorem dX5_growPacked_188 : decode cX5_growPacked 188 = .ok (.return_, 1) := by decide +kernel
theorem dX5_orderToPack_0 : decode cX5_orderToPack 0 = .ok (.iconst 0, 1) := by decide +kernel
theorem dX5_orderToPack_1 : decode cX5_orderToPack 1 = .ok (.istore 4, 2) := by decide +kernel
theorem dX5_orderToPack_3 : decode cX5_orderToPack 3 = .ok (.iload 4, 2) := by decide +kernel
theorem dX5_orderToPack_5 : decode cX5_orderToPack 5 = .ok (.iload_n 2, 1) := by decide +kernel
theorem dX5_orderToPack_6 : decode cX5_orderToPack 6 = .ok (.if_icmp .ge 42, 3) := by decide +kernel
theorem dX5_orderToPack_9 : decode cX5_orderToPack 9 = .ok (.aload_n 0, 1) := by decide +kernel
theorem dX5_orderToPack_10 : decode cX5_orderToPack 10 = .ok (.getfield 42, 3) := by decide +kernel
theorem dX5_orderToPack_13 : decode cX5_orderToPack 13 = .ok (.iload 4, 2) := by decide +kernel
theorem dX5_orderToPack_15 : decode cX5_orderToPack 15 = .ok (.invokevirtual 48, 3) := by decide +kernel
theorem dX5_orderToPack_18 : decode cX5_orderToPack 18 = .ok (.istore 5, 2) := by decide +kernel
theorem dX5_orderToPack_20 : decode cX5_orderToPack 20 = .ok (.aload_n 0, 1) := by decide +kernel
theorem dX5_orderToPack_21 : decode cX5_orderToPack 21 = .ok (.getfield 42, 3) := by decide +kernel
theorem dX5_orderToPack_24 : decode cX5_orderToPack 24 = .ok (.iload 4, 2) := by decide +kernel
theorem dX5_orderToPack_26 : decode cX5_orderToPack 26 = .ok (.aload_n 1, 1) := by decide +kernel
theorem dX5_orderToPack_27 : decode cX5_orderToPack 27 = .ok (.iload 5, 2) := by decide +kernel
theorem dX5_orderToPack_29 : decode cX5_orderToPack 29 = .ok (.invokevirtual 131, 3) := by decide +kernel
theorem dX5_orderToPack_32 : decode cX5_orderToPack 32 = .ok (.sipush 128, 3) := by decide +kernel
theorem dX5_orderToPack_35 : decode cX5_orderToPack 35 = .ok (.imul, 1) := by decide +kernel
theorem dX5_orderToPack_36 : decode cX5_orderToPack 36 = .ok (.iload 5, 2) := by decide +kernel
theorem dX5_orderToPack_38 : decode cX5_orderToPack 38 = .ok (.iadd, 1) := by decide +kernel
theorem dX5_orderToPack_39 : decode cX5_orderToPack 39 = .ok (.invokevirtual 87, 3) := by decide +kernel
theorem dX5_orderToPack_42 : decode cX5_orderToPack 42 = .ok (.iinc 4 1, 3) := by decide +kernel
theorem dX5_orderToPack_45 : decode cX5_orderToPack 45 = .ok (.goto (-42), 3) := by decide +kernel
theorem dX5_orderToPack_48 : decode cX5_orderToPack 48 = .ok (.aload_n 0, 1) := by decide +kernel
theorem dX5_orderToPack_49 : decode cX5_orderToPack 49 = .ok (.getfield 42, 3) := by decide +kernel
theorem dX5_orderToPack_52 : decode cX5_orderToPack 52 = .ok (.iconst 0, 1) := by decide +kernel
theorem dX5_orderToPack_53 : decode cX5_orderToPack 53 = .ok (.iload_n 2, 1) := by decide +kernel
theorem dX5_orderToPack_54 : decode cX5_orderToPack 54 = .ok (.invokevirtual 134, 3) := by decide +kernel
theorem dX5_orderToPack_57 : decode cX5_orderToPack 57 = .ok (.iconst 0, 1) := by decide +kernel
theorem dX5_orderToPack_58 : decode cX5_orderToPack 58 = .ok (.istore 4, 2) := by decide +kernel
theorem dX5_orderToPack_60 : decode cX5_orderToPack 60 = .ok (.iload 4, 2) := by decide +kernel
theorem dX5_orderToPack_62 : decode cX5_orderToPack 62 = .ok (.iload_n 2, 1) := by decide +kernel
theorem dX5_orderToPack_63 : decode cX5_orderToPack 63 = .ok (.if_icmp .ge 46, 3) := by decide +kernel
theorem dX5_orderToPack_66 : decode cX5_orderToPack 66 = .ok (.aload_n 0, 1) := by decide +kernel
theorem dX5_orderToPack_67 : decode cX5_orderToPack 67 = .ok (.getfield 42, 3) := by decide +kernel
theorem dX5_orderToPack_70 : decode cX5_orderToPack 70 = .ok (.iload 4, 2) := by decide +kernel
theorem dX5_orderToPack_72 : decode cX5_orderToPack 72 = .ok (.invokevirtual 48, 3) := by decide +kernel
theorem dX5_orderToPack_75 : decode cX5_orderToPack 75 = .ok (.sipush 128, 3) := by decide +kernel
theorem dX5_orderToPack_78 : decode cX5_orderToPack 78 = .ok (.irem, 1) := by decide +kernel
theorem dX5_orderToPack_79 : decode cX5_orderToPack 79 = .ok (.istore 5, 2) := by decide +kernel
theorem dX5_orderToPack_81 : decode cX5_orderToPack 81 = .ok (.aload_n 0, 1) := by decide +kernel
theorem dX5_orderToPack_82 : decode cX5_orderToPack 82 = .ok (.getfield 42, 3) := by decide +kernel
theorem dX5_orderToPack_85 : decode cX5_orderToPack 85 = .ok (.iload 4, 2) := by decide +kernel
theorem dX5_orderToPack_87 : decode cX5_orderToPack 87 = .ok (.aload_n 1, 1) := by decide +kernel
theorem dX5_orderToPack_88 : decode cX5_orderToPack 88 = .ok (.iload 5, 2) := by decide +kernel
theorem dX5_orderToPack_90 : decode cX5_orderToPack 90 = .ok (.invokevirtual 137, 3) := by decide +kernel
theorem dX5_orderToPack_93 : decode cX5_orderToPack 93 = .ok (.sipush 128, 3) := by decide +kernel
theorem dX5_orderToPack_96 : decode cX5_orderToPack 96 = .ok (.imul, 1) := by decide +kernel
theorem dX5_orderToPack_97 : decode cX5_orderToPack 97 = .ok (.iload 5, 2) := by decide +kernel
theorem dX5_orderToPack_99 : decode cX5_orderToPack 99 = .ok (.iadd, 1) := by decide +kernel
theorem dX5_orderToPack_100 : decode cX5_orderToPack 100 = .ok (.invokevirtual 87, 3) := by decide +kernel
theorem dX5_orderToPack_103 : decode cX5_orderToPack 103 = .ok (.iinc 4 1, 3) := by decide +kernel
theorem dX5_orderToPack_106 : decode cX5_orderToPack 106 = .ok (.goto (-46), 3) := by decide +kernel
theorem dX5_orderToPack_109 : decode cX5_orderToPack 109 = .ok (.iconst 1, 1) := by decide +kernel
theorem dX5_orderToPack_110 : decode cX5_orderToPack 110 = .ok (.iload_n 2, 1) := by decide +kernel
theorem dX5_orderToPack_111 : decode cX5_orderToPack 111 = .ok (.iload_n 3, 1) := by decide +kernel
theorem dX5_orderToPack_112 : decode cX5_orderToPack 112 = .ok (.invokestatic 140, 3) := by decide +kernel
theorem dX5_orderToPack_115 : decode cX5_orderToPack 115 = .ok (.invokestatic 143, 3) := by decide +kernel
theorem dX5_orderToPack_118 : decode cX5_orderToPack 118 = .ok (.istore 4, 2) := by decide +kernel
theorem dX5_orderToPack_120 : decode cX5_orderToPack 120 = .ok (.iconst 0, 1) := by decide +kernel
theorem dX5_orderToPack_121 : decode cX5_orderToPack 121 = .ok (.istore 5, 2) := by decide +kernel
theorem dX5_orderToPack_123 : decode cX5_orderToPack 123 = .ok (.iload 5, 2) := by decide +kernel
theorem dX5_orderToPack_125 : decode cX5_orderToPack 125 = .ok (.iload_n 2, 1) := by decide +kernel
theorem dX5_orderToPack_126 : decode cX5_orderToPack 126 = .ok (.if_icmp .ge 31, 3) := by decide +kernel
theorem dX5_orderToPack_129 : decode cX5_orderToPack 129 = .ok (.aload_n 0, 1) := by decide +kernel
theorem dX5_orderToPack_130 : decode cX5_orderToPack 130 = .ok (.getfield 42, 3) := by decide +kernel
theorem dX5_orderToPack_133 : decode cX5_orderToPack 133 = .ok (.iload 5, 2) := by decide +kernel
theorem dX5_orderToPack_135 : decode cX5_orderToPack 135 = .ok (.iload 5, 2) := by decide +kernel
theorem dX5_orderToPack_137 : decode cX5_orderToPack 137 = .ok (.iload 4, 2) := by decide +kernel
theorem dX5_orderToPack_139 : decode cX5_orderToPack 139 = .ok (.iadd, 1) := by decide +kernel
theorem dX5_orderToPack_140 : decode cX5_orderToPack 140 = .ok (.iload_n 2, 1) := by decide +kernel
theorem dX5_orderToPack_141 : decode cX5_orderToPack 141 = .ok (.invokestatic 148, 3) := by decide +kernel
theorem dX5_orderToPack_144 : decode cX5_orderToPack 144 = .ok (.invokevirtual 134, 3) := by decide +kernel
theorem dX5_orderToPack_147 : decode cX5_orderToPack 147 = .ok (.iload 5, 2) := by decide +kernel
theorem dX5_orderToPack_149 : decode cX5_orderToPack 149 = .ok (.iload 4, 2) := by decide +kernel
theorem dX5_orderToPack_151 : decode cX5_orderToPack 151 = .ok (.iadd, 1) := by decide +kernel
theorem dX5_orderToPack_152 : decode cX5_orderToPack 152 = .ok (.istore 5, 2) := by decide +kernel
theorem dX5_orderToPack_154 : decode cX5_orderToPack 154 = .ok (.goto (-31), 3) := by decide +kernel
theorem dX5_orderToPack_157 : decode cX5_orderToPack 157 = .ok (.iconst 0, 1) := by decide +kernel
theorem dX5_orderToPack_158 : decode cX5_orderToPack 158 = .ok (.istore 5, 2) := by decide +kernel
theorem dX5_orderToPack_160 : decode cX5_orderToPack 160 = .ok (.iload 5, 2) := by decide +kernel
theorem dX5_orderToPack_162 : decode cX5_orderToPack 162 = .ok (.iload_n 2, 1) := by decide +kernel
theorem dX5_orderToPack_163 : decode cX5_orderToPack 163 = .ok (.if_icmp .ge 31, 3) := by decide +kernel
theorem dX5_orderToPack_166 : decode cX5_orderToPack 166 = .ok (.aload_n 0, 1) := by decide +kernel
theorem dX5_orderToPack_167 : decode cX5_orderToPack 167 = .ok (.getfield 42, 3) := by decide +kernel
theorem dX5_orderToPack_170 : decode cX5_orderToPack 170 = .ok (.iload 5, 2) := by decide +kernel
theorem dX5_orderToPack_172 : decode cX5_orderToPack 172 = .ok (.aload_n 0, 1) := by decide +kernel
theorem dX5_orderToPack_173 : decode cX5_orderToPack 173 = .ok (.getfield 42, 3) := by decide +kernel
theorem dX5_orderToPack_176 : decode cX5_orderToPack 176 = .ok (.iload 5, 2) := by decide +kernel
theorem dX5_orderToPack_178 : decode cX5_orderToPack 178 = .ok (.invokevirtual 48, 3) := by decide +kernel
theorem dX5_orderToPack_181 : decode cX5_orderToPack 181 = .ok (.sipush 128, 3) := by decide +kernel
theorem dX5_orderToPack_184 : decode cX5_orderToPack 184 = .ok (.irem, 1) := by decide +kernel
theorem dX5_orderToPack_185 : decode cX5_orderToPack 185 = .ok (.invokevirtual 87, 3) := by decide +kernel
theorem dX5_orderToPack_188 : decode cX5_orderToPack 188 = .ok (.iinc 5 1, 3) := by decide +kernel
theorem dX5_orderToPack_191 : decode cX5_orderToPack 191 = .ok (.goto (-31), 3) := by decide +kernel
theorem dX5_orderToPack_194 : decode cX5_orderToPack 194 = .ok (.return_, 1) := by decide +kernel
theorem dX5_sliceLength_0 : decode cX5_sliceLength 0 = .ok (.iconst 0, 1) := by decide +kernel
theorem dX5_sliceLength_1 : decode cX5_sliceLength 1 = .ok (.istore_n 2, 1) := by decide +kernel
theorem dX5_sliceLength_2 : decode cX5_sliceLength 2 = .ok (.iload_n 2, 1) := by decide +kernel
theorem dX5_sliceLength_3 : decode cX5_sliceLength 3 = .ok (.bipush 80, 2) := by decide +kernel
theorem dX5_sliceLength_5 : decode cX5_sliceLength 5 = .ok (.if_icmp .ge 18, 3) := by decide +kernel
theorem dX5_sliceLength_8 : decode cX5_sliceLength 8 = .ok (.iload_n 2, 1) := by decide +kernel
theorem dX5_sliceLength_9 : decode cX5_sliceLength 9 = .ok (.iload_n 2, 1) := by decide +kernel
theorem dX5_sliceLength_10 : decode cX5_sliceLength 10 = .ok (.imul, 1) := by decide +kernel
theorem dX5_sliceLength_11 : decode cX5_sliceLength 11 = .ok (.iload_n 1, 1) := by decide +kernel
theorem dX5_sliceLength_12 : decode cX5_sliceLength 12 = .ok (.imul, 1) := by decide +kernel
theorem dX5_sliceLength_13 : decode cX5_sliceLength 13 = .ok (.iload_n 0, 1) := by decide +kernel
theorem dX5_sliceLength_14 : decode cX5_sliceLength 14 = .ok (.if_icmp .ge 9, 3) := by decide +kernel
theorem dX5_sliceLength_17 : decode cX5_sliceLength 17 = .ok (.iinc 2 1, 3) := by decide +kernel
theorem dX5_sliceLength_20 : decode cX5_sliceLength 20 = .ok (.goto (-18), 3) := by decide +kernel
theorem dX5_sliceLength_23 : decode cX5_sliceLength 23 = .ok (.iload_n 2, 1) := by decide +kernel
theorem dX5_sliceLength_24 : decode cX5_sliceLength 24 = .ok (.iload_n 1, 1) := by decide +kernel
theorem dX5_sliceLength_25 : decode cX5_sliceLength 25 = .ok (.imul, 1) := by decide +kernel
theorem dX5_sliceLength_26 : decode cX5_sliceLength 26 = .ok (.ireturn, 1) := by decide +kernel
theorem dX5_cutLeaves_0 : decode cX5_cutLeaves 0 = .ok (.iconst (-1), 1) := by decide +kernel
theorem dX5_cutLeaves_1 : decode cX5_cutLeaves 1 = .ok (.istore 4, 2) := by decide +kernel
theorem dX5_cutLeaves_3 : decode cX5_cutLeaves 3 = .ok (.iconst 0, 1) := by decide +kernel
theorem dX5_cutLeaves_4 : decode cX5_cutLeaves 4 = .ok (.istore 5, 2) := by decide +kernel
theorem dX5_cutLeaves_6 : decode cX5_cutLeaves 6 = .ok (.iload 5, 2) := by decide +kernel
theorem dX5_cutLeaves_8 : decode cX5_cutLeaves 8 = .ok (.iload_n 2, 1) := by decide +kernel
theorem dX5_cutLeaves_9 : decode cX5_cutLeaves 9 = .ok (.if_icmp .ge 75, 3) := by decide +kernel
theorem dX5_cutLeaves_12 : decode cX5_cutLeaves 12 = .ok (.aload_n 0, 1) := by decide +kernel
theorem dX5_cutLeaves_13 : decode cX5_cutLeaves 13 = .ok (.getfield 42, 3) := by decide +kernel
theorem dX5_cutLeaves_16 : decode cX5_cutLeaves 16 = .ok (.iload 5, 2) := by decide +kernel
theorem dX5_cutLeaves_18 : decode cX5_cutLeaves 18 = .ok (.invokevirtual 48, 3) := by decide +kernel
theorem dX5_cutLeaves_21 : decode cX5_cutLeaves 21 = .ok (.istore 6, 2) := by decide +kernel
theorem dX5_cutLeaves_23 : decode cX5_cutLeaves 23 = .ok (.iload 4, 2) := by decide +kernel
theorem dX5_cutLeaves_25 : decode cX5_cutLeaves 25 = .ok (.iconst (-1), 1) := by decide +kernel
theorem dX5_cutLeaves_26 : decode cX5_cutLeaves 26 = .ok (.if_icmp .eq 16, 3) := by decide +kernel
theorem dX5_cutLeaves_29 : decode cX5_cutLeaves 29 = .ok (.aload_n 0, 1) := by decide +kernel
theorem dX5_cutLeaves_30 : decode cX5_cutLeaves 30 = .ok (.getfield 27, 3) := by decide +kernel
theorem dX5_cutLeaves_33 : decode cX5_cutLeaves 33 = .ok (.iload 4, 2) := by decide +kernel
theorem dX5_cutLeaves_35 : decode cX5_cutLeaves 35 = .ok (.invokevirtual 48, 3) := by decide +kernel
theorem dX5_cutLeaves_38 : decode cX5_cutLeaves 38 = .ok (.iload_n 3, 1) := by decide +kernel
theorem dX5_cutLeaves_39 : decode cX5_cutLeaves 39 = .ok (.if_icmp .lt 19, 3) := by decide +kernel
theorem dX5_cutLeaves_42 : decode cX5_cutLeaves 42 = .ok (.aload_n 0, 1) := by decide +kernel
theorem dX5_cutLeaves_43 : decode cX5_cutLeaves 43 = .ok (.iconst 0, 1) := by decide +kernel
theorem dX5_cutLeaves_44 : decode cX5_cutLeaves 44 = .ok (.invokevirtual 97, 3) := by decide +kernel
theorem dX5_cutLeaves_47 : decode cX5_cutLeaves 47 = .ok (.istore 4, 2) := by decide +kernel
theorem dX5_cutLeaves_49 : decode cX5_cutLeaves 49 = .ok (.aload_n 0, 1) := by decide +kernel
theorem dX5_cutLeaves_50 : decode cX5_cutLeaves 50 = .ok (.iload 4, 2) := by decide +kernel
theorem dX5_cutLeaves_52 : decode cX5_cutLeaves 52 = .ok (.aload_n 1, 1) := by decide +kernel
theorem dX5_cutLeaves_53 : decode cX5_cutLeaves 53 = .ok (.iload 6, 2) := by decide +kernel
theorem dX5_cutLeaves_55 : decode cX5_cutLeaves 55 = .ok (.invokevirtual 151, 3) := by decide +kernel
theorem dX5_cutLeaves_58 : decode cX5_cutLeaves 58 = .ok (.aload_n 0, 1) := by decide +kernel
theorem dX5_cutLeaves_59 : decode cX5_cutLeaves 59 = .ok (.getfield 14, 3) := by decide +kernel
theorem dX5_cutLeaves_62 : decode cX5_cutLeaves 62 = .ok (.iload 4, 2) := by decide +kernel
theorem dX5_cutLeaves_64 : decode cX5_cutLeaves 64 = .ok (.aload_n 1, 1) := by decide +kernel
theorem dX5_cutLeaves_65 : decode cX5_cutLeaves 65 = .ok (.iload 6, 2) := by decide +kernel
theorem dX5_cutLeaves_67 : decode cX5_cutLeaves 67 = .ok (.invokevirtual 155, 3) := by decide +kernel
theorem dX5_cutLeaves_70 : decode cX5_cutLeaves 70 = .ok (.aload_n 0, 1) := by decide +kernel
theorem dX5_cutLeaves_71 : decode cX5_cutLeaves 71 = .ok (.iload 6, 2) := by decide +kernel
theorem dX5_cutLeaves_73 : decode cX5_cutLeaves 73 = .ok (.iload 4, 2) := by decide +kernel
theorem dX5_cutLeaves_75 : decode cX5_cutLeaves 75 = .ok (.invokevirtual 112, 3) := by decide +kernel
theorem dX5_cutLeaves_78 : decode cX5_cutLeaves 78 = .ok (.iinc 5 1, 3) := by decide +kernel
theorem dX5_cutLeaves_81 : decode cX5_cutLeaves 81 = .ok (.goto (-75), 3) := by decide +kernel
theorem dX5_cutLeaves_84 : decode cX5_cutLeaves 84 = .ok (.return_, 1) := by decide +kernel
theorem dX5_cutNodes_0 : decode cX5_cutNodes 0 = .ok (.iconst (-1), 1) := by decide +kernel
theorem dX5_cutNodes_1 : decode cX5_cutNodes 1 = .ok (.istore 5, 2) := by decide +kernel
theorem dX5_cutNodes_3 : decode cX5_cutNodes 3 = .ok (.iload_n 1, 1) := by decide +kernel
theorem dX5_cutNodes_4 : decode cX5_cutNodes 4 = .ok (.istore 6, 2) := by decide +kernel
theorem dX5_cutNodes_6 : decode cX5_cutNodes 6 = .ok (.iload 6, 2) := by decide +kernel
theorem dX5_cutNodes_8 : decode cX5_cutNodes 8 = .ok (.iload_n 2, 1) := by decide +kernel
theorem dX5_cutNodes_9 : decode cX5_cutNodes 9 = .ok (.if_icmp .ge 108, 3) := by decide +kernel
theorem dX5_cutNodes_12 : decode cX5_cutNodes 12 = .ok (.aload_n 0, 1) := by decide +kernel
theorem dX5_cutNodes_13 : decode cX5_cutNodes 13 = .ok (.getfield 42, 3) := by decide +kernel
theorem dX5_cutNodes_16 : decode cX5_cutNodes 16 = .ok (.iload 6, 2) := by decide +kernel
theorem dX5_cutNodes_18 : decode cX5_cutNodes 18 = .ok (.iload_n 1, 1) := by decide +kernel
theorem dX5_cutNodes_19 : decode cX5_cutNodes 19 = .ok (.isub, 1) := by decide +kernel
theorem dX5_cutNodes_20 : decode cX5_cutNodes 20 = .ok (.invokevirtual 48, 3) := by decide +kernel
theorem dX5_cutNodes_23 : decode cX5_cutNodes 23 = .ok (.istore 7, 2) := by decide +kernel
theorem dX5_cutNodes_25 : decode cX5_cutNodes 25 = .ok (.iload 5, 2) := by decide +kernel
theorem dX5_cutNodes_27 : decode cX5_cutNodes 27 = .ok (.iconst (-1), 1) := by decide +kernel
theorem dX5_cutNodes_28 : decode cX5_cutNodes 28 = .ok (.if_icmp .eq 16, 3) := by decide +kernel
theorem dX5_cutNodes_31 : decode cX5_cutNodes 31 = .ok (.aload_n 0, 1) := by decide +kernel
theorem dX5_cutNodes_32 : decode cX5_cutNodes 32 = .ok (.getfield 33, 3) := by decide +kernel
theorem dX5_cutNodes_35 : decode cX5_cutNodes 35 = .ok (.iload 5, 2) := by decide +kernel
theorem dX5_cutNodes_37 : decode cX5_cutNodes 37 = .ok (.invokevirtual 48, 3) := by decide +kernel
theorem dX5_cutNodes_40 : decode cX5_cutNodes 40 = .ok (.iload_n 3, 1) := by decide +kernel
theorem dX5_cutNodes_41 : decode cX5_cutNodes 41 = .ok (.if_icmp .lt 34, 3) := by decide +kernel
theorem dX5_cutNodes_44 : decode cX5_cutNodes 44 = .ok (.aload_n 0, 1) := by decide +kernel
theorem dX5_cutNodes_45 : decode cX5_cutNodes 45 = .ok (.iload 4, 2) := by decide +kernel
theorem dX5_cutNodes_47 : decode cX5_cutNodes 47 = .ok (.invokevirtual 97, 3) := by decide +kernel
theorem dX5_cutNodes_50 : decode cX5_cutNodes 50 = .ok (.istore 5, 2) := by decide +kernel
theorem dX5_cutNodes_52 : decode cX5_cutNodes 52 = .ok (.aload_n 0, 1) := by decide +kernel
theorem dX5_cutNodes_53 : decode cX5_cutNodes 53 = .ok (.iload 5, 2) := by decide +kernel
theorem dX5_cutNodes_55 : decode cX5_cutNodes 55 = .ok (.aload_n 0, 1) := by decide +kernel
theorem dX5_cutNodes_56 : decode cX5_cutNodes 56 = .ok (.getfield 14, 3) := by decide +kernel
theorem dX5_cutNodes_59 : decode cX5_cutNodes 59 = .ok (.iload 7, 2) := by decide +kernel
theorem dX5_cutNodes_61 : decode cX5_cutNodes 61 = .ok (.invokevirtual 151, 3) := by decide +kernel
theorem dX5_cutNodes_64 : decode cX5_cutNodes 64 = .ok (.aload_n 0, 1) := by decide +kernel
theorem dX5_cutNodes_65 : decode cX5_cutNodes 65 = .ok (.getfield 30, 3) := by decide +kernel
theorem dX5_cutNodes_68 : decode cX5_cutNodes 68 = .ok (.iload 5, 2) := by decide +kernel
theorem dX5_cutNodes_70 : decode cX5_cutNodes 70 = .ok (.iload 6, 2) := by decide +kernel
theorem dX5_cutNodes_72 : decode cX5_cutNodes 72 = .ok (.invokevirtual 87, 3) := by decide +kernel
theorem dX5_cutNodes_75 : decode cX5_cutNodes 75 = .ok (.aload_n 0, 1) := by decide +kernel
theorem dX5_cutNodes_76 : decode cX5_cutNodes 76 = .ok (.getfield 14, 3) := by decide +kernel
theorem dX5_cutNodes_79 : decode cX5_cutNodes 79 = .ok (.iload 5, 2) := by decide +kernel
theorem dX5_cutNodes_81 : decode cX5_cutNodes 81 = .ok (.aload_n 0, 1) := by decide +kernel
theorem dX5_cutNodes_82 : decode cX5_cutNodes 82 = .ok (.getfield 14, 3) := by decide +kernel
theorem dX5_cutNodes_85 : decode cX5_cutNodes 85 = .ok (.iload 7, 2) := by decide +kernel
theorem dX5_cutNodes_87 : decode cX5_cutNodes 87 = .ok (.invokevirtual 155, 3) := by decide +kernel
theorem dX5_cutNodes_90 : decode cX5_cutNodes 90 = .ok (.aload_n 0, 1) := by decide +kernel
theorem dX5_cutNodes_91 : decode cX5_cutNodes 91 = .ok (.getfield 36, 3) := by decide +kernel
theorem dX5_cutNodes_94 : decode cX5_cutNodes 94 = .ok (.iload 6, 2) := by decide +kernel
theorem dX5_cutNodes_96 : decode cX5_cutNodes 96 = .ok (.iload 7, 2) := by decide +kernel
theorem dX5_cutNodes_98 : decode cX5_cutNodes 98 = .ok (.invokevirtual 87, 3) := by decide +kernel
theorem dX5_cutNodes_101 : decode cX5_cutNodes 101 = .ok (.aload_n 0, 1) := by decide +kernel
theorem dX5_cutNodes_102 : decode cX5_cutNodes 102 = .ok (.getfield 33, 3) := by decide +kernel
theorem dX5_cutNodes_105 : decode cX5_cutNodes 105 = .ok (.iload 5, 2) := by decide +kernel
theorem dX5_cutNodes_107 : decode cX5_cutNodes 107 = .ok (.iconst 1, 1) := by decide +kernel
theorem dX5_cutNodes_108 : decode cX5_cutNodes 108 = .ok (.invokevirtual 91, 3) := by decide +kernel
theorem dX5_cutNodes_111 : decode cX5_cutNodes 111 = .ok (.iinc 6 1, 3) := by decide +kernel
theorem dX5_cutNodes_114 : decode cX5_cutNodes 114 = .ok (.goto (-108), 3) := by decide +kernel
theorem dX5_cutNodes_117 : decode cX5_cutNodes 117 = .ok (.return_, 1) := by decide +kernel
theorem dX5_copyBox_0 : decode cX5_copyBox 0 = .ok (.aload_n 0, 1) := by decide +kernel
theorem dX5_copyBox_1 : decode cX5_copyBox 1 = .ok (.getfield 14, 3) := by decide +kernel
theorem dX5_copyBox_4 : decode cX5_copyBox 4 = .ok (.iload_n 1, 1) := by decide +kernel
theorem dX5_copyBox_5 : decode cX5_copyBox 5 = .ok (.aload_n 2, 1) := by decide +kernel
theorem dX5_copyBox_6 : decode cX5_copyBox 6 = .ok (.getfield 78, 3) := by decide +kernel
theorem dX5_copyBox_9 : decode cX5_copyBox 9 = .ok (.iload_n 3, 1) := by decide +kernel
theorem dX5_copyBox_10 : decode cX5_copyBox 10 = .ok (.invokevirtual 48, 3) := by decide +kernel
theorem dX5_copyBox_13 : decode cX5_copyBox 13 = .ok (.aload_n 2, 1) := by decide +kernel
theorem dX5_copyBox_14 : decode cX5_copyBox 14 = .ok (.getfield 81, 3) := by decide +kernel
theorem dX5_copyBox_17 : decode cX5_copyBox 17 = .ok (.iload_n 3, 1) := by decide +kernel
theorem dX5_copyBox_18 : decode cX5_copyBox 18 = .ok (.invokevirtual 48, 3) := by decide +kernel
theorem dX5_copyBox_21 : decode cX5_copyBox 21 = .ok (.aload_n 2, 1) := by decide +kernel
theorem dX5_copyBox_22 : decode cX5_copyBox 22 = .ok (.getfield 84, 3) := by decide +kernel
theorem dX5_copyBox_25 : decode cX5_copyBox 25 = .ok (.iload_n 3, 1) := by decide +kernel
theorem dX5_copyBox_26 : decode cX5_copyBox 26 = .ok (.invokevirtual 48, 3) := by decide +kernel
theorem dX5_copyBox_29 : decode cX5_copyBox 29 = .ok (.aload_n 2, 1) := by decide +kernel
theorem dX5_copyBox_30 : decode cX5_copyBox 30 = .ok (.getfield 158, 3) := by decide +kernel
theorem dX5_copyBox_33 : decode cX5_copyBox 33 = .ok (.iload_n 3, 1) := by decide +kernel
theorem dX5_copyBox_34 : decode cX5_copyBox 34 = .ok (.invokevirtual 48, 3) := by decide +kernel
theorem dX5_copyBox_37 : decode cX5_copyBox 37 = .ok (.invokevirtual 100, 3) := by decide +kernel
theorem dX5_copyBox_40 : decode cX5_copyBox 40 = .ok (.return_, 1) := by decide +kernel
theorem dX6_init_0 : decode cX6_init 0 = .ok (.aload_n 0, 1) := by decide +kernel
theorem dX6_init_1 : decode cX6_init 1 = .ok (.invokespecial 1, 3) := by decide +kernel
theorem dX6_init_4 : decode cX6_init 4 = .ok (.aload_n 0, 1) := by decide +kernel
theorem dX6_init_5 : decode cX6_init 5 = .ok (.new 7, 3) := by decide +kernel
theorem dX6_init_8 : decode cX6_init 8 = .ok (.dup, 1) := by decide +kernel
theorem dX6_init_9 : decode cX6_init 9 = .ok (.invokespecial 9, 3) := by decide +kernel
theorem dX6_init_12 : decode cX6_init 12 = .ok (.putfield 10, 3) := by decide +kernel
theorem dX6_init_15 : decode cX6_init 15 = .ok (.aload_n 0, 1) := by decide +kernel
theorem dX6_init_16 : decode cX6_init 16 = .ok (.iconst 4, 1) := by decide +kernel
theorem dX6_init_17 : decode cX6_init 17 = .ok (.anewarray 16, 3) := by decide +kernel
theorem dX6_init_20 : decode cX6_init 20 = .ok (.putfield 18, 3) := by decide +kernel
theorem dX6_init_23 : decode cX6_init 23 = .ok (.aload_n 0, 1) := by decide +kernel
theorem dX6_init_24 : decode cX6_init 24 = .ok (.new 22, 3) := by decide +kernel
theorem dX6_init_27 : decode cX6_init 27 = .ok (.dup, 1) := by decide +kernel
theorem dX6_init_28 : decode cX6_init 28 = .ok (.invokespecial 24, 3) := by decide +kernel
theorem dX6_init_31 : decode cX6_init 31 = .ok (.putfield 25, 3) := by decide +kernel
theorem dX6_init_34 : decode cX6_init 34 = .ok (.aload_n 0, 1) := by decide +kernel
theorem dX6_init_35 : decode cX6_init 35 = .ok (.new 29, 3) := by decide +kernel
theorem dX6_init_38 : decode cX6_init 38 = .ok (.dup, 1) := by decide +kernel
theorem dX6_init_39 : decode cX6_init 39 = .ok (.invokespecial 31, 3) := by decide +kernel
theorem dX6_init_42 : decode cX6_init 42 = .ok (.putfield 32, 3) := by decide +kernel
theorem dX6_init_45 : decode cX6_init 45 = .ok (.aload_n 0, 1) := by decide +kernel
theorem dX6_init_46 : decode cX6_init 46 = .ok (.iconst 0, 1) := by decide +kernel
theorem dX6_init_47 : decode cX6_init 47 = .ok (.putfield 36, 3) := by decide +kernel
theorem dX6_init_50 : decode cX6_init 50 = .ok (.return_, 1) := by decide +kernel
theorem dX6_addLayer_0 : decode cX6_addLayer 0 = .ok (.aload_n 0, 1) := by decide +kernel
theorem dX6_addLayer_1 : decode cX6_addLayer 1 = .ok (.getfield 36, 3) := by decide +kernel
theorem dX6_addLayer_4 : decode cX6_addLayer 4 = .ok (.ifCond .lt 15, 3) := by decide +kernel
theorem dX6_addLayer_7 : decode cX6_addLayer 7 = .ok (.aload_n 0, 1) := by decide +kernel
theorem dX6_addLayer_8 : decode cX6_addLayer 8 = .ok (.getfield 36, 3) := by decide +kernel
theorem dX6_addLayer_11 : decode cX6_addLayer 11 = .ok (.aload_n 0, 1) := by decide +kernel
theorem dX6_addLayer_12 : decode cX6_addLayer 12 = .ok (.getfield 18, 3) := by decide +kernel
theorem dX6_addLayer_15 : decode cX6_addLayer 15 = .ok (.arraylength, 1) := by decide +kernel
theorem dX6_addLayer_16 : decode cX6_addLayer 16 = .ok (.if_icmp .lt 13, 3) := by decide +kernel
theorem dX6_addLayer_19 : decode cX6_addLayer 19 = .ok (.new 40, 3) := by decide +kernel
theorem dX6_addLayer_22 : decode cX6_addLayer 22 = .ok (.dup, 1) := by decide +kernel
theorem dX6_addLayer_23 : decode cX6_addLayer 23 = .ok (.ldc 42, 2) := by decide +kernel
theorem dX6_addLayer_25 : decode cX6_addLayer 25 = .ok (.invokespecial 44, 3) := by decide +kernel
theorem dX6_addLayer_28 : decode cX6_addLayer 28 = .ok (.athrow, 1) := by decide +kernel
theorem dX6_addLayer_29 : decode cX6_addLayer 29 = .ok (.new 16, 3) := by decide +kernel
theorem dX6_addLayer_32 : decode cX6_addLayer 32 = .ok (.dup, 1) := by decide +kernel
theorem dX6_addLayer_33 : decode cX6_addLayer 33 = .ok (.aload_n 0, 1) := by decide +kernel
theorem dX6_addLayer_34 : decode cX6_addLayer 34 = .ok (.getfield 36, 3) := by decide +kernel
theorem dX6_addLayer_37 : decode cX6_addLayer 37 = .ok (.iload_n 1, 1) := by decide +kernel
theorem dX6_addLayer_38 : decode cX6_addLayer 38 = .ok (.invokespecial 47, 3) := by decide +kernel
theorem dX6_addLayer_41 : decode cX6_addLayer 41 = .ok (.astore_n 2, 1) := by decide +kernel
theorem dX6_addLayer_42 : decode cX6_addLayer 42 = .ok (.aload_n 0, 1) := by decide +kernel
theorem dX6_addLayer_43 : decode cX6_addLayer 43 = .ok (.getfield 18, 3) := by decide +kernel
theorem dX6_addLayer_46 : decode cX6_addLayer 46 = .ok (.aload_n 0, 1) := by decide +kernel
theorem dX6_addLayer_47 : decode cX6_addLayer 47 = .ok (.getfield 36, 3) := by decide +kernel
theorem dX6_addLayer_50 : decode cX6_addLayer 50 = .ok (.aload_n 2, 1) := by decide +kernel
theorem dX6_addLayer_51 : decode cX6_addLayer 51 = .ok (.aastore, 1) := by decide +kernel
theorem dX6_addLayer_52 : decode cX6_addLayer 52 = .ok (.aload_n 0, 1) := by decide +kernel
theorem dX6_addLayer_53 : decode cX6_addLayer 53 = .ok (.dup, 1) := by decide +kernel
theorem dX6_addLayer_54 : decode cX6_addLayer 54 = .ok (.getfield 36, 3) := by decide +kernel
theorem dX6_addLayer_57 : decode cX6_addLayer 57 = .ok (.iconst 1, 1) := by decide +kernel
theorem dX6_addLayer_58 : decode cX6_addLayer 58 = .ok (.iadd, 1) := by decide +kernel
theorem dX6_addLayer_59 : decode cX6_addLayer 59 = .ok (.putfield 36, 3) := by decide +kernel
theorem dX6_addLayer_62 : decode cX6_addLayer 62 = .ok (.aload_n 2, 1) := by decide +kernel
theorem dX6_addLayer_63 : decode cX6_addLayer 63 = .ok (.aload_n 0, 1) := by decide +kernel
theorem dX6_addLayer_64 : decode cX6_addLayer 64 = .ok (.getfield 10, 3) := by decide +kernel
theorem dX6_addLayer_67 : decode cX6_addLayer 67 = .ok (.invokevirtual 50, 3) := by decide +kernel
theorem dX6_addLayer_70 : decode cX6_addLayer 70 = .ok (.aload_n 2, 1) := by decide +kernel
theorem dX6_addLayer_71 : decode cX6_addLayer 71 = .ok (.getfield 54, 3) := by decide +kernel
theorem dX6_addLayer_74 : decode cX6_addLayer 74 = .ok (.ireturn, 1) := by decide +kernel
theorem dX6_setSize_0 : decode cX6_setSize 0 = .ok (.aload_n 0, 1) := by decide +kernel
theorem dX6_setSize_1 : decode cX6_setSize 1 = .ok (.iload_n 1, 1) := by decide +kernel
theorem dX6_setSize_2 : decode cX6_setSize 2 = .ok (.invokevirtual 57, 3) := by decide +kernel
theorem dX6_setSize_5 : decode cX6_setSize 5 = .ok (.astore_n 3, 1) := by decide +kernel
theorem dX6_setSize_6 : decode cX6_setSize 6 = .ok (.aload_n 3, 1) := by decide +kernel
theorem dX6_setSize_7 : decode cX6_setSize 7 = .ok (.iload_n 2, 1) := by decide +kernel
theorem dX6_setSize_8 : decode cX6_setSize 8 = .ok (.invokestatic 61, 3) := by decide +kernel
theorem dX6_setSize_11 : decode cX6_setSize 11 = .ok (.aload_n 3, 1) := by decide +kernel
theorem dX6_setSize_12 : decode cX6_setSize 12 = .ok (.getfield 65, 3) := by decide +kernel
theorem dX6_setSize_15 : decode cX6_setSize 15 = .ok (.istore 4, 2) := by decide +kernel
theorem dX6_setSize_17 : decode cX6_setSize 17 = .ok (.aload_n 3, 1) := by decide +kernel
theorem dX6_setSize_18 : decode cX6_setSize 18 = .ok (.iload_n 2, 1) := by decide +kernel
theorem dX6_setSize_19 : decode cX6_setSize 19 = .ok (.putfield 65, 3) := by decide +kernel
theorem dX6_setSize_22 : decode cX6_setSize 22 = .ok (.aload_n 3, 1) := by decide +kernel
theorem dX6_setSize_23 : decode cX6_setSize 23 = .ok (.aload_n 0, 1) := by decide +kernel
theorem dX6_setSize_24 : decode cX6_setSize 24 = .ok (.getfield 10, 3) := by decide +kernel
theorem dX6_setSize_27 : decode cX6_setSize 27 = .ok (.invokevirtual 50, 3) := by decide +kernel
theorem dX6_setSize_30 : decode cX6_setSize 30 = .ok (.iload 4, 2) := by decide +kernel
theorem dX6_setSize_32 : decode cX6_setSize 32 = .ok (.ireturn, 1) := by decide +kernel
theorem dX6_addPoint_0 : decode cX6_addPoint 0 = .ok (.aload_n 0, 1) := by decide +kernel
theorem dX6_addPoint_1 : decode cX6_addPoint 1 = .ok (.iload_n 1, 1) := by decide +kernel
theorem dX6_addPoint_2 : decode cX6_addPoint 2 = .ok (.invokevirtual 57, 3) := by decide +kernel
theorem dX6_addPoint_5 : decode cX6_addPoint 5 = .ok (.astore 5, 2) := by decide +kernel
theorem dX6_addPoint_7 : decode cX6_addPoint 7 = .ok (.aload 5, 2) := by decide +kernel
theorem dX6_addPoint_9 : decode cX6_addPoint 9 = .ok (.invokestatic 68, 3) := by decide +kernel
theorem dX6_addPoint_12 : decode cX6_addPoint 12 = .ok (.iload_n 2, 1) := by decide +kernel
theorem dX6_addPoint_13 : decode cX6_addPoint 13 = .ok (.iload_n 3, 1) := by decide +kernel
theorem dX6_addPoint_14 : decode cX6_addPoint 14 = .ok (.invokestatic 72, 3) := by decide +kernel
theorem dX6_addPoint_17 : decode cX6_addPoint 17 = .ok (.iload 4, 2) := by decide +kernel
theorem dX6_addPoint_19 : decode cX6_addPoint 19 = .ok (.ifCond .lt 10, 3) := by decide +kernel
theorem dX6_addPoint_22 : decode cX6_addPoint 22 = .ok (.iload 4, 2) := by decide +kernel
theorem dX6_addPoint_24 : decode cX6_addPoint 24 = .ok (.bipush 10, 2) := by decide +kernel
theorem dX6_addPoint_26 : decode cX6_addPoint 26 = .ok (.if_icmp .lt 13, 3) := by decide +kernel
theorem dX6_addPoint_29 : decode cX6_addPoint 29 = .ok (.new 76, 3) := by decide +kernel
theorem dX6_addPoint_32 : decode cX6_addPoint 32 = .ok (.dup, 1) := by decide +kernel
theorem dX6_addPoint_33 : decode cX6_addPoint 33 = .ok (.ldc 78, 2) := by decide +kernel
theorem dX6_addPoint_35 : decode cX6_addPoint 35 = .ok (.invokespecial 80, 3) := by decide +kernel
theorem dX6_addPoint_38 : decode cX6_addPoint 38 = .ok (.athrow, 1) := by decide +kernel
theorem dX6_addPoint_39 : decode cX6_addPoint 39 = .ok (.aload_n 0, 1) := by decide +kernel
theorem dX6_addPoint_40 : decode cX6_addPoint 40 = .ok (.iconst 1, 1) := by decide +kernel
theorem dX6_addPoint_41 : decode cX6_addPoint 41 = .ok (.invokevirtual 81, 3) := by decide +kernel
theorem dX6_addPoint_44 : decode cX6_addPoint 44 = .ok (.aload_n 0, 1) := by decide +kernel
theorem dX6_addPoint_45 : decode cX6_addPoint 45 = .ok (.getfield 10, 3) := by decide +kernel
theorem dX6_addPoint_48 : decode cX6_addPoint 48 = .ok (.iload_n 1, 1) := by decide +kernel
theorem dX6_addPoint_49 : decode cX6_addPoint 49 = .ok (.iload 4, 2) := by decide +kernel
theorem dX6_addPoint_51 : decode cX6_addPoint 51 = .ok (.invokevirtual 85, 3) := by decide +kernel
theorem dX6_addPoint_54 : decode cX6_addPoint 54 = .ok (.istore 6, 2) := by decide +kernel
theorem dX6_addPoint_56 : decode cX6_addPoint 56 = .ok (.aload_n 0, 1) := by decide +kernel
theorem dX6_addPoint_57 : decode cX6_addPoint 57 = .ok (.getfield 10, 3) := by decide +kernel
theorem dX6_addPoint_60 : decode cX6_addPoint 60 = .ok (.getfield 89, 3) := by decide +kernel
theorem dX6_addPoint_63 : decode cX6_addPoint 63 = .ok (.iload 6, 2) := by decide +kernel
theorem dX6_addPoint_65 : decode cX6_addPoint 65 = .ok (.iload_n 2, 1) := by decide +kernel
theorem dX6_addPoint_66 : decode cX6_addPoint 66 = .ok (.iload_n 3, 1) := by decide +kernel
theorem dX6_addPoint_67 : decode cX6_addPoint 67 = .ok (.iconst 0, 1) := by decide +kernel
theorem dX6_addPoint_68 : decode cX6_addPoint 68 = .ok (.iconst 0, 1) := by decide +kernel
theorem dX6_addPoint_69 : decode cX6_addPoint 69 = .ok (.invokevirtual 93, 3) := by decide +kernel
theorem dX6_addPoint_72 : decode cX6_addPoint 72 = .ok (.aload 5, 2) := by decide +kernel
theorem dX6_addPoint_74 : decode cX6_addPoint 74 = .ok (.aload_n 0, 1) := by decide +kernel
theorem dX6_addPoint_75 : decode cX6_addPoint 75 = .ok (.getfield 10, 3) := by decide +kernel
theorem dX6_addPoint_78 : decode cX6_addPoint 78 = .ok (.invokevirtual 50, 3) := by decide +kernel
theorem dX6_addPoint_81 : decode cX6_addPoint 81 = .ok (.iload 6, 2) := by decide +kernel
theorem dX6_addPoint_83 : decode cX6_addPoint 83 = .ok (.ireturn, 1) := by decide +kernel
theorem dX6_addBox_0 : decode cX6_addBox 0 = .ok (.aload_n 0, 1) := by decide +kernel
theorem dX6_addBox_1 : decode cX6_addBox 1 = .ok (.iload_n 1, 1) := by decide +kernel
theorem dX6_addBox_2 : decode cX6_addBox 2 = .ok (.invokevirtual 57, 3) := by decide +kernel
theorem dX6_addBox_5 : decode cX6_addBox 5 = .ok (.invokestatic 99, 3) := by decide +kernel
theorem dX6_addBox_8 : decode cX6_addBox 8 = .ok (.iload_n 2, 1) := by decide +kernel
theorem dX6_addBox_9 : decode cX6_addBox 9 = .ok (.iload_n 3, 1) := by decide +kernel
theorem dX6_addBox_10 : decode cX6_addBox 10 = .ok (.invokestatic 72, 3) := by decide +kernel
theorem dX6_addBox_13 : decode cX6_addBox 13 = .ok (.iload 4, 2) := by decide +kernel
theorem dX6_addBox_15 : decode cX6_addBox 15 = .ok (.ifCond .lt 24, 3) := by decide +kernel
theorem dX6_addBox_18 : decode cX6_addBox 18 = .ok (.iload 4, 2) := by decide +kernel
theorem dX6_addBox_20 : decode cX6_addBox 20 = .ok (.sipush 200, 3) := by decide +kernel
theorem dX6_addBox_23 : decode cX6_addBox 23 = .ok (.if_icmp .gt 16, 3) := by decide +kernel
theorem dX6_addBox_26 : decode cX6_addBox 26 = .ok (.iload 5, 2) := by decide +kernel
theorem dX6_addBox_28 : decode cX6_addBox 28 = .ok (.ifCond .lt 11, 3) := by decide +kernel
theorem dX6_addBox_31 : decode cX6_addBox 31 = .ok (.iload 5, 2) := by decide +kernel
theorem dX6_addBox_33 : decode cX6_addBox 33 = .ok (.sipush 200, 3) := by decide +kernel
theorem dX6_addBox_36 : decode cX6_addBox 36 = .ok (.if_icmp .le 13, 3) := by decide +kernel
theorem dX6_addBox_39 : decode cX6_addBox 39 = .ok (.new 76, 3) := by decide +kernel
theorem dX6_addBox_42 : decode cX6_addBox 42 = .ok (.dup, 1) := by decide +kernel
theorem dX6_addBox_43 : decode cX6_addBox 43 = .ok (.ldc 102, 2) := by decide +kernel
theorem dX6_addBox_45 : decode cX6_addBox 45 = .ok (.invokespecial 80, 3) := by decide +kernel
theorem dX6_addBox_48 : decode cX6_addBox 48 = .ok (.athrow, 1) := by decide +kernel
theorem dX6_addBox_49 : decode cX6_addBox 49 = .ok (.iload_n 2, 1) := by decide +kernel
theorem dX6_addBox_50 : decode cX6_addBox 50 = .ok (.iload 4, 2) := by decide +kernel
theorem dX6_addBox_52 : decode cX6_addBox 52 = .ok (.iadd, 1) := by decide +kernel
theorem dX6_addBox_53 : decode cX6_addBox 53 = .ok (.iload_n 3, 1) := by decide +kernel
theorem dX6_addBox_54 : decode cX6_addBox 54 = .ok (.iload 5, 2) := by decide +kernel
theorem dX6_addBox_56 : decode cX6_addBox 56 = .ok (.iadd, 1) := by decide +kernel
theorem dX6_addBox_57 : decode cX6_addBox 57 = .ok (.invokestatic 72, 3) := by decide +kernel
theorem dX6_addBox_60 : decode cX6_addBox 60 = .ok (.iload 6, 2) := by decide +kernel
theorem dX6_addBox_62 : decode cX6_addBox 62 = .ok (.ifCond .lt 10, 3) := by decide +kernel
theorem dX6_addBox_65 : decode cX6_addBox 65 = .ok (.iload 6, 2) := by decide +kernel
theorem dX6_addBox_67 : decode cX6_addBox 67 = .ok (.bipush 10, 2) := by decide +kernel
theorem dX6_addBox_69 : decode cX6_addBox 69 = .ok (.if_icmp .lt 13, 3) := by decide +kernel
theorem dX6_addBox_72 : decode cX6_addBox 72 = .ok (.new 76, 3) := by decide +kernel
theorem dX6_addBox_75 : decode cX6_addBox 75 = .ok (.dup, 1) := by decide +kernel
theorem dX6_addBox_76 : decode cX6_addBox 76 = .ok (.ldc 78, 2) := by decide +kernel
theorem dX6_addBox_78 : decode cX6_addBox 78 = .ok (.invokespecial 80, 3) := by decide +kernel
theorem dX6_addBox_81 : decode cX6_addBox 81 = .ok (.athrow, 1) := by decide +kernel
theorem dX6_addBox_82 : decode cX6_addBox 82 = .ok (.aload_n 0, 1) := by decide +kernel
theorem dX6_addBox_83 : decode cX6_addBox 83 = .ok (.iconst 1, 1) := by decide +kernel
theorem dX6_addBox_84 : decode cX6_addBox 84 = .ok (.invokevirtual 81, 3) := by decide +kernel
theorem dX6_addBox_87 : decode cX6_addBox 87 = .ok (.aload_n 0, 1) := by decide +kernel
theorem dX6_addBox_88 : decode cX6_addBox 88 = .ok (.getfield 10, 3) := by decide +kernel
theorem dX6_addBox_91 : decode cX6_addBox 91 = .ok (.iload_n 1, 1) := by decide +kernel
theorem dX6_addBox_92 : decode cX6_addBox 92 = .ok (.iload 6, 2) := by decide +kernel
theorem dX6_addBox_94 : decode cX6_addBox 94 = .ok (.invokevirtual 85, 3) := by decide +kernel
theorem dX6_addBox_97 : decode cX6_addBox 97 = .ok (.istore 7, 2) := by decide +kernel
theorem dX6_addBox_99 : decode cX6_addBox 99 = .ok (.aload_n 0, 1) := by decide +kernel
theorem dX6_addBox_100 : decode cX6_addBox 100 = .ok (.getfield 10, 3) := by decide +kernel
theorem dX6_addBox_103 : decode cX6_addBox 103 = .ok (.getfield 89, 3) := by decide +kernel
theorem dX6_addBox_106 : decode cX6_addBox 106 = .ok (.iload 7, 2) := by decide +kernel
theorem dX6_addBox_108 : decode cX6_addBox 108 = .ok (.iload_n 2, 1) := by decide +kernel
theorem dX6_addBox_109 : decode cX6_addBox 109 = .ok (.iload_n 3, 1) := by decide +kernel
theorem dX6_addBox_110 : decode cX6_addBox 110 = .ok (.iload 4, 2) := by decide +kernel
theorem dX6_addBox_112 : decode cX6_addBox 112 = .ok (.iload 5, 2) := by decide +kernel
theorem dX6_addBox_114 : decode cX6_addBox 114 = .ok (.invokevirtual 93, 3) := by decide +kernel
theorem dX6_addBox_117 : decode cX6_addBox 117 = .ok (.iload 7, 2) := by decide +kernel
theorem dX6_addBox_119 : decode cX6_addBox 119 = .ok (.ireturn, 1) := by decide +kernel
theorem dX6_move_0 : decode cX6_move 0 = .ok (.aload_n 0, 1) := by decide +kernel
theorem dX6_move_1 : decode cX6_move 1 = .ok (.iload_n 1, 1) := by decide +kernel
theorem dX6_move_2 : decode cX6_move 2 = .ok (.invokevirtual 109, 3) := by decide +kernel
theorem dX6_move_5 : decode cX6_move 5 = .ok (.astore 4, 2) := by decide +kernel
theorem dX6_move_7 : decode cX6_move 7 = .ok (.aload_n 0, 1) := by decide +kernel
theorem dX6_move_8 : decode cX6_move 8 = .ok (.getfield 10, 3) := by decide +kernel
theorem dX6_move_11 : decode cX6_move 11 = .ok (.getfield 89, 3) := by decide +kernel
theorem dX6_move_14 : decode cX6_move 14 = .ok (.astore 5, 2) := by decide +kernel
theorem dX6_move_16 : decode cX6_move 16 = .ok (.aload 5, 2) := by decide +kernel
theorem dX6_move_18 : decode cX6_move 18 = .ok (.getfield 112, 3) := by decide +kernel
theorem dX6_move_21 : decode cX6_move 21 = .ok (.iload_n 1, 1) := by decide +kernel
theorem dX6_move_22 : decode cX6_move 22 = .ok (.invokevirtual 116, 3) := by decide +kernel
theorem dX6_move_25 : decode cX6_move 25 = .ok (.istore 6, 2) := by decide +kernel
theorem dX6_move_27 : decode cX6_move 27 = .ok (.aload 5, 2) := by decide +kernel
theorem dX6_move_29 : decode cX6_move 29 = .ok (.getfield 122, 3) := by decide +kernel
theorem dX6_move_32 : decode cX6_move 32 = .ok (.iload_n 1, 1) := by decide +kernel
theorem dX6_move_33 : decode cX6_move 33 = .ok (.invokevirtual 116, 3) := by decide +kernel
theorem dX6_move_36 : decode cX6_move 36 = .ok (.istore 7, 2) := by decide +kernel
theorem dX6_move_38 : decode cX6_move 38 = .ok (.iload_n 2, 1) := by decide +kernel
theorem dX6_move_39 : decode cX6_move 39 = .ok (.iload_n 3, 1) := by decide +kernel
theorem dX6_move_40 : decode cX6_move 40 = .ok (.invokestatic 72, 3) := by decide +kernel
theorem dX6_move_43 : decode cX6_move 43 = .ok (.iload_n 2, 1) := by decide +kernel
theorem dX6_move_44 : decode cX6_move 44 = .ok (.iload 6, 2) := by decide +kernel
theorem dX6_move_46 : decode cX6_move 46 = .ok (.iadd, 1) := by decide +kernel
theorem dX6_move_47 : decode cX6_move 47 = .ok (.iload_n 3, 1) := by decide +kernel
theorem dX6_move_48 : decode cX6_move 48 = .ok (.iload 7, 2) := by decide +kernel
theorem dX6_move_50 : decode cX6_move 50 = .ok (.iadd, 1) := by decide +kernel
theorem dX6_move_51 : decode cX6_move 51 = .ok (.invokestatic 72, 3) := by decide +kernel
theorem dX6_move_54 : decode cX6_move 54 = .ok (.aload 5, 2) := by decide +kernel
theorem dX6_move_56 : decode cX6_move 56 = .ok (.iload_n 1, 1) := by decide +kernel
theorem dX6_move_57 : decode cX6_move 57 = .ok (.iload_n 2, 1) := by decide +kernel
theorem dX6_move_58 : decode cX6_move 58 = .ok (.iload_n 3, 1) := by decide +kernel
theorem dX6_move_59 : decode cX6_move 59 = .ok (.iload 6, 2) := by decide +kernel
theorem dX6_move_61 : decode cX6_move 61 = .ok (.iload 7, 2) := by decide +kernel
theorem dX6_move_63 : decode cX6_move 63 = .ok (.invokevirtual 125, 3) := by decide +kernel
theorem dX6_move_66 : decode cX6_move 66 = .ok (.istore 8, 2) := by decide +kernel
theorem dX6_move_68 : decode cX6_move 68 = .ok (.aload 5, 2) := by decide +kernel
theorem dX6_move_70 : decode cX6_move 70 = .ok (.iload_n 1, 1) := by decide +kernel
theorem dX6_move_71 : decode cX6_move 71 = .ok (.iload_n 2, 1) := by decide +kernel
theorem dX6_move_72 : decode cX6_move 72 = .ok (.iload_n 3, 1) := by decide +kernel
theorem dX6_move_73 : decode cX6_move 73 = .ok (.iload 6, 2) := by decide +kernel
theorem dX6_move_75 : decode cX6_move 75 = .ok (.iload 7, 2) := by decide +kernel
theorem dX6_move_77 : decode cX6_move 77 = .ok (.invokevirtual 93, 3) := by decide +kernel
theorem dX6_move_80 : decode cX6_move 80 = .ok (.aload 4, 2) := by decide +kernel
theorem dX6_move_82 : decode cX6_move 82 = .ok (.iload_n 1, 1) := by decide +kernel
theorem dX6_move_83 : decode cX6_move 83 = .ok (.invokevirtual 129, 3) := by decide +kernel
theorem dX6_move_86 : decode cX6_move 86 = .ok (.aload 4, 2) := by decide +kernel
theorem dX6_move_88 : decode cX6_move 88 = .ok (.aload_n 0, 1) := by decide +kernel
theorem dX6_move_89 : decode cX6_move 89 = .ok (.getfield 10, 3) := by decide +kernel
theorem dX6_move_92 : decode cX6_move 92 = .ok (.invokevirtual 50, 3) := by decide +kernel
theorem dX6_move_95 : decode cX6_move 95 = .ok (.iload 8, 2) := by decide +kernel
theorem dX6_move_97 : decode cX6_move 97 = .ok (.ireturn, 1) := by decide +kernel
theorem dX6_remove_0 : decode cX6_remove 0 = .ok (.aload_n 0, 1) := by decide +kernel
theorem dX6_remove_1 : decode cX6_remove 1 = .ok (.iload_n 1, 1) := by decide +kernel
theorem dX6_remove_2 : decode cX6_remove 2 = .ok (.invokevirtual 109, 3) := by decide +kernel
theorem dX6_remove_5 : decode cX6_remove 5 = .ok (.astore_n 2, 1) := by decide +kernel
theorem dX6_remove_6 : decode cX6_remove 6 = .ok (.aload_n 0, 1) := by decide +kernel
theorem dX6_remove_7 : decode cX6_remove 7 = .ok (.getfield 10, 3) := by decide +kernel
theorem dX6_remove_10 : decode cX6_remove 10 = .ok (.getfield 132, 3) := by decide +kernel
theorem dX6_remove_13 : decode cX6_remove 13 = .ok (.iload_n 1, 1) := by decide +kernel
theorem dX6_remove_14 : decode cX6_remove 14 = .ok (.iconst (-1), 1) := by decide +kernel
theorem dX6_remove_15 : decode cX6_remove 15 = .ok (.invokevirtual 135, 3) := by decide +kernel
theorem dX6_remove_18 : decode cX6_remove 18 = .ok (.aload_n 2, 1) := by decide +kernel
theorem dX6_remove_19 : decode cX6_remove 19 = .ok (.iload_n 1, 1) := by decide +kernel
theorem dX6_remove_20 : decode cX6_remove 20 = .ok (.invokevirtual 129, 3) := by decide +kernel
theorem dX6_remove_23 : decode cX6_remove 23 = .ok (.aload_n 2, 1) := by decide +kernel
theorem dX6_remove_24 : decode cX6_remove 24 = .ok (.aload_n 0, 1) := by decide +kernel
theorem dX6_remove_25 : decode cX6_remove 25 = .ok (.getfield 10, 3) := by decide +kernel
theorem dX6_remove_28 : decode cX6_remove 28 = .ok (.invokevirtual 50, 3) := by decide +kernel
theorem dX6_remove_31 : decode cX6_remove 31 = .ok (.aload_n 0, 1) := by decide +kernel
theorem dX6_remove_32 : decode cX6_remove 32 = .ok (.getfield 10, 3) := by decide +kernel
theorem dX6_remove_35 : decode cX6_remove 35 = .ok (.aload_n 2, 1) := by decide +kernel
theorem dX6_remove_36 : decode cX6_remove 36 = .ok (.getfield 54, 3) := by decide +kernel
theorem dX6_remove_39 : decode cX6_remove 39 = .ok (.invokevirtual 137, 3) := by decide +kernel
theorem dX6_remove_42 : decode cX6_remove 42 = .ok (.ireturn, 1) := by decide +kernel
theorem dX6_pack_0 : decode cX6_pack 0 = .ok (.aload_n 0, 1) := by decide +kernel
theorem dX6_pack_1 : decode cX6_pack 1 = .ok (.iload_n 1, 1) := by decide +kernel
theorem dX6_pack_2 : decode cX6_pack 2 = .ok (.invokevirtual 57, 3) := by decide +kernel
theorem dX6_pack_5 : decode cX6_pack 5 = .ok (.astore_n 2, 1) := by decide +kernel
theorem dX6_pack_6 : decode cX6_pack 6 = .ok (.aload_n 2, 1) := by decide +kernel
theorem dX6_pack_7 : decode cX6_pack 7 = .ok (.invokestatic 99, 3) := by decide +kernel
theorem dX6_pack_10 : decode cX6_pack 10 = .ok (.aload_n 2, 1) := by decide +kernel
theorem dX6_pack_11 : decode cX6_pack 11 = .ok (.getfield 140, 3) := by decide +kernel
theorem dX6_pack_14 : decode cX6_pack 14 = .ok (.aload_n 0, 1) := by decide +kernel
theorem dX6_pack_15 : decode cX6_pack 15 = .ok (.getfield 10, 3) := by decide +kernel
theorem dX6_pack_18 : decode cX6_pack 18 = .ok (.iload_n 1, 1) := by decide +kernel
theorem dX6_pack_19 : decode cX6_pack 19 = .ok (.aload_n 2, 1) := by decide +kernel
theorem dX6_pack_20 : decode cX6_pack 20 = .ok (.getfield 65, 3) := by decide +kernel
theorem dX6_pack_23 : decode cX6_pack 23 = .ok (.invokevirtual 143, 3) := by decide +kernel
theorem dX6_pack_26 : decode cX6_pack 26 = .ok (.aload_n 2, 1) := by decide +kernel
theorem dX6_pack_27 : decode cX6_pack 27 = .ok (.getfield 140, 3) := by decide +kernel
theorem dX6_pack_30 : decode cX6_pack 30 = .ok (.getfield 147, 3) := by decide +kernel
theorem dX6_pack_33 : decode cX6_pack 33 = .ok (.ireturn, 1) := by decide +kernel
theorem dX6_things_0 : decode cX6_things 0 = .ok (.aload_n 0, 1) := by decide +kernel
theorem dX6_things_1 : decode cX6_things 1 = .ok (.getfield 10, 3) := by decide +kernel
theorem dX6_things_4 : decode cX6_things 4 = .ok (.getfield 106, 3) := by decide +kernel
theorem dX6_things_7 : decode cX6_things 7 = .ok (.ireturn, 1) := by decide +kernel
theorem dX6_size_0 : decode cX6_size 0 = .ok (.aload_n 0, 1) := by decide +kernel
theorem dX6_size_1 : decode cX6_size 1 = .ok (.getfield 10, 3) := by decide +kernel
theorem dX6_size_4 : decode cX6_size 4 = .ok (.aload_n 0, 1) := by decide +kernel
theorem dX6_size_5 : decode cX6_size 5 = .ok (.iload_n 1, 1) := by decide +kernel
theorem dX6_size_6 : decode cX6_size 6 = .ok (.invokevirtual 57, 3) := by decide +kernel
theorem dX6_size_9 : decode cX6_size 9 = .ok (.getfield 54, 3) := by decide +kernel
theorem dX6_size_12 : decode cX6_size 12 = .ok (.invokevirtual 137, 3) := by decide +kernel
theorem dX6_size_15 : decode cX6_size 15 = .ok (.ireturn, 1) := by decide +kernel
theorem dX6_of_0 : decode cX6_of 0 = .ok (.aload_n 0, 1) := by decide +kernel
theorem dX6_of_1 : decode cX6_of 1 = .ok (.iload_n 1, 1) := by decide +kernel
theorem dX6_of_2 : decode cX6_of 2 = .ok (.invokevirtual 109, 3) := by decide +kernel
theorem dX6_of_5 : decode cX6_of 5 = .ok (.astore_n 3, 1) := by decide +kernel
theorem dX6_of_6 : decode cX6_of 6 = .ok (.iload_n 2, 1) := by decide +kernel
theorem dX6_of_7 : decode cX6_of 7 = .ok (.tableswitch 132 0 6 #[41, 46, 61, 76, 91, 106, 118], 41) := by decide +kernel
theorem dX6_of_48 : decode cX6_of 48 = .ok (.aload_n 3, 1) := by decide +kernel
theorem dX6_of_49 : decode cX6_of 49 = .ok (.getfield 54, 3) := by decide +kernel
theorem dX6_of_52 : decode cX6_of 52 = .ok (.ireturn, 1) := by decide +kernel
theorem dX6_of_53 : decode cX6_of 53 = .ok (.aload_n 0, 1) := by decide +kernel
theorem dX6_of_54 : decode cX6_of 54 = .ok (.getfield 10, 3) := by decide +kernel
theorem dX6_of_57 : decode cX6_of 57 = .ok (.getfield 89, 3) := by decide +kernel
theorem dX6_of_60 : decode cX6_of 60 = .ok (.getfield 150, 3) := by decide +kernel
theorem dX6_of_63 : decode cX6_of 63 = .ok (.iload_n 1, 1) := by decide +kernel
theorem dX6_of_64 : decode cX6_of 64 = .ok (.invokevirtual 116, 3) := by decide +kernel
theorem dX6_of_67 : decode cX6_of 67 = .ok (.ireturn, 1) := by decide +kernel
theorem dX6_of_68 : decode cX6_of 68 = .ok (.aload_n 0, 1) := by decide +kernel
theorem dX6_of_69 : decode cX6_of 69 = .ok (.getfield 10, 3) := by decide +kernel
theorem dX6_of_72 : decode cX6_of 72 = .ok (.getfield 89, 3) := by decide +kernel
theorem dX6_of_75 : decode cX6_of 75 = .ok (.getfield 153, 3) := by decide +kernel
theorem dX6_of_78 : decode cX6_of 78 = .ok (.iload_n 1, 1) := by decide +kernel
theorem dX6_of_79 : decode cX6_of 79 = .ok (.invokevirtual 116, 3) := by decide +kernel
theorem dX6_of_82 : decode cX6_of 82 = .ok (.ireturn, 1) := by decide +kernel
theorem dX6_of_83 : decode cX6_of 83 = .ok (.aload_n 0, 1) := by decide +kernel
theorem dX6_of_84 : decode cX6_of 84 = .ok (.getfield 10, 3) := by decide +kernel
theorem dX6_of_87 : decode cX6_of 87 = .ok (.getfield 89, 3) := by decide +kernel
theorem dX6_of_90 : decode cX6_of 90 = .ok (.getfield 112, 3) := by decide +kernel
theorem dX6_of_93 : decode cX6_of 93 = .ok (.iload_n 1, 1) := by decide +kernel
theorem dX6_of_94 : decode cX6_of 94 = .ok (.invokevirtual 116, 3) := by decide +kernel
theorem dX6_of_97 : decode cX6_of 97 = .ok (.ireturn, 1) := by decide +kernel
theorem dX6_of_98 : decode cX6_of 98 = .ok (.aload_n 0, 1) := by decide +kernel
theorem dX6_of_99 : decode cX6_of 99 = .ok (.getfield 10, 3) := by decide +kernel
theorem dX6_of_102 : decode cX6_of 102 = .ok (.getfield 89, 3) := by decide +kernel
theorem dX6_of_105 : decode cX6_of 105 = .ok (.getfield 122, 3) := by decide +kernel
theorem dX6_of_108 : decode cX6_of 108 = .ok (.iload_n 1, 1) := by decide +kernel
theorem dX6_of_109 : decode cX6_of 109 = .ok (.invokevirtual 116, 3) := by decide +kernel
theorem dX6_of_112 : decode cX6_of 112 = .ok (.ireturn, 1) := by decide +kernel
theorem dX6_of_113 : decode cX6_of 113 = .ok (.aload_n 0, 1) := by decide +kernel
theorem dX6_of_114 : decode cX6_of 114 = .ok (.getfield 10, 3) := by decide +kernel
theorem dX6_of_117 : decode cX6_of 117 = .ok (.getfield 156, 3) := by decide +kernel
theorem dX6_of_120 : decode cX6_of 120 = .ok (.iload_n 1, 1) := by decide +kernel
theorem dX6_of_121 : decode cX6_of 121 = .ok (.invokevirtual 116, 3) := by decide +kernel
theorem dX6_of_124 : decode cX6_of 124 = .ok (.ireturn, 1) := by decide +kernel
theorem dX6_of_125 : decode cX6_of 125 = .ok (.aload_n 3, 1) := by decide +kernel
theorem dX6_of_126 : decode cX6_of 126 = .ok (.iload_n 1, 1) := by decide +kernel
theorem dX6_of_127 : decode cX6_of 127 = .ok (.invokevirtual 159, 3) := by decide +kernel
theorem dX6_of_130 : decode cX6_of 130 = .ok (.ifCond .eq 7, 3) := by decide +kernel
theorem dX6_of_133 : decode cX6_of 133 = .ok (.iconst 1, 1) := by decide +kernel
theorem dX6_of_134 : decode cX6_of 134 = .ok (.goto 4, 3) := by decide +kernel
theorem dX6_of_137 : decode cX6_of 137 = .ok (.iconst 0, 1) := by decide +kernel
theorem dX6_of_138 : decode cX6_of 138 = .ok (.ireturn, 1) := by decide +kernel
theorem dX6_of_139 : decode cX6_of 139 = .ok (.new 76, 3) := by decide +kernel
theorem dX6_of_142 : decode cX6_of 142 = .ok (.dup, 1) := by decide +kernel
theorem dX6_of_143 : decode cX6_of 143 = .ok (.ldc 163, 2) := by decide +kernel
theorem dX6_of_145 : decode cX6_of 145 = .ok (.invokespecial 80, 3) := by decide +kernel
theorem dX6_of_148 : decode cX6_of 148 = .ok (.athrow, 1) := by decide +kernel
theorem dX6_nodes_0 : decode cX6_nodes 0 = .ok (.aload_n 0, 1) := by decide +kernel
theorem dX6_nodes_1 : decode cX6_nodes 1 = .ok (.iload_n 1, 1) := by decide +kernel
theorem dX6_nodes_2 : decode cX6_nodes 2 = .ok (.invokevirtual 57, 3) := by decide +kernel
theorem dX6_nodes_5 : decode cX6_nodes 5 = .ok (.getfield 140, 3) := by decide +kernel
theorem dX6_nodes_8 : decode cX6_nodes 8 = .ok (.getfield 147, 3) := by decide +kernel
theorem dX6_nodes_11 : decode cX6_nodes 11 = .ok (.ireturn, 1) := by decide +kernel
theorem dX6_depth_0 : decode cX6_depth 0 = .ok (.aload_n 0, 1) := by decide +kernel
theorem dX6_depth_1 : decode cX6_depth 1 = .ok (.iload_n 1, 1) := by decide +kernel
theorem dX6_depth_2 : decode cX6_depth 2 = .ok (.invokevirtual 57, 3) := by decide +kernel
theorem dX6_depth_5 : decode cX6_depth 5 = .ok (.getfield 140, 3) := by decide +kernel
theorem dX6_depth_8 : decode cX6_depth 8 = .ok (.invokevirtual 165, 3) := by decide +kernel
theorem dX6_depth_11 : decode cX6_depth 11 = .ok (.ireturn, 1) := by decide +kernel
theorem dX6_leaf_0 : decode cX6_leaf 0 = .ok (.aload_n 0, 1) := by decide +kernel
theorem dX6_leaf_1 : decode cX6_leaf 1 = .ok (.iload_n 1, 1) := by decide +kernel
theorem dX6_leaf_2 : decode cX6_leaf 2 = .ok (.invokevirtual 57, 3) := by decide +kernel
theorem dX6_leaf_5 : decode cX6_leaf 5 = .ok (.astore 5, 2) := by decide +kernel
theorem dX6_leaf_7 : decode cX6_leaf 7 = .ok (.aload 5, 2) := by decide +kernel
theorem dX6_leaf_9 : decode cX6_leaf 9 = .ok (.invokestatic 68, 3) := by decide +kernel
theorem dX6_leaf_12 : decode cX6_leaf 12 = .ok (.iload_n 2, 1) := by decide +kernel
theorem dX6_leaf_13 : decode cX6_leaf 13 = .ok (.iload_n 3, 1) := by decide +kernel
theorem dX6_leaf_14 : decode cX6_leaf 14 = .ok (.invokestatic 72, 3) := by decide +kernel
theorem dX6_leaf_17 : decode cX6_leaf 17 = .ok (.aload 5, 2) := by decide +kernel
theorem dX6_leaf_19 : decode cX6_leaf 19 = .ok (.getfield 140, 3) := by decide +kernel
theorem dX6_leaf_22 : decode cX6_leaf 22 = .ok (.astore 6, 2) := by decide +kernel
theorem dX6_leaf_24 : decode cX6_leaf 24 = .ok (.aload 6, 2) := by decide +kernel
theorem dX6_leaf_26 : decode cX6_leaf 26 = .ok (.iload_n 2, 1) := by decide +kernel
theorem dX6_leaf_27 : decode cX6_leaf 27 = .ok (.iload_n 3, 1) := by decide +kernel
theorem dX6_leaf_28 : decode cX6_leaf 28 = .ok (.invokevirtual 169, 3) := by decide +kernel
theorem dX6_leaf_31 : decode cX6_leaf 31 = .ok (.istore 7, 2) := by decide +kernel
theorem dX6_leaf_33 : decode cX6_leaf 33 = .ok (.iload 4, 2) := by decide +kernel
theorem dX6_leaf_35 : decode cX6_leaf 35 = .ok (.tableswitch 99 0 4 #[33, 47, 61, 77, 88], 33) := by decide +kernel
theorem dX6_leaf_68 : decode cX6_leaf 68 = .ok (.aload 6, 2) := by decide +kernel
theorem dX6_leaf_70 : decode cX6_leaf 70 = .ok (.getfield 172, 3) := by decide +kernel
theorem dX6_leaf_73 : decode cX6_leaf 73 = .ok (.getfield 150, 3) := by decide +kernel
theorem dX6_leaf_76 : decode cX6_leaf 76 = .ok (.iload 7, 2) := by decide +kernel
theorem dX6_leaf_78 : decode cX6_leaf 78 = .ok (.invokevirtual 116, 3) := by decide +kernel
theorem dX6_leaf_81 : decode cX6_leaf 81 = .ok (.ireturn, 1) := by decide +kernel
theorem dX6_leaf_82 : decode cX6_leaf 82 = .ok (.aload 6, 2) := by decide +kernel
theorem dX6_leaf_84 : decode cX6_leaf 84 = .ok (.getfield 172, 3) := by decide +kernel
theorem dX6_leaf_87 : decode cX6_leaf 87 = .ok (.getfield 153, 3) := by decide +kernel
theorem dX6_leaf_90 : decode cX6_leaf 90 = .ok (.iload 7, 2) := by decide +kernel
theorem dX6_leaf_92 : decode cX6_leaf 92 = .ok (.invokevirtual 116, 3) := by decide +kernel
theorem dX6_leaf_95 : decode cX6_leaf 95 = .ok (.ireturn, 1) := by decide +kernel
theorem dX6_leaf_96 : decode cX6_leaf 96 = .ok (.aload 6, 2) := by decide +kernel
theorem dX6_leaf_98 : decode cX6_leaf 98 = .ok (.getfield 172, 3) := by decide +kernel
theorem dX6_leaf_101 : decode cX6_leaf 101 = .ok (.getfield 112, 3) := by decide +kernel
theorem dX6_leaf_104 : decode cX6_leaf 104 = .ok (.iload 7, 2) := by decide +kernel
theorem dX6_leaf_106 : decode cX6_leaf 106 = .ok (.invokevirtual 116, 3) := by decide +kernel
theorem dX6_leaf_109 : decode cX6_leaf 109 = .ok (.iconst 1, 1) := by decide +kernel
theorem dX6_leaf_110 : decode cX6_leaf 110 = .ok (.iadd, 1) := by decide +kernel
theorem dX6_leaf_111 : decode cX6_leaf 111 = .ok (.ireturn, 1) := by decide +kernel
theorem dX6_leaf_112 : decode cX6_leaf 112 = .ok (.aload 6, 2) := by decide +kernel
theorem dX6_leaf_114 : decode cX6_leaf 114 = .ok (.getfield 173, 3) := by decide +kernel
theorem dX6_leaf_117 : decode cX6_leaf 117 = .ok (.iload 7, 2) := by decide +kernel
theorem dX6_leaf_119 : decode cX6_leaf 119 = .ok (.invokevirtual 116, 3) := by decide +kernel
theorem dX6_leaf_122 : decode cX6_leaf 122 = .ok (.ireturn, 1) := by decide +kernel
theorem dX6_leaf_123 : decode cX6_leaf 123 = .ok (.aload 6, 2) := by decide +kernel
theorem dX6_leaf_125 : decode cX6_leaf 125 = .ok (.getfield 176, 3) := by decide +kernel
theorem dX6_leaf_128 : decode cX6_leaf 128 = .ok (.iload 7, 2) := by decide +kernel
theorem dX6_leaf_130 : decode cX6_leaf 130 = .ok (.invokevirtual 116, 3) := by decide +kernel
theorem dX6_leaf_133 : decode cX6_leaf 133 = .ok (.ireturn, 1) := by decide +kernel
theorem dX6_leaf_134 : decode cX6_leaf 134 = .ok (.new 76, 3) := by decide +kernel
theorem dX6_leaf_137 : decode cX6_leaf 137 = .ok (.dup, 1) := by decide +kernel
theorem dX6_leaf_138 : decode cX6_leaf 138 = .ok (.ldc 179, 2) := by decide +kernel
theorem dX6_leaf_140 : decode cX6_leaf 140 = .ok (.invokespecial 80, 3) := by decide +kernel
theorem dX6_leaf_143 : decode cX6_leaf 143 = .ok (.athrow, 1) := by decide +kernel
theorem dX6_level_0 : decode cX6_level 0 = .ok (.aload_n 0, 1) := by decide +kernel
theorem dX6_level_1 : decode cX6_level 1 = .ok (.iload_n 1, 1) := by decide +kernel
theorem dX6_level_2 : decode cX6_level 2 = .ok (.invokevirtual 57, 3) := by decide +kernel
theorem dX6_level_5 : decode cX6_level 5 = .ok (.astore_n 3, 1) := by decide +kernel
theorem dX6_level_6 : decode cX6_level 6 = .ok (.aload_n 3, 1) := by decide +kernel
theorem dX6_level_7 : decode cX6_level 7 = .ok (.invokestatic 99, 3) := by decide +kernel
theorem dX6_level_10 : decode cX6_level 10 = .ok (.iload_n 2, 1) := by decide +kernel
theorem dX6_level_11 : decode cX6_level 11 = .ok (.ifCond .ge 13, 3) := by decide +kernel
theorem dX6_level_14 : decode cX6_level 14 = .ok (.new 76, 3) := by decide +kernel
theorem dX6_level_17 : decode cX6_level 17 = .ok (.dup, 1) := by decide +kernel
theorem dX6_level_18 : decode cX6_level 18 = .ok (.ldc 181, 2) := by decide +kernel
theorem dX6_level_20 : decode cX6_level 20 = .ok (.invokespecial 80, 3) := by decide +kernel
theorem dX6_level_23 : decode cX6_level 23 = .ok (.athrow, 1) := by decide +kernel
theorem dX6_level_24 : decode cX6_level 24 = .ok (.aload_n 3, 1) := by decide +kernel
theorem dX6_level_25 : decode cX6_level 25 = .ok (.getfield 140, 3) := by decide +kernel
theorem dX6_level_28 : decode cX6_level 28 = .ok (.iload_n 2, 1) := by decide +kernel
theorem dX6_level_29 : decode cX6_level 29 = .ok (.invokevirtual 183, 3) := by decide +kernel
theorem dX6_level_32 : decode cX6_level 32 = .ok (.ireturn, 1) := by decide +kernel
theorem dX6_node_0 : decode cX6_node 0 = .ok (.aload_n 0, 1) := by decide +kernel
theorem dX6_node_1 : decode cX6_node 1 = .ok (.iload_n 1, 1) := by decide +kernel
theorem dX6_node_2 : decode cX6_node 2 = .ok (.invokevirtual 57, 3) := by decide +kernel
theorem dX6_node_5 : decode cX6_node 5 = .ok (.astore 5, 2) := by decide +kernel
theorem dX6_node_7 : decode cX6_node 7 = .ok (.aload 5, 2) := by decide +kernel
theorem dX6_node_9 : decode cX6_node 9 = .ok (.invokestatic 99, 3) := by decide +kernel
theorem dX6_node_12 : decode cX6_node 12 = .ok (.aload 5, 2) := by decide +kernel
theorem dX6_node_14 : decode cX6_node 14 = .ok (.getfield 140, 3) := by decide +kernel
theorem dX6_node_17 : decode cX6_node 17 = .ok (.astore 6, 2) := by decide +kernel
theorem dX6_node_19 : decode cX6_node 19 = .ok (.iload_n 3, 1) := by decide +kernel
theorem dX6_node_20 : decode cX6_node 20 = .ok (.ifCond .lt 13, 3) := by decide +kernel
theorem dX6_node_23 : decode cX6_node 23 = .ok (.iload_n 3, 1) := by decide +kernel
theorem dX6_node_24 : decode cX6_node 24 = .ok (.aload 6, 2) := by decide +kernel
theorem dX6_node_26 : decode cX6_node 26 = .ok (.iload_n 2, 1) := by decide +kernel
theorem dX6_node_27 : decode cX6_node 27 = .ok (.invokevirtual 183, 3) := by decide +kernel
theorem dX6_node_30 : decode cX6_node 30 = .ok (.if_icmp .lt 13, 3) := by decide +kernel
theorem dX6_node_33 : decode cX6_node 33 = .ok (.new 186, 3) := by decide +kernel
theorem dX6_node_36 : decode cX6_node 36 = .ok (.dup, 1) := by decide +kernel
theorem dX6_node_37 : decode cX6_node 37 = .ok (.ldc 188, 2) := by decide +kernel
theorem dX6_node_39 : decode cX6_node 39 = .ok (.invokespecial 190, 3) := by decide +kernel
theorem dX6_node_42 : decode cX6_node 42 = .ok (.athrow, 1) := by decide +kernel
theorem dX6_node_43 : decode cX6_node 43 = .ok (.aload 6, 2) := by decide +kernel
theorem dX6_node_45 : decode cX6_node 45 = .ok (.iload_n 2, 1) := by decide +kernel
theorem dX6_node_46 : decode cX6_node 46 = .ok (.invokevirtual 191, 3) := by decide +kernel
theorem dX6_node_49 : decode cX6_node 49 = .ok (.iload_n 3, 1) := by decide +kernel
theorem dX6_node_50 : decode cX6_node 50 = .ok (.iadd, 1) := by decide +kernel
theorem dX6_node_51 : decode cX6_node 51 = .ok (.istore 7, 2) := by decide +kernel
theorem dX6_node_53 : decode cX6_node 53 = .ok (.iload 4, 2) := by decide +kernel
theorem dX6_node_55 : decode cX6_node 55 = .ok (.tableswitch 123 0 4 #[33, 47, 61, 75, 89], 33) := by decide +kernel
theorem dX6_node_88 : decode cX6_node 88 = .ok (.aload 6, 2) := by decide +kernel
theorem dX6_node_90 : decode cX6_node 90 = .ok (.getfield 172, 3) := by decide +kernel
theorem dX6_node_93 : decode cX6_node 93 = .ok (.getfield 150, 3) := by decide +kernel
theorem dX6_node_96 : decode cX6_node 96 = .ok (.iload 7, 2) := by decide +kernel
theorem dX6_node_98 : decode cX6_node 98 = .ok (.invokevirtual 116, 3) := by decide +kernel
theorem dX6_node_101 : decode cX6_node 101 = .ok (.ireturn, 1) := by decide +kernel
theorem dX6_node_102 : decode cX6_node 102 = .ok (.aload 6, 2) := by decide +kernel
theorem dX6_node_104 : decode cX6_node 104 = .ok (.getfield 172, 3) := by decide +kernel
theorem dX6_node_107 : decode cX6_node 107 = .ok (.getfield 153, 3) := by decide +kernel
theorem dX6_node_110 : decode cX6_node 110 = .ok (.iload 7, 2) := by decide +kernel
theorem dX6_node_112 : decode cX6_node 112 = .ok (.invokevirtual 116, 3) := by decide +kernel
theorem dX6_node_115 : decode cX6_node 115 = .ok (.ireturn, 1) := by decide +kernel
theorem dX6_node_116 : decode cX6_node 116 = .ok (.aload 6, 2) := by decide +kernel
theorem dX6_node_118 : decode cX6_node 118 = .ok (.getfield 172, 3) := by decide +kernel
theorem dX6_node_121 : decode cX6_node 121 = .ok (.getfield 112, 3) := by decide +kernel
theorem dX6_node_124 : decode cX6_node 124 = .ok (.iload 7, 2) := by decide +kernel
theorem dX6_node_126 : decode cX6_node 126 = .ok (.invokevirtual 116, 3) := by decide +kernel
theorem dX6_node_129 : decode cX6_node 129 = .ok (.ireturn, 1) := by decide +kernel
theorem dX6_node_130 : decode cX6_node 130 = .ok (.aload 6, 2) := by decide +kernel
theorem dX6_node_132 : decode cX6_node 132 = .ok (.getfield 172, 3) := by decide +kernel
theorem dX6_node_135 : decode cX6_node 135 = .ok (.getfield 122, 3) := by decide +kernel
theorem dX6_node_138 : decode cX6_node 138 = .ok (.iload 7, 2) := by decide +kernel
theorem dX6_node_140 : decode cX6_node 140 = .ok (.invokevirtual 116, 3) := by decide +kernel
theorem dX6_node_143 : decode cX6_node 143 = .ok (.ireturn, 1) := by decide +kernel
theorem dX6_node_144 : decode cX6_node 144 = .ok (.aload 6, 2) := by decide +kernel
theorem dX6_node_146 : decode cX6_node 146 = .ok (.iload 7, 2) := by decide +kernel
theorem dX6_node_148 : decode cX6_node 148 = .ok (.invokevirtual 194, 3) := by decide +kernel
theorem dX6_node_151 : decode cX6_node 151 = .ok (.ifCond .eq 16, 3) := by decide +kernel
theorem dX6_node_154 : decode cX6_node 154 = .ok (.aload 6, 2) := by decide +kernel
theorem dX6_node_156 : decode cX6_node 156 = .ok (.getfield 173, 3) := by decide +kernel
theorem dX6_node_159 : decode cX6_node 159 = .ok (.iload 7, 2) := by decide +kernel
theorem dX6_node_161 : decode cX6_node 161 = .ok (.invokevirtual 116, 3) := by decide +kernel
theorem dX6_node_164 : decode cX6_node 164 = .ok (.goto 13, 3) := by decide +kernel
theorem dX6_node_167 : decode cX6_node 167 = .ok (.aload 6, 2) := by decide +kernel
theorem dX6_node_169 : decode cX6_node 169 = .ok (.getfield 197, 3) := by decide +kernel
theorem dX6_node_172 : decode cX6_node 172 = .ok (.iload 7, 2) := by decide +kernel
theorem dX6_node_174 : decode cX6_node 174 = .ok (.invokevirtual 116, 3) := by decide +kernel
theorem dX6_node_177 : decode cX6_node 177 = .ok (.ireturn, 1) := by decide +kernel
theorem dX6_node_178 : decode cX6_node 178 = .ok (.new 76, 3) := by decide +kernel
theorem dX6_node_181 : decode cX6_node 181 = .ok (.dup, 1) := by decide +kernel
theorem dX6_node_182 : decode cX6_node 182 = .ok (.ldc 179, 2) := by decide +kernel
theorem dX6_node_184 : decode cX6_node 184 = .ok (.invokespecial 80, 3) := by decide +kernel
theorem dX6_node_187 : decode cX6_node 187 = .ok (.athrow, 1) := by decide +kernel
theorem dX6_inBox_0 : decode cX6_inBox 0 = .ok (.aload_n 0, 1) := by decide +kernel
theorem dX6_inBox_1 : decode cX6_inBox 1 = .ok (.iload_n 1, 1) := by decide +kernel
theorem dX6_inBox_2 : decode cX6_inBox 2 = .ok (.invokevirtual 57, 3) := by decide +kernel
theorem dX6_inBox_5 : decode cX6_inBox 5 = .ok (.astore 6, 2) := by decide +kernel
theorem dX6_inBox_7 : decode cX6_inBox 7 = .ok (.iload_n 2, 1) := by decide +kernel
theorem dX6_inBox_8 : decode cX6_inBox 8 = .ok (.iload_n 3, 1) := by decide +kernel
theorem dX6_inBox_9 : decode cX6_inBox 9 = .ok (.invokestatic 72, 3) := by decide +kernel
theorem dX6_inBox_12 : decode cX6_inBox 12 = .ok (.iload 4, 2) := by decide +kernel
theorem dX6_inBox_14 : decode cX6_inBox 14 = .ok (.iload 5, 2) := by decide +kernel
theorem dX6_inBox_16 : decode cX6_inBox 16 = .ok (.invokestatic 72, 3) := by decide +kernel
theorem dX6_inBox_19 : decode cX6_inBox 19 = .ok (.aload_n 0, 1) := by decide +kernel
theorem dX6_inBox_20 : decode cX6_inBox 20 = .ok (.getfield 10, 3) := by decide +kernel
theorem dX6_inBox_23 : decode cX6_inBox 23 = .ok (.aload 6, 2) := by decide +kernel
theorem dX6_inBox_25 : decode cX6_inBox 25 = .ok (.getfield 54, 3) := by decide +kernel
theorem dX6_inBox_28 : decode cX6_inBox 28 = .ok (.iload_n 2, 1) := by decide +kernel
theorem dX6_inBox_29 : decode cX6_inBox 29 = .ok (.iload_n 3, 1) := by decide +kernel
theorem dX6_inBox_30 : decode cX6_inBox 30 = .ok (.iload 4, 2) := by decide +kernel
theorem dX6_inBox_32 : decode cX6_inBox 32 = .ok (.iload 5, 2) := by decide +kernel
theorem dX6_inBox_34 : decode cX6_inBox 34 = .ok (.invokevirtual 200, 3) := by decide +kernel
theorem dX6_inBox_37 : decode cX6_inBox 37 = .ok (.ireturn, 1) := by decide +kernel
theorem dX6_visited_0 : decode cX6_visited 0 = .ok (.aload_n 0, 1) := by decide +kernel
theorem dX6_visited_1 : decode cX6_visited 1 = .ok (.iload_n 1, 1) := by decide +kernel
theorem dX6_visited_2 : decode cX6_visited 2 = .ok (.invokevirtual 57, 3) := by decide +kernel
theorem dX6_visited_5 : decode cX6_visited 5 = .ok (.astore 6, 2) := by decide +kernel
theorem dX6_visited_7 : decode cX6_visited 7 = .ok (.iload_n 2, 1) := by decide +kernel
theorem dX6_visited_8 : decode cX6_visited 8 = .ok (.iload_n 3, 1) := by decide +kernel
theorem dX6_visited_9 : decode cX6_visited 9 = .ok (.invokestatic 72, 3) := by decide +kernel
theorem dX6_visited_12 : decode cX6_visited 12 = .ok (.iload 4, 2) := by decide +kernel
theorem dX6_visited_14 : decode cX6_visited 14 = .ok (.iload 5, 2) := by decide +kernel
theorem dX6_visited_16 : decode cX6_visited 16 = .ok (.invokestatic 72, 3) := by decide +kernel
theorem dX6_visited_19 : decode cX6_visited 19 = .ok (.aload 6, 2) := by decide +kernel
theorem dX6_visited_21 : decode cX6_visited 21 = .ok (.getfield 140, 3) := by decide +kernel
theorem dX6_visited_24 : decode cX6_visited 24 = .ok (.iload_n 2, 1) := by decide +kernel
theorem dX6_visited_25 : decode cX6_visited 25 = .ok (.iload_n 3, 1) := by decide +kernel
theorem dX6_visited_26 : decode cX6_visited 26 = .ok (.iload 4, 2) := by decide +kernel
theorem dX6_visited_28 : decode cX6_visited 28 = .ok (.iload 5, 2) := by decide +kernel
theorem dX6_visited_30 : decode cX6_visited 30 = .ok (.iconst 0, 1) := by decide +kernel
theorem dX6_visited_31 : decode cX6_visited 31 = .ok (.invokevirtual 203, 3) := by decide +kernel
theorem dX6_visited_34 : decode cX6_visited 34 = .ok (.ireturn, 1) := by decide +kernel
theorem dX6_nearest_0 : decode cX6_nearest 0 = .ok (.aload_n 0, 1) := by decide +kernel
theorem dX6_nearest_1 : decode cX6_nearest 1 = .ok (.iload_n 1, 1) := by decide +kernel
theorem dX6_nearest_2 : decode cX6_nearest 2 = .ok (.iload_n 2, 1) := by decide +kernel
theorem dX6_nearest_3 : decode cX6_nearest 3 = .ok (.iload_n 3, 1) := by decide +kernel
theorem dX6_nearest_4 : decode cX6_nearest 4 = .ok (.iload 4, 2) := by decide +kernel
theorem dX6_nearest_6 : decode cX6_nearest 6 = .ok (.invokevirtual 206, 3) := by decide +kernel
theorem dX6_nearest_9 : decode cX6_nearest 9 = .ok (.istore 5, 2) := by decide +kernel
theorem dX6_nearest_11 : decode cX6_nearest 11 = .ok (.iload 5, 2) := by decide +kernel
theorem dX6_nearest_13 : decode cX6_nearest 13 = .ok (.ifCond .ge 7, 3) := by decide +kernel
theorem dX6_nearest_16 : decode cX6_nearest 16 = .ok (.iconst (-1), 1) := by decide +kernel
theorem dX6_nearest_17 : decode cX6_nearest 17 = .ok (.goto 9, 3) := by decide +kernel
theorem dX6_nearest_20 : decode cX6_nearest 20 = .ok (.iload 5, 2) := by decide +kernel
theorem dX6_nearest_22 : decode cX6_nearest 22 = .ok (.sipush 128, 3) := by decide +kernel
theorem dX6_nearest_25 : decode cX6_nearest 25 = .ok (.irem, 1) := by decide +kernel
theorem dX6_nearest_26 : decode cX6_nearest 26 = .ok (.ireturn, 1) := by decide +kernel
theorem dX6_far_0 : decode cX6_far 0 = .ok (.aload_n 0, 1) := by decide +kernel
theorem dX6_far_1 : decode cX6_far 1 = .ok (.iload_n 1, 1) := by decide +kernel
theorem dX6_far_2 : decode cX6_far 2 = .ok (.iload_n 2, 1) := by decide +kernel
theorem dX6_far_3 : decode cX6_far 3 = .ok (.iload_n 3, 1) := by decide +kernel
theorem dX6_far_4 : decode cX6_far 4 = .ok (.iload 4, 2) := by decide +kernel
theorem dX6_far_6 : decode cX6_far 6 = .ok (.invokevirtual 206, 3) := by decide +kernel
theorem dX6_far_9 : decode cX6_far 9 = .ok (.istore 5, 2) := by decide +kernel
theorem dX6_far_11 : decode cX6_far 11 = .ok (.iload 5, 2) := by decide +kernel
theorem dX6_far_13 : decode cX6_far 13 = .ok (.ifCond .ge 7, 3) := by decide +kernel
theorem dX6_far_16 : decode cX6_far 16 = .ok (.iconst (-1), 1) := by decide +kernel
theorem dX6_far_17 : decode cX6_far 17 = .ok (.goto 9, 3) := by decide +kernel
theorem dX6_far_20 : decode cX6_far 20 = .ok (.iload 5, 2) := by decide +kernel
theorem dX6_far_22 : decode cX6_far 22 = .ok (.sipush 128, 3) := by decide +kernel
theorem dX6_far_25 : decode cX6_far 25 = .ok (.idiv, 1) := by decide +kernel
theorem dX6_far_26 : decode cX6_far 26 = .ok (.ireturn, 1) := by decide +kernel
theorem dX6_visitedFor_0 : decode cX6_visitedFor 0 = .ok (.aload_n 0, 1) := by decide +kernel
theorem dX6_visitedFor_1 : decode cX6_visitedFor 1 = .ok (.iload_n 1, 1) := by decide +kernel
theorem dX6_visitedFor_2 : decode cX6_visitedFor 2 = .ok (.iload_n 2, 1) := by decide +kernel
theorem dX6_visitedFor_3 : decode cX6_visitedFor 3 = .ok (.iload_n 3, 1) := by decide +kernel
theorem dX6_visitedFor_4 : decode cX6_visitedFor 4 = .ok (.iload 4, 2) := by decide +kernel
theorem dX6_visitedFor_6 : decode cX6_visitedFor 6 = .ok (.invokevirtual 206, 3) := by decide +kernel
theorem dX6_visitedFor_9 : decode cX6_visitedFor 9 = .ok (.istore 5, 2) := by decide +kernel
theorem dX6_visitedFor_11 : decode cX6_visitedFor 11 = .ok (.aload_n 0, 1) := by decide +kernel
theorem dX6_visitedFor_12 : decode cX6_visitedFor 12 = .ok (.iload_n 1, 1) := by decide +kernel
theorem dX6_visitedFor_13 : decode cX6_visitedFor 13 = .ok (.invokevirtual 57, 3) := by decide +kernel
theorem dX6_visitedFor_16 : decode cX6_visitedFor 16 = .ok (.getfield 140, 3) := by decide +kernel
theorem dX6_visitedFor_19 : decode cX6_visitedFor 19 = .ok (.astore 6, 2) := by decide +kernel
theorem dX6_visitedFor_21 : decode cX6_visitedFor 21 = .ok (.iload 5, 2) := by decide +kernel
theorem dX6_visitedFor_23 : decode cX6_visitedFor 23 = .ok (.ifCond .ge 11, 3) := by decide +kernel
theorem dX6_visitedFor_26 : decode cX6_visitedFor 26 = .ok (.aload 6, 2) := by decide +kernel
theorem dX6_visitedFor_28 : decode cX6_visitedFor 28 = .ok (.getfield 147, 3) := by decide +kernel
theorem dX6_visitedFor_31 : decode cX6_visitedFor 31 = .ok (.goto 18, 3) := by decide +kernel
theorem dX6_visitedFor_34 : decode cX6_visitedFor 34 = .ok (.aload 6, 2) := by decide +kernel
theorem dX6_visitedFor_36 : decode cX6_visitedFor 36 = .ok (.iload_n 2, 1) := by decide +kernel
theorem dX6_visitedFor_37 : decode cX6_visitedFor 37 = .ok (.iload_n 3, 1) := by decide +kernel
theorem dX6_visitedFor_38 : decode cX6_visitedFor 38 = .ok (.iconst 0, 1) := by decide +kernel
theorem dX6_visitedFor_39 : decode cX6_visitedFor 39 = .ok (.iconst 0, 1) := by decide +kernel
theorem dX6_visitedFor_40 : decode cX6_visitedFor 40 = .ok (.iload 5, 2) := by decide +kernel
theorem dX6_visitedFor_42 : decode cX6_visitedFor 42 = .ok (.sipush 128, 3) := by decide +kernel
theorem dX6_visitedFor_45 : decode cX6_visitedFor 45 = .ok (.idiv, 1) := by decide +kernel
theorem dX6_visitedFor_46 : decode cX6_visitedFor 46 = .ok (.invokevirtual 203, 3) := by decide +kernel
theorem dX6_visitedFor_49 : decode cX6_visitedFor 49 = .ok (.ireturn, 1) := by decide +kernel
theorem dX6_pairs_0 : decode cX6_pairs 0 = .ok (.aload_n 0, 1) := by decide +kernel
theorem dX6_pairs_1 : decode cX6_pairs 1 = .ok (.iload_n 1, 1) := by decide +kernel
theorem dX6_pairs_2 : decode cX6_pairs 2 = .ok (.invokevirtual 57, 3) := by decide +kernel
theorem dX6_pairs_5 : decode cX6_pairs 5 = .ok (.astore 4, 2) := by decide +kernel
theorem dX6_pairs_7 : decode cX6_pairs 7 = .ok (.aload_n 0, 1) := by decide +kernel
theorem dX6_pairs_8 : decode cX6_pairs 8 = .ok (.iload_n 2, 1) := by decide +kernel
theorem dX6_pairs_9 : decode cX6_pairs 9 = .ok (.invokevirtual 57, 3) := by decide +kernel
theorem dX6_pairs_12 : decode cX6_pairs 12 = .ok (.astore 5, 2) := by decide +kernel
theorem dX6_pairs_14 : decode cX6_pairs 14 = .ok (.iload_n 3, 1) := by decide +kernel
theorem dX6_pairs_15 : decode cX6_pairs 15 = .ok (.invokestatic 210, 3) := by decide +kernel
theorem dX6_pairs_18 : decode cX6_pairs 18 = .ok (.aload_n 0, 1) := by decide +kernel
theorem dX6_pairs_19 : decode cX6_pairs 19 = .ok (.getfield 10, 3) := by decide +kernel
theorem dX6_pairs_22 : decode cX6_pairs 22 = .ok (.aload 4, 2) := by decide +kernel
theorem dX6_pairs_24 : decode cX6_pairs 24 = .ok (.getfield 54, 3) := by decide +kernel
theorem dX6_pairs_27 : decode cX6_pairs 27 = .ok (.aload 5, 2) := by decide +kernel
theorem dX6_pairs_29 : decode cX6_pairs 29 = .ok (.getfield 54, 3) := by decide +kernel
theorem dX6_pairs_32 : decode cX6_pairs 32 = .ok (.iload_n 3, 1) := by decide +kernel
theorem dX6_pairs_33 : decode cX6_pairs 33 = .ok (.invokevirtual 213, 3) := by decide +kernel
theorem dX6_pairs_36 : decode cX6_pairs 36 = .ok (.ireturn, 1) := by decide +kernel
theorem dX6_visitedPairs_0 : decode cX6_visitedPairs 0 = .ok (.aload_n 0, 1) := by decide +kernel
theorem dX6_visitedPairs_1 : decode cX6_visitedPairs 1 = .ok (.iload_n 1, 1) := by decide +kernel
theorem dX6_visitedPairs_2 : decode cX6_visitedPairs 2 = .ok (.invokevirtual 57, 3) := by decide +kernel
theorem dX6_visitedPairs_5 : decode cX6_visitedPairs 5 = .ok (.getfield 140, 3) := by decide +kernel
theorem dX6_visitedPairs_8 : decode cX6_visitedPairs 8 = .ok (.astore 4, 2) := by decide +kernel
theorem dX6_visitedPairs_10 : decode cX6_visitedPairs 10 = .ok (.aload_n 0, 1) := by decide +kernel
theorem dX6_visitedPairs_11 : decode cX6_visitedPairs 11 = .ok (.iload_n 2, 1) := by decide +kernel
theorem dX6_visitedPairs_12 : decode cX6_visitedPairs 12 = .ok (.invokevirtual 57, 3) := by decide +kernel
theorem dX6_visitedPairs_15 : decode cX6_visitedPairs 15 = .ok (.getfield 140, 3) := by decide +kernel
theorem dX6_visitedPairs_18 : decode cX6_visitedPairs 18 = .ok (.astore 5, 2) := by decide +kernel
theorem dX6_visitedPairs_20 : decode cX6_visitedPairs 20 = .ok (.iload_n 3, 1) := by decide +kernel
theorem dX6_visitedPairs_21 : decode cX6_visitedPairs 21 = .ok (.invokestatic 210, 3) := by decide +kernel
theorem dX6_visitedPairs_24 : decode cX6_visitedPairs 24 = .ok (.aload 4, 2) := by decide +kernel
theorem dX6_visitedPairs_26 : decode cX6_visitedPairs 26 = .ok (.getfield 147, 3) := by decide +kernel
theorem dX6_visitedPairs_29 : decode cX6_visitedPairs 29 = .ok (.ifCond .eq 11, 3) := by decide +kernel
theorem dX6_visitedPairs_32 : decode cX6_visitedPairs 32 = .ok (.aload 5, 2) := by decide +kernel
theorem dX6_visitedPairs_34 : decode cX6_visitedPairs 34 = .ok (.getfield 147, 3) := by decide +kernel
theorem dX6_visitedPairs_37 : decode cX6_visitedPairs 37 = .ok (.ifCond .ne 5, 3) := by decide +kernel
theorem dX6_visitedPairs_40 : decode cX6_visitedPairs 40 = .ok (.iconst 0, 1) := by decide +kernel
theorem dX6_visitedPairs_41 : decode cX6_visitedPairs 41 = .ok (.ireturn, 1) := by decide +kernel
theorem dX6_visitedPairs_42 : decode cX6_visitedPairs 42 = .ok (.aload 4, 2) := by decide +kernel
theorem dX6_visitedPairs_44 : decode cX6_visitedPairs 44 = .ok (.aload 4, 2) := by decide +kernel
theorem dX6_visitedPairs_46 : decode cX6_visitedPairs 46 = .ok (.getfield 217, 3) := by decide +kernel
theorem dX6_visitedPairs_49 : decode cX6_visitedPairs 49 = .ok (.aload 5, 2) := by decide +kernel
theorem dX6_visitedPairs_51 : decode cX6_visitedPairs 51 = .ok (.aload 5, 2) := by decide +kernel
theorem dX6_visitedPairs_53 : decode cX6_visitedPairs 53 = .ok (.getfield 217, 3) := by decide +kernel
theorem dX6_visitedPairs_56 : decode cX6_visitedPairs 56 = .ok (.iload_n 3, 1) := by decide +kernel
theorem dX6_visitedPairs_57 : decode cX6_visitedPairs 57 = .ok (.iconst 0, 1) := by decide +kernel
theorem dX6_visitedPairs_58 : decode cX6_visitedPairs 58 = .ok (.invokestatic 220, 3) := by decide +kernel
theorem dX6_visitedPairs_61 : decode cX6_visitedPairs 61 = .ok (.ireturn, 1) := by decide +kernel
theorem dX6_clusters_0 : decode cX6_clusters 0 = .ok (.aload_n 0, 1) := by decide +kernel
theorem dX6_clusters_1 : decode cX6_clusters 1 = .ok (.iload_n 1, 1) := by decide +kernel
theorem dX6_clusters_2 : decode cX6_clusters 2 = .ok (.invokevirtual 57, 3) := by decide +kernel
theorem dX6_clusters_5 : decode cX6_clusters 5 = .ok (.astore_n 3, 1) := by decide +kernel
theorem dX6_clusters_6 : decode cX6_clusters 6 = .ok (.iload_n 2, 1) := by decide +kernel
theorem dX6_clusters_7 : decode cX6_clusters 7 = .ok (.invokestatic 210, 3) := by decide +kernel
theorem dX6_clusters_10 : decode cX6_clusters 10 = .ok (.aload_n 0, 1) := by decide +kernel
theorem dX6_clusters_11 : decode cX6_clusters 11 = .ok (.getfield 10, 3) := by decide +kernel
theorem dX6_clusters_14 : decode cX6_clusters 14 = .ok (.aload_n 3, 1) := by decide +kernel
theorem dX6_clusters_15 : decode cX6_clusters 15 = .ok (.getfield 54, 3) := by decide +kernel
theorem dX6_clusters_18 : decode cX6_clusters 18 = .ok (.iload_n 2, 1) := by decide +kernel
theorem dX6_clusters_19 : decode cX6_clusters 19 = .ok (.invokevirtual 224, 3) := by decide +kernel
theorem dX6_clusters_22 : decode cX6_clusters 22 = .ok (.aload_n 0, 1) := by decide +kernel
theorem dX6_clusters_23 : decode cX6_clusters 23 = .ok (.getfield 10, 3) := by decide +kernel
theorem dX6_clusters_26 : decode cX6_clusters 26 = .ok (.aload_n 3, 1) := by decide +kernel
theorem dX6_clusters_27 : decode cX6_clusters 27 = .ok (.getfield 54, 3) := by decide +kernel
theorem dX6_clusters_30 : decode cX6_clusters 30 = .ok (.invokevirtual 227, 3) := by decide +kernel
theorem dX6_clusters_33 : decode cX6_clusters 33 = .ok (.ireturn, 1) := by decide +kernel
theorem dX6_greatest_0 : decode cX6_greatest 0 = .ok (.aload_n 0, 1) := by decide +kernel
theorem dX6_greatest_1 : decode cX6_greatest 1 = .ok (.iload_n 1, 1) := by decide +kernel
theorem dX6_greatest_2 : decode cX6_greatest 2 = .ok (.invokevirtual 57, 3) := by decide +kernel
theorem dX6_greatest_5 : decode cX6_greatest 5 = .ok (.astore_n 3, 1) := by decide +kernel
theorem dX6_greatest_6 : decode cX6_greatest 6 = .ok (.iload_n 2, 1) := by decide +kernel
theorem dX6_greatest_7 : decode cX6_greatest 7 = .ok (.invokestatic 210, 3) := by decide +kernel
theorem dX6_greatest_10 : decode cX6_greatest 10 = .ok (.aload_n 0, 1) := by decide +kernel
theorem dX6_greatest_11 : decode cX6_greatest 11 = .ok (.getfield 10, 3) := by decide +kernel
theorem dX6_greatest_14 : decode cX6_greatest 14 = .ok (.aload_n 3, 1) := by decide +kernel
theorem dX6_greatest_15 : decode cX6_greatest 15 = .ok (.getfield 54, 3) := by decide +kernel
theorem dX6_greatest_18 : decode cX6_greatest 18 = .ok (.iload_n 2, 1) := by decide +kernel
theorem dX6_greatest_19 : decode cX6_greatest 19 = .ok (.invokevirtual 224, 3) := by decide +kernel
theorem dX6_greatest_22 : decode cX6_greatest 22 = .ok (.aload_n 0, 1) := by decide +kernel
theorem dX6_greatest_23 : decode cX6_greatest 23 = .ok (.getfield 10, 3) := by decide +kernel
theorem dX6_greatest_26 : decode cX6_greatest 26 = .ok (.aload_n 3, 1) := by decide +kernel
theorem dX6_greatest_27 : decode cX6_greatest 27 = .ok (.getfield 54, 3) := by decide +kernel
theorem dX6_greatest_30 : decode cX6_greatest 30 = .ok (.invokevirtual 230, 3) := by decide +kernel
theorem dX6_greatest_33 : decode cX6_greatest 33 = .ok (.ireturn, 1) := by decide +kernel
theorem dX6_area_0 : decode cX6_area 0 = .ok (.aload_n 0, 1) := by decide +kernel
theorem dX6_area_1 : decode cX6_area 1 = .ok (.getfield 25, 3) := by decide +kernel
theorem dX6_area_4 : decode cX6_area 4 = .ok (.getfield 233, 3) := by decide +kernel
theorem dX6_area_7 : decode cX6_area 7 = .ok (.iconst 3, 1) := by decide +kernel
theorem dX6_area_8 : decode cX6_area 8 = .ok (.if_icmp .ge 7, 3) := by decide +kernel
theorem dX6_area_11 : decode cX6_area 11 = .ok (.iconst 0, 1) := by decide +kernel
theorem dX6_area_12 : decode cX6_area 12 = .ok (.goto 10, 3) := by decide +kernel
theorem dX6_area_15 : decode cX6_area 15 = .ok (.aload_n 0, 1) := by decide +kernel
theorem dX6_area_16 : decode cX6_area 16 = .ok (.getfield 25, 3) := by decide +kernel
theorem dX6_area_19 : decode cX6_area 19 = .ok (.invokevirtual 249, 3) := by decide +kernel
theorem dX6_area_22 : decode cX6_area 22 = .ok (.ireturn, 1) := by decide +kernel
theorem dX6_nodesWith_0 : decode cX6_nodesWith 0 = .ok (.aload_n 0, 1) := by decide +kernel
theorem dX6_nodesWith_1 : decode cX6_nodesWith 1 = .ok (.iload_n 1, 1) := by decide +kernel
theorem dX6_nodesWith_2 : decode cX6_nodesWith 2 = .ok (.invokevirtual 57, 3) := by decide +kernel
theorem dX6_nodesWith_5 : decode cX6_nodesWith 5 = .ok (.astore_n 3, 1) := by decide +kernel
theorem dX6_nodesWith_6 : decode cX6_nodesWith 6 = .ok (.aload_n 3, 1) := by decide +kernel
theorem dX6_nodesWith_7 : decode cX6_nodesWith 7 = .ok (.iload_n 2, 1) := by decide +kernel
theorem dX6_nodesWith_8 : decode cX6_nodesWith 8 = .ok (.invokestatic 61, 3) := by decide +kernel
theorem dX6_nodesWith_11 : decode cX6_nodesWith 11 = .ok (.aload_n 3, 1) := by decide +kernel
theorem dX6_nodesWith_12 : decode cX6_nodesWith 12 = .ok (.getfield 252, 3) := by decide +kernel
theorem dX6_nodesWith_15 : decode cX6_nodesWith 15 = .ok (.ifCond .eq 19, 3) := by decide +kernel
theorem dX6_nodesWith_18 : decode cX6_nodesWith 18 = .ok (.aload_n 0, 1) := by decide +kernel
theorem dX6_nodesWith_19 : decode cX6_nodesWith 19 = .ok (.getfield 32, 3) := by decide +kernel
theorem dX6_nodesWith_22 : decode cX6_nodesWith 22 = .ok (.aload_n 0, 1) := by decide +kernel
theorem dX6_nodesWith_23 : decode cX6_nodesWith 23 = .ok (.getfield 10, 3) := by decide +kernel
theorem dX6_nodesWith_26 : decode cX6_nodesWith 26 = .ok (.iload_n 1, 1) := by decide +kernel
theorem dX6_nodesWith_27 : decode cX6_nodesWith 27 = .ok (.iload_n 2, 1) := by decide +kernel
theorem dX6_nodesWith_28 : decode cX6_nodesWith 28 = .ok (.invokevirtual 256, 3) := by decide +kernel
theorem dX6_nodesWith_31 : decode cX6_nodesWith 31 = .ok (.goto 16, 3) := by decide +kernel
theorem dX6_nodesWith_34 : decode cX6_nodesWith 34 = .ok (.aload_n 0, 1) := by decide +kernel
theorem dX6_nodesWith_35 : decode cX6_nodesWith 35 = .ok (.getfield 32, 3) := by decide +kernel
theorem dX6_nodesWith_38 : decode cX6_nodesWith 38 = .ok (.aload_n 0, 1) := by decide +kernel
theorem dX6_nodesWith_39 : decode cX6_nodesWith 39 = .ok (.getfield 10, 3) := by decide +kernel
theorem dX6_nodesWith_42 : decode cX6_nodesWith 42 = .ok (.iload_n 1, 1) := by decide +kernel
theorem dX6_nodesWith_43 : decode cX6_nodesWith 43 = .ok (.iload_n 2, 1) := by decide +kernel
theorem dX6_nodesWith_44 : decode cX6_nodesWith 44 = .ok (.invokevirtual 143, 3) := by decide +kernel
theorem dX6_nodesWith_47 : decode cX6_nodesWith 47 = .ok (.aload_n 0, 1) := by decide +kernel
theorem dX6_nodesWith_48 : decode cX6_nodesWith 48 = .ok (.getfield 32, 3) := by decide +kernel
theorem dX6_nodesWith_51 : decode cX6_nodesWith 51 = .ok (.getfield 147, 3) := by decide +kernel
theorem dX6_nodesWith_54 : decode cX6_nodesWith 54 = .ok (.ireturn, 1) := by decide +kernel
theorem dX6_digest_0 : decode cX6_digest 0 = .ok (.ldc2_w 259, 3) := by decide +kernel
theorem dX6_digest_3 : decode cX6_digest 3 = .ok (.aload_n 0, 1) := by decide +kernel
theorem dX6_digest_4 : decode cX6_digest 4 = .ok (.invokevirtual 261, 3) := by decide +kernel
theorem dX6_digest_7 : decode cX6_digest 7 = .ok (.i2l, 1) := by decide +kernel
theorem dX6_digest_8 : decode cX6_digest 8 = .ok (.ladd, 1) := by decide +kernel
theorem dX6_digest_9 : decode cX6_digest 9 = .ok (.lstore_n 1, 1) := by decide +kernel
theorem dX6_digest_10 : decode cX6_digest 10 = .ok (.iconst 0, 1) := by decide +kernel
theorem dX6_digest_11 : decode cX6_digest 11 = .ok (.istore_n 3, 1) := by decide +kernel
theorem dX6_digest_12 : decode cX6_digest 12 = .ok (.iload_n 3, 1) := by decide +kernel
theorem dX6_digest_13 : decode cX6_digest 13 = .ok (.aload_n 0, 1) := by decide +kernel
theorem dX6_digest_14 : decode cX6_digest 14 = .ok (.getfield 10, 3) := by decide +kernel
theorem dX6_digest_17 : decode cX6_digest 17 = .ok (.getfield 106, 3) := by decide +kernel
theorem dX6_digest_20 : decode cX6_digest 20 = .ok (.if_icmp .ge 64, 3) := by decide +kernel
theorem dX6_digest_23 : decode cX6_digest 23 = .ok (.aload_n 0, 1) := by decide +kernel
theorem dX6_digest_24 : decode cX6_digest 24 = .ok (.getfield 10, 3) := by decide +kernel
theorem dX6_digest_27 : decode cX6_digest 27 = .ok (.getfield 132, 3) := by decide +kernel
theorem dX6_digest_30 : decode cX6_digest 30 = .ok (.iload_n 3, 1) := by decide +kernel
theorem dX6_digest_31 : decode cX6_digest 31 = .ok (.invokevirtual 116, 3) := by decide +kernel
theorem dX6_digest_34 : decode cX6_digest 34 = .ok (.iconst (-1), 1) := by decide +kernel
theorem dX6_digest_35 : decode cX6_digest 35 = .ok (.if_icmp .eq 43, 3) := by decide +kernel
theorem dX6_digest_38 : decode cX6_digest 38 = .ok (.lload_n 1, 1) := by decide +kernel
theorem dX6_digest_39 : decode cX6_digest 39 = .ok (.ldc2_w 263, 3) := by decide +kernel
theorem dX6_digest_42 : decode cX6_digest 42 = .ok (.lmul, 1) := by decide +kernel
theorem dX6_digest_43 : decode cX6_digest 43 = .ok (.iload_n 3, 1) := by decide +kernel
theorem dX6_digest_44 : decode cX6_digest 44 = .ok (.i2l, 1) := by decide +kernel
theorem dX6_digest_45 : decode cX6_digest 45 = .ok (.ladd, 1) := by decide +kernel
theorem dX6_digest_46 : decode cX6_digest 46 = .ok (.lstore_n 1, 1) := by decide +kernel
theorem dX6_digest_47 : decode cX6_digest 47 = .ok (.iconst 0, 1) := by decide +kernel
theorem dX6_digest_48 : decode cX6_digest 48 = .ok (.istore 4, 2) := by decide +kernel
theorem dX6_digest_50 : decode cX6_digest 50 = .ok (.iload 4, 2) := by decide +kernel
theorem dX6_digest_52 : decode cX6_digest 52 = .ok (.bipush 6, 2) := by decide +kernel
theorem dX6_digest_54 : decode cX6_digest 54 = .ok (.if_icmp .gt 24, 3) := by decide +kernel
theorem dX6_digest_57 : decode cX6_digest 57 = .ok (.lload_n 1, 1) := by decide +kernel
theorem dX6_digest_58 : decode cX6_digest 58 = .ok (.ldc2_w 263, 3) := by decide +kernel
theorem dX6_digest_61 : decode cX6_digest 61 = .ok (.lmul, 1) := by decide +kernel
theorem dX6_digest_62 : decode cX6_digest 62 = .ok (.aload_n 0, 1) := by decide +kernel
theorem dX6_digest_63 : decode cX6_digest 63 = .ok (.iload_n 3, 1) := by decide +kernel
theorem dX6_digest_64 : decode cX6_digest 64 = .ok (.iload 4, 2) := by decide +kernel
theorem dX6_digest_66 : decode cX6_digest 66 = .ok (.invokevirtual 265, 3) := by decide +kernel
theorem dX6_digest_69 : decode cX6_digest 69 = .ok (.i2l, 1) := by decide +kernel
theorem dX6_digest_70 : decode cX6_digest 70 = .ok (.ladd, 1) := by decide +kernel
theorem dX6_digest_71 : decode cX6_digest 71 = .ok (.lstore_n 1, 1) := by decide +kernel
theorem dX6_digest_72 : decode cX6_digest 72 = .ok (.iinc 4 1, 3) := by decide +kernel
theorem dX6_digest_75 : decode cX6_digest 75 = .ok (.goto (-25), 3) := by decide +kernel
theorem dX6_digest_78 : decode cX6_digest 78 = .ok (.iinc 3 1, 3) := by decide +kernel
theorem dX6_digest_81 : decode cX6_digest 81 = .ok (.goto (-69), 3) := by decide +kernel
theorem dX6_digest_84 : decode cX6_digest 84 = .ok (.iconst 0, 1) := by decide +kernel
theorem dX6_digest_85 : decode cX6_digest 85 = .ok (.istore_n 3, 1) := by decide +kernel
theorem dX6_digest_86 : decode cX6_digest 86 = .ok (.iload_n 3, 1) := by decide +kernel
theorem dX6_digest_87 : decode cX6_digest 87 = .ok (.aload_n 0, 1) := by decide +kernel
theorem dX6_digest_88 : decode cX6_digest 88 = .ok (.getfield 36, 3) := by decide +kernel
theorem dX6_digest_91 : decode cX6_digest 91 = .ok (.if_icmp .ge 200, 3) := by decide +kernel
theorem dX6_digest_94 : decode cX6_digest 94 = .ok (.lload_n 1, 1) := by decide +kernel
theorem dX6_digest_95 : decode cX6_digest 95 = .ok (.ldc2_w 263, 3) := by decide +kernel
theorem dX6_digest_98 : decode cX6_digest 98 = .ok (.lmul, 1) := by decide +kernel
theorem dX6_digest_99 : decode cX6_digest 99 = .ok (.aload_n 0, 1) := by decide +kernel
theorem dX6_digest_100 : decode cX6_digest 100 = .ok (.iload_n 3, 1) := by decide +kernel
theorem dX6_digest_101 : decode cX6_digest 101 = .ok (.invokevirtual 268, 3) := by decide +kernel
theorem dX6_digest_104 : decode cX6_digest 104 = .ok (.i2l, 1) := by decide +kernel
theorem dX6_digest_105 : decode cX6_digest 105 = .ok (.ladd, 1) := by decide +kernel
theorem dX6_digest_106 : decode cX6_digest 106 = .ok (.lstore_n 1, 1) := by decide +kernel
theorem dX6_digest_107 : decode cX6_digest 107 = .ok (.lload_n 1, 1) := by decide +kernel
theorem dX6_digest_108 : decode cX6_digest 108 = .ok (.ldc2_w 263, 3) := by decide +kernel
theorem dX6_digest_111 : decode cX6_digest 111 = .ok (.lmul, 1) := by decide +kernel
theorem dX6_digest_112 : decode cX6_digest 112 = .ok (.aload_n 0, 1) := by decide +kernel
theorem dX6_digest_113 : decode cX6_digest 113 = .ok (.iload_n 3, 1) := by decide +kernel
theorem dX6_digest_114 : decode cX6_digest 114 = .ok (.invokevirtual 270, 3) := by decide +kernel
theorem dX6_digest_117 : decode cX6_digest 117 = .ok (.i2l, 1) := by decide +kernel
theorem dX6_digest_118 : decode cX6_digest 118 = .ok (.ladd, 1) := by decide +kernel
theorem dX6_digest_119 : decode cX6_digest 119 = .ok (.lstore_n 1, 1) := by decide +kernel
theorem dX6_digest_120 : decode cX6_digest 120 = .ok (.lload_n 1, 1) := by decide +kernel
theorem dX6_digest_121 : decode cX6_digest 121 = .ok (.ldc2_w 263, 3) := by decide +kernel
theorem dX6_digest_124 : decode cX6_digest 124 = .ok (.lmul, 1) := by decide +kernel
theorem dX6_digest_125 : decode cX6_digest 125 = .ok (.aload_n 0, 1) := by decide +kernel
theorem dX6_digest_126 : decode cX6_digest 126 = .ok (.iload_n 3, 1) := by decide +kernel
theorem dX6_digest_127 : decode cX6_digest 127 = .ok (.invokevirtual 273, 3) := by decide +kernel
theorem dX6_digest_130 : decode cX6_digest 130 = .ok (.i2l, 1) := by decide +kernel
theorem dX6_digest_131 : decode cX6_digest 131 = .ok (.ladd, 1) := by decide +kernel
theorem dX6_digest_132 : decode cX6_digest 132 = .ok (.lstore_n 1, 1) := by decide +kernel
theorem dX6_digest_133 : decode cX6_digest 133 = .ok (.lload_n 1, 1) := by decide +kernel
theorem dX6_digest_134 : decode cX6_digest 134 = .ok (.ldc2_w 263, 3) := by decide +kernel
theorem dX6_digest_137 : decode cX6_digest 137 = .ok (.lmul, 1) := by decide +kernel
theorem dX6_digest_138 : decode cX6_digest 138 = .ok (.aload_n 0, 1) := by decide +kernel
theorem dX6_digest_139 : decode cX6_digest 139 = .ok (.iload_n 3, 1) := by decide +kernel
theorem dX6_digest_140 : decode cX6_digest 140 = .ok (.bipush 100, 2) := by decide +kernel
theorem dX6_digest_142 : decode cX6_digest 142 = .ok (.bipush 100, 2) := by decide +kernel
theorem dX6_digest_144 : decode cX6_digest 144 = .ok (.sipush 400, 3) := by decide +kernel
theorem dX6_digest_147 : decode cX6_digest 147 = .ok (.sipush 300, 3) := by decide +kernel
theorem dX6_digest_150 : decode cX6_digest 150 = .ok (.invokevirtual 276, 3) := by decide +kernel
theorem dX6_digest_153 : decode cX6_digest 153 = .ok (.i2l, 1) := by decide +kernel
theorem dX6_digest_154 : decode cX6_digest 154 = .ok (.ladd, 1) := by decide +kernel
theorem dX6_digest_155 : decode cX6_digest 155 = .ok (.lstore_n 1, 1) := by decide +kernel
end
section
theorem dX6_digest_156 : decode cX6_digest 156 = .ok (.lload_n 1, 1) := by decide +kernel
theorem dX6_digest_157 : decode cX6_digest 157 = .ok (.ldc2_w 263, 3) := by decide +kernel
theorem dX6_digest_160 : decode cX6_digest 160 = .ok (.lmul, 1) := by decide +kernel
theorem dX6_digest_161 : decode cX6_digest 161 = .ok (.aload_n 0, 1) := by decide +kernel
theorem dX6_digest_162 : decode cX6_digest 162 = .ok (.iload_n 3, 1) := by decide +kernel
theorem dX6_digest_163 : decode cX6_digest 163 = .ok (.bipush 100, 2) := by decide +kernel
theorem dX6_digest_165 : decode cX6_digest 165 = .ok (.bipush 100, 2) := by decide +kernel
theorem dX6_digest_167 : decode cX6_digest 167 = .ok (.sipush 400, 3) := by decide +kernel
theorem dX6_digest_170 : decode cX6_digest 170 = .ok (.sipush 300, 3) := by decide +kernel
theorem dX6_digest_173 : decode cX6_digest 173 = .ok (.invokevirtual 279, 3) := by decide +kernel
theorem dX6_digest_176 : decode cX6_digest 176 = .ok (.i2l, 1) := by decide +kernel
theorem dX6_digest_177 : decode cX6_digest 177 = .ok (.ladd, 1) := by decide +kernel
theorem dX6_digest_178 : decode cX6_digest 178 = .ok (.lstore_n 1, 1) := by decide +kernel
theorem dX6_digest_179 : decode cX6_digest 179 = .ok (.lload_n 1, 1) := by decide +kernel
theorem dX6_digest_180 : decode cX6_digest 180 = .ok (.ldc2_w 263, 3) := by decide +kernel
theorem dX6_digest_183 : decode cX6_digest 183 = .ok (.lmul, 1) := by decide +kernel
theorem dX6_digest_184 : decode cX6_digest 184 = .ok (.aload_n 0, 1) := by decide +kernel
theorem dX6_digest_185 : decode cX6_digest 185 = .ok (.iload_n 3, 1) := by decide +kernel
theorem dX6_digest_186 : decode cX6_digest 186 = .ok (.sipush 512, 3) := by decide +kernel
theorem dX6_digest_189 : decode cX6_digest 189 = .ok (.sipush 512, 3) := by decide +kernel
theorem dX6_digest_192 : decode cX6_digest 192 = .ok (.iconst 3, 1) := by decide +kernel
theorem dX6_digest_193 : decode cX6_digest 193 = .ok (.invokevirtual 282, 3) := by decide +kernel
theorem dX6_digest_196 : decode cX6_digest 196 = .ok (.i2l, 1) := by decide +kernel
theorem dX6_digest_197 : decode cX6_digest 197 = .ok (.ladd, 1) := by decide +kernel
theorem dX6_digest_198 : decode cX6_digest 198 = .ok (.lstore_n 1, 1) := by decide +kernel
theorem dX6_digest_199 : decode cX6_digest 199 = .ok (.lload_n 1, 1) := by decide +kernel
theorem dX6_digest_200 : decode cX6_digest 200 = .ok (.ldc2_w 263, 3) := by decide +kernel
theorem dX6_digest_203 : decode cX6_digest 203 = .ok (.lmul, 1) := by decide +kernel
theorem dX6_digest_204 : decode cX6_digest 204 = .ok (.aload_n 0, 1) := by decide +kernel
theorem dX6_digest_205 : decode cX6_digest 205 = .ok (.iload_n 3, 1) := by decide +kernel
theorem dX6_digest_206 : decode cX6_digest 206 = .ok (.sipush 512, 3) := by decide +kernel
theorem dX6_digest_209 : decode cX6_digest 209 = .ok (.sipush 512, 3) := by decide +kernel
theorem dX6_digest_212 : decode cX6_digest 212 = .ok (.iconst 3, 1) := by decide +kernel
theorem dX6_digest_213 : decode cX6_digest 213 = .ok (.invokevirtual 285, 3) := by decide +kernel
theorem dX6_digest_216 : decode cX6_digest 216 = .ok (.i2l, 1) := by decide +kernel
theorem dX6_digest_217 : decode cX6_digest 217 = .ok (.ladd, 1) := by decide +kernel
theorem dX6_digest_218 : decode cX6_digest 218 = .ok (.lstore_n 1, 1) := by decide +kernel
theorem dX6_digest_219 : decode cX6_digest 219 = .ok (.lload_n 1, 1) := by decide +kernel
theorem dX6_digest_220 : decode cX6_digest 220 = .ok (.ldc2_w 263, 3) := by decide +kernel
theorem dX6_digest_223 : decode cX6_digest 223 = .ok (.lmul, 1) := by decide +kernel
theorem dX6_digest_224 : decode cX6_digest 224 = .ok (.aload_n 0, 1) := by decide +kernel
theorem dX6_digest_225 : decode cX6_digest 225 = .ok (.iload_n 3, 1) := by decide +kernel
theorem dX6_digest_226 : decode cX6_digest 226 = .ok (.sipush 512, 3) := by decide +kernel
theorem dX6_digest_229 : decode cX6_digest 229 = .ok (.sipush 512, 3) := by decide +kernel
theorem dX6_digest_232 : decode cX6_digest 232 = .ok (.iconst 3, 1) := by decide +kernel
theorem dX6_digest_233 : decode cX6_digest 233 = .ok (.invokevirtual 288, 3) := by decide +kernel
theorem dX6_digest_236 : decode cX6_digest 236 = .ok (.i2l, 1) := by decide +kernel
theorem dX6_digest_237 : decode cX6_digest 237 = .ok (.ladd, 1) := by decide +kernel
theorem dX6_digest_238 : decode cX6_digest 238 = .ok (.lstore_n 1, 1) := by decide +kernel
theorem dX6_digest_239 : decode cX6_digest 239 = .ok (.lload_n 1, 1) := by decide +kernel
theorem dX6_digest_240 : decode cX6_digest 240 = .ok (.ldc2_w 263, 3) := by decide +kernel
theorem dX6_digest_243 : decode cX6_digest 243 = .ok (.lmul, 1) := by decide +kernel
theorem dX6_digest_244 : decode cX6_digest 244 = .ok (.aload_n 0, 1) := by decide +kernel
theorem dX6_digest_245 : decode cX6_digest 245 = .ok (.iload_n 3, 1) := by decide +kernel
theorem dX6_digest_246 : decode cX6_digest 246 = .ok (.sipush 2500, 3) := by decide +kernel
theorem dX6_digest_249 : decode cX6_digest 249 = .ok (.invokevirtual 291, 3) := by decide +kernel
theorem dX6_digest_252 : decode cX6_digest 252 = .ok (.i2l, 1) := by decide +kernel
theorem dX6_digest_253 : decode cX6_digest 253 = .ok (.ladd, 1) := by decide +kernel
theorem dX6_digest_254 : decode cX6_digest 254 = .ok (.lstore_n 1, 1) := by decide +kernel
theorem dX6_digest_255 : decode cX6_digest 255 = .ok (.lload_n 1, 1) := by decide +kernel
theorem dX6_digest_256 : decode cX6_digest 256 = .ok (.ldc2_w 263, 3) := by decide +kernel
theorem dX6_digest_259 : decode cX6_digest 259 = .ok (.lmul, 1) := by decide +kernel
theorem dX6_digest_260 : decode cX6_digest 260 = .ok (.aload_n 0, 1) := by decide +kernel
theorem dX6_digest_261 : decode cX6_digest 261 = .ok (.iload_n 3, 1) := by decide +kernel
theorem dX6_digest_262 : decode cX6_digest 262 = .ok (.sipush 2500, 3) := by decide +kernel
theorem dX6_digest_265 : decode cX6_digest 265 = .ok (.invokevirtual 294, 3) := by decide +kernel
theorem dX6_digest_268 : decode cX6_digest 268 = .ok (.i2l, 1) := by decide +kernel
theorem dX6_digest_269 : decode cX6_digest 269 = .ok (.ladd, 1) := by decide +kernel
theorem dX6_digest_270 : decode cX6_digest 270 = .ok (.lstore_n 1, 1) := by decide +kernel
theorem dX6_digest_271 : decode cX6_digest 271 = .ok (.lload_n 1, 1) := by decide +kernel
theorem dX6_digest_272 : decode cX6_digest 272 = .ok (.ldc2_w 263, 3) := by decide +kernel
theorem dX6_digest_275 : decode cX6_digest 275 = .ok (.lmul, 1) := by decide +kernel
theorem dX6_digest_276 : decode cX6_digest 276 = .ok (.aload_n 0, 1) := by decide +kernel
theorem dX6_digest_277 : decode cX6_digest 277 = .ok (.iload_n 3, 1) := by decide +kernel
theorem dX6_digest_278 : decode cX6_digest 278 = .ok (.iconst 3, 1) := by decide +kernel
theorem dX6_digest_279 : decode cX6_digest 279 = .ok (.invokevirtual 297, 3) := by decide +kernel
theorem dX6_digest_282 : decode cX6_digest 282 = .ok (.i2l, 1) := by decide +kernel
theorem dX6_digest_283 : decode cX6_digest 283 = .ok (.ladd, 1) := by decide +kernel
theorem dX6_digest_284 : decode cX6_digest 284 = .ok (.lstore_n 1, 1) := by decide +kernel
theorem dX6_digest_285 : decode cX6_digest 285 = .ok (.iinc 3 1, 3) := by decide +kernel
theorem dX6_digest_288 : decode cX6_digest 288 = .ok (.goto (-202), 3) := by decide +kernel
theorem dX6_digest_291 : decode cX6_digest 291 = .ok (.iconst 0, 1) := by decide +kernel
theorem dX6_digest_292 : decode cX6_digest 292 = .ok (.istore_n 3, 1) := by decide +kernel
theorem dX6_digest_293 : decode cX6_digest 293 = .ok (.iload_n 3, 1) := by decide +kernel
theorem dX6_digest_294 : decode cX6_digest 294 = .ok (.iconst 1, 1) := by decide +kernel
theorem dX6_digest_295 : decode cX6_digest 295 = .ok (.iadd, 1) := by decide +kernel
theorem dX6_digest_296 : decode cX6_digest 296 = .ok (.aload_n 0, 1) := by decide +kernel
theorem dX6_digest_297 : decode cX6_digest 297 = .ok (.getfield 36, 3) := by decide +kernel
theorem dX6_digest_300 : decode cX6_digest 300 = .ok (.if_icmp .ge 28, 3) := by decide +kernel
theorem dX6_digest_303 : decode cX6_digest 303 = .ok (.lload_n 1, 1) := by decide +kernel
theorem dX6_digest_304 : decode cX6_digest 304 = .ok (.ldc2_w 263, 3) := by decide +kernel
theorem dX6_digest_307 : decode cX6_digest 307 = .ok (.lmul, 1) := by decide +kernel
theorem dX6_digest_308 : decode cX6_digest 308 = .ok (.aload_n 0, 1) := by decide +kernel
theorem dX6_digest_309 : decode cX6_digest 309 = .ok (.iload_n 3, 1) := by decide +kernel
theorem dX6_digest_310 : decode cX6_digest 310 = .ok (.iload_n 3, 1) := by decide +kernel
theorem dX6_digest_311 : decode cX6_digest 311 = .ok (.iconst 1, 1) := by decide +kernel
theorem dX6_digest_312 : decode cX6_digest 312 = .ok (.iadd, 1) := by decide +kernel
theorem dX6_digest_313 : decode cX6_digest 313 = .ok (.sipush 900, 3) := by decide +kernel
theorem dX6_digest_316 : decode cX6_digest 316 = .ok (.invokevirtual 300, 3) := by decide +kernel
theorem dX6_digest_319 : decode cX6_digest 319 = .ok (.i2l, 1) := by decide +kernel
theorem dX6_digest_320 : decode cX6_digest 320 = .ok (.ladd, 1) := by decide +kernel
theorem dX6_digest_321 : decode cX6_digest 321 = .ok (.lstore_n 1, 1) := by decide +kernel
theorem dX6_digest_322 : decode cX6_digest 322 = .ok (.iinc 3 1, 3) := by decide +kernel
theorem dX6_digest_325 : decode cX6_digest 325 = .ok (.goto (-32), 3) := by decide +kernel
theorem dX6_digest_328 : decode cX6_digest 328 = .ok (.lload_n 1, 1) := by decide +kernel
theorem dX6_digest_329 : decode cX6_digest 329 = .ok (.ldc2_w 263, 3) := by decide +kernel
theorem dX6_digest_332 : decode cX6_digest 332 = .ok (.lmul, 1) := by decide +kernel
theorem dX6_digest_333 : decode cX6_digest 333 = .ok (.aload_n 0, 1) := by decide +kernel
theorem dX6_digest_334 : decode cX6_digest 334 = .ok (.invokevirtual 303, 3) := by decide +kernel
theorem dX6_digest_337 : decode cX6_digest 337 = .ok (.i2l, 1) := by decide +kernel
theorem dX6_digest_338 : decode cX6_digest 338 = .ok (.ladd, 1) := by decide +kernel
theorem dX6_digest_339 : decode cX6_digest 339 = .ok (.lreturn, 1) := by decide +kernel
theorem dX6_layerAt_0 : decode cX6_layerAt 0 = .ok (.iload_n 1, 1) := by decide +kernel
theorem dX6_layerAt_1 : decode cX6_layerAt 1 = .ok (.ifCond .lt 12, 3) := by decide +kernel
theorem dX6_layerAt_4 : decode cX6_layerAt 4 = .ok (.iload_n 1, 1) := by decide +kernel
theorem dX6_layerAt_5 : decode cX6_layerAt 5 = .ok (.aload_n 0, 1) := by decide +kernel
theorem dX6_layerAt_6 : decode cX6_layerAt 6 = .ok (.getfield 18, 3) := by decide +kernel
theorem dX6_layerAt_9 : decode cX6_layerAt 9 = .ok (.arraylength, 1) := by decide +kernel
theorem dX6_layerAt_10 : decode cX6_layerAt 10 = .ok (.if_icmp .lt 14, 3) := by decide +kernel
theorem dX6_layerAt_13 : decode cX6_layerAt 13 = .ok (.new 186, 3) := by decide +kernel
theorem dX6_layerAt_16 : decode cX6_layerAt 16 = .ok (.dup, 1) := by decide +kernel
theorem dX6_layerAt_17 : decode cX6_layerAt 17 = .ok (.ldc_w 306, 3) := by decide +kernel
theorem dX6_layerAt_20 : decode cX6_layerAt 20 = .ok (.invokespecial 190, 3) := by decide +kernel
theorem dX6_layerAt_23 : decode cX6_layerAt 23 = .ok (.athrow, 1) := by decide +kernel
theorem dX6_layerAt_24 : decode cX6_layerAt 24 = .ok (.aload_n 0, 1) := by decide +kernel
theorem dX6_layerAt_25 : decode cX6_layerAt 25 = .ok (.getfield 18, 3) := by decide +kernel
theorem dX6_layerAt_28 : decode cX6_layerAt 28 = .ok (.iload_n 1, 1) := by decide +kernel
theorem dX6_layerAt_29 : decode cX6_layerAt 29 = .ok (.aaload, 1) := by decide +kernel
theorem dX6_layerAt_30 : decode cX6_layerAt 30 = .ok (.astore_n 2, 1) := by decide +kernel
theorem dX6_layerAt_31 : decode cX6_layerAt 31 = .ok (.aload_n 2, 1) := by decide +kernel
theorem dX6_layerAt_32 : decode cX6_layerAt 32 = .ok (.ifnonnull 14, 3) := by decide +kernel
theorem dX6_layerAt_35 : decode cX6_layerAt 35 = .ok (.new 186, 3) := by decide +kernel
theorem dX6_layerAt_38 : decode cX6_layerAt 38 = .ok (.dup, 1) := by decide +kernel
theorem dX6_layerAt_39 : decode cX6_layerAt 39 = .ok (.ldc_w 306, 3) := by decide +kernel
theorem dX6_layerAt_42 : decode cX6_layerAt 42 = .ok (.invokespecial 190, 3) := by decide +kernel
theorem dX6_layerAt_45 : decode cX6_layerAt 45 = .ok (.athrow, 1) := by decide +kernel
theorem dX6_layerAt_46 : decode cX6_layerAt 46 = .ok (.aload_n 2, 1) := by decide +kernel
theorem dX6_layerAt_47 : decode cX6_layerAt 47 = .ok (.areturn, 1) := by decide +kernel
theorem dX6_layerOfThing_0 : decode cX6_layerOfThing 0 = .ok (.iload_n 1, 1) := by decide +kernel
theorem dX6_layerOfThing_1 : decode cX6_layerOfThing 1 = .ok (.ifCond .lt 14, 3) := by decide +kernel
theorem dX6_layerOfThing_4 : decode cX6_layerOfThing 4 = .ok (.iload_n 1, 1) := by decide +kernel
theorem dX6_layerOfThing_5 : decode cX6_layerOfThing 5 = .ok (.aload_n 0, 1) := by decide +kernel
theorem dX6_layerOfThing_6 : decode cX6_layerOfThing 6 = .ok (.getfield 10, 3) := by decide +kernel
theorem dX6_layerOfThing_9 : decode cX6_layerOfThing 9 = .ok (.getfield 106, 3) := by decide +kernel
theorem dX6_layerOfThing_12 : decode cX6_layerOfThing 12 = .ok (.if_icmp .lt 14, 3) := by decide +kernel
theorem dX6_layerOfThing_15 : decode cX6_layerOfThing 15 = .ok (.new 186, 3) := by decide +kernel
theorem dX6_layerOfThing_18 : decode cX6_layerOfThing 18 = .ok (.dup, 1) := by decide +kernel
theorem dX6_layerOfThing_19 : decode cX6_layerOfThing 19 = .ok (.ldc_w 308, 3) := by decide +kernel
theorem dX6_layerOfThing_22 : decode cX6_layerOfThing 22 = .ok (.invokespecial 190, 3) := by decide +kernel
theorem dX6_layerOfThing_25 : decode cX6_layerOfThing 25 = .ok (.athrow, 1) := by decide +kernel
theorem dX6_layerOfThing_26 : decode cX6_layerOfThing 26 = .ok (.aload_n 0, 1) := by decide +kernel
theorem dX6_layerOfThing_27 : decode cX6_layerOfThing 27 = .ok (.getfield 10, 3) := by decide +kernel
theorem dX6_layerOfThing_30 : decode cX6_layerOfThing 30 = .ok (.getfield 132, 3) := by decide +kernel
theorem dX6_layerOfThing_33 : decode cX6_layerOfThing 33 = .ok (.iload_n 1, 1) := by decide +kernel
theorem dX6_layerOfThing_34 : decode cX6_layerOfThing 34 = .ok (.invokevirtual 116, 3) := by decide +kernel
theorem dX6_layerOfThing_37 : decode cX6_layerOfThing 37 = .ok (.iconst (-1), 1) := by decide +kernel
theorem dX6_layerOfThing_38 : decode cX6_layerOfThing 38 = .ok (.if_icmp .ne 14, 3) := by decide +kernel
theorem dX6_layerOfThing_41 : decode cX6_layerOfThing 41 = .ok (.new 186, 3) := by decide +kernel
theorem dX6_layerOfThing_44 : decode cX6_layerOfThing 44 = .ok (.dup, 1) := by decide +kernel
theorem dX6_layerOfThing_45 : decode cX6_layerOfThing 45 = .ok (.ldc_w 310, 3) := by decide +kernel
theorem dX6_layerOfThing_48 : decode cX6_layerOfThing 48 = .ok (.invokespecial 190, 3) := by decide +kernel
theorem dX6_layerOfThing_51 : decode cX6_layerOfThing 51 = .ok (.athrow, 1) := by decide +kernel
theorem dX6_layerOfThing_52 : decode cX6_layerOfThing 52 = .ok (.aload_n 0, 1) := by decide +kernel
theorem dX6_layerOfThing_53 : decode cX6_layerOfThing 53 = .ok (.aload_n 0, 1) := by decide +kernel
theorem dX6_layerOfThing_54 : decode cX6_layerOfThing 54 = .ok (.getfield 10, 3) := by decide +kernel
theorem dX6_layerOfThing_57 : decode cX6_layerOfThing 57 = .ok (.getfield 132, 3) := by decide +kernel
theorem dX6_layerOfThing_60 : decode cX6_layerOfThing 60 = .ok (.iload_n 1, 1) := by decide +kernel
theorem dX6_layerOfThing_61 : decode cX6_layerOfThing 61 = .ok (.invokevirtual 116, 3) := by decide +kernel
theorem dX6_layerOfThing_64 : decode cX6_layerOfThing 64 = .ok (.invokevirtual 57, 3) := by decide +kernel
theorem dX6_layerOfThing_67 : decode cX6_layerOfThing 67 = .ok (.areturn, 1) := by decide +kernel
theorem dX6_checkIsOfPoints_0 : decode cX6_checkIsOfPoints 0 = .ok (.aload_n 0, 1) := by decide +kernel
theorem dX6_checkIsOfPoints_1 : decode cX6_checkIsOfPoints 1 = .ok (.getfield 252, 3) := by decide +kernel
theorem dX6_checkIsOfPoints_4 : decode cX6_checkIsOfPoints 4 = .ok (.ifCond .ne 14, 3) := by decide +kernel
theorem dX6_checkIsOfPoints_7 : decode cX6_checkIsOfPoints 7 = .ok (.new 76, 3) := by decide +kernel
theorem dX6_checkIsOfPoints_10 : decode cX6_checkIsOfPoints 10 = .ok (.dup, 1) := by decide +kernel
theorem dX6_checkIsOfPoints_11 : decode cX6_checkIsOfPoints 11 = .ok (.ldc_w 312, 3) := by decide +kernel
theorem dX6_checkIsOfPoints_14 : decode cX6_checkIsOfPoints 14 = .ok (.invokespecial 80, 3) := by decide +kernel
theorem dX6_checkIsOfPoints_17 : decode cX6_checkIsOfPoints 17 = .ok (.athrow, 1) := by decide +kernel
theorem dX6_checkIsOfPoints_18 : decode cX6_checkIsOfPoints 18 = .ok (.return_, 1) := by decide +kernel
theorem dX6_checkIsOfBoxes_0 : decode cX6_checkIsOfBoxes 0 = .ok (.aload_n 0, 1) := by decide +kernel
theorem dX6_checkIsOfBoxes_1 : decode cX6_checkIsOfBoxes 1 = .ok (.getfield 252, 3) := by decide +kernel
theorem dX6_checkIsOfBoxes_4 : decode cX6_checkIsOfBoxes 4 = .ok (.ifCond .eq 14, 3) := by decide +kernel
theorem dX6_checkIsOfBoxes_7 : decode cX6_checkIsOfBoxes 7 = .ok (.new 76, 3) := by decide +kernel
theorem dX6_checkIsOfBoxes_10 : decode cX6_checkIsOfBoxes 10 = .ok (.dup, 1) := by decide +kernel
theorem dX6_checkIsOfBoxes_11 : decode cX6_checkIsOfBoxes 11 = .ok (.ldc_w 314, 3) := by decide +kernel
theorem dX6_checkIsOfBoxes_14 : decode cX6_checkIsOfBoxes 14 = .ok (.invokespecial 80, 3) := by decide +kernel
theorem dX6_checkIsOfBoxes_17 : decode cX6_checkIsOfBoxes 17 = .ok (.athrow, 1) := by decide +kernel
theorem dX6_checkIsOfBoxes_18 : decode cX6_checkIsOfBoxes 18 = .ok (.return_, 1) := by decide +kernel
theorem dX6_checkWithinMap_0 : decode cX6_checkWithinMap 0 = .ok (.iload_n 0, 1) := by decide +kernel
theorem dX6_checkWithinMap_1 : decode cX6_checkWithinMap 1 = .ok (.ifCond .lt 21, 3) := by decide +kernel
theorem dX6_checkWithinMap_4 : decode cX6_checkWithinMap 4 = .ok (.iload_n 0, 1) := by decide +kernel
theorem dX6_checkWithinMap_5 : decode cX6_checkWithinMap 5 = .ok (.sipush 1024, 3) := by decide +kernel
theorem dX6_checkWithinMap_8 : decode cX6_checkWithinMap 8 = .ok (.if_icmp .ge 14, 3) := by decide +kernel
theorem dX6_checkWithinMap_11 : decode cX6_checkWithinMap 11 = .ok (.iload_n 1, 1) := by decide +kernel
theorem dX6_checkWithinMap_12 : decode cX6_checkWithinMap 12 = .ok (.ifCond .lt 10, 3) := by decide +kernel
theorem dX6_checkWithinMap_15 : decode cX6_checkWithinMap 15 = .ok (.iload_n 1, 1) := by decide +kernel
theorem dX6_checkWithinMap_16 : decode cX6_checkWithinMap 16 = .ok (.sipush 1024, 3) := by decide +kernel
theorem dX6_checkWithinMap_19 : decode cX6_checkWithinMap 19 = .ok (.if_icmp .lt 14, 3) := by decide +kernel
theorem dX6_checkWithinMap_22 : decode cX6_checkWithinMap 22 = .ok (.new 76, 3) := by decide +kernel
theorem dX6_checkWithinMap_25 : decode cX6_checkWithinMap 25 = .ok (.dup, 1) := by decide +kernel
theorem dX6_checkWithinMap_26 : decode cX6_checkWithinMap 26 = .ok (.ldc_w 316, 3) := by decide +kernel
theorem dX6_checkWithinMap_29 : decode cX6_checkWithinMap 29 = .ok (.invokespecial 80, 3) := by decide +kernel
theorem dX6_checkWithinMap_32 : decode cX6_checkWithinMap 32 = .ok (.athrow, 1) := by decide +kernel
theorem dX6_checkWithinMap_33 : decode cX6_checkWithinMap 33 = .ok (.return_, 1) := by decide +kernel
theorem dX6_checkSize_0 : decode cX6_checkSize 0 = .ok (.aload_n 0, 1) := by decide +kernel
theorem dX6_checkSize_1 : decode cX6_checkSize 1 = .ok (.getfield 252, 3) := by decide +kernel
theorem dX6_checkSize_4 : decode cX6_checkSize 4 = .ok (.ifCond .eq 7, 3) := by decide +kernel
theorem dX6_checkSize_7 : decode cX6_checkSize 7 = .ok (.iconst 1, 1) := by decide +kernel
theorem dX6_checkSize_8 : decode cX6_checkSize 8 = .ok (.goto 4, 3) := by decide +kernel
theorem dX6_checkSize_11 : decode cX6_checkSize 11 = .ok (.iconst 2, 1) := by decide +kernel
theorem dX6_checkSize_12 : decode cX6_checkSize 12 = .ok (.istore_n 2, 1) := by decide +kernel
theorem dX6_checkSize_13 : decode cX6_checkSize 13 = .ok (.iload_n 1, 1) := by decide +kernel
theorem dX6_checkSize_14 : decode cX6_checkSize 14 = .ok (.iload_n 2, 1) := by decide +kernel
theorem dX6_checkSize_15 : decode cX6_checkSize 15 = .ok (.if_icmp .lt 9, 3) := by decide +kernel
theorem dX6_checkSize_18 : decode cX6_checkSize 18 = .ok (.iload_n 1, 1) := by decide +kernel
theorem dX6_checkSize_19 : decode cX6_checkSize 19 = .ok (.bipush 8, 2) := by decide +kernel
theorem dX6_checkSize_21 : decode cX6_checkSize 21 = .ok (.if_icmp .le 14, 3) := by decide +kernel
theorem dX6_checkSize_24 : decode cX6_checkSize 24 = .ok (.new 76, 3) := by decide +kernel
theorem dX6_checkSize_27 : decode cX6_checkSize 27 = .ok (.dup, 1) := by decide +kernel
theorem dX6_checkSize_28 : decode cX6_checkSize 28 = .ok (.ldc_w 318, 3) := by decide +kernel
theorem dX6_checkSize_31 : decode cX6_checkSize 31 = .ok (.invokespecial 80, 3) := by decide +kernel
theorem dX6_checkSize_34 : decode cX6_checkSize 34 = .ok (.athrow, 1) := by decide +kernel
theorem dX6_checkSize_35 : decode cX6_checkSize 35 = .ok (.return_, 1) := by decide +kernel
theorem dX6_checkFar_0 : decode cX6_checkFar 0 = .ok (.iload_n 0, 1) := by decide +kernel
theorem dX6_checkFar_1 : decode cX6_checkFar 1 = .ok (.ifCond .lt 10, 3) := by decide +kernel
theorem dX6_checkFar_4 : decode cX6_checkFar 4 = .ok (.iload_n 0, 1) := by decide +kernel
theorem dX6_checkFar_5 : decode cX6_checkFar 5 = .ok (.ldc_w 320, 3) := by decide +kernel
theorem dX6_checkFar_8 : decode cX6_checkFar 8 = .ok (.if_icmp .le 14, 3) := by decide +kernel
theorem dX6_checkFar_11 : decode cX6_checkFar 11 = .ok (.new 76, 3) := by decide +kernel
theorem dX6_checkFar_14 : decode cX6_checkFar 14 = .ok (.dup, 1) := by decide +kernel
theorem dX6_checkFar_15 : decode cX6_checkFar 15 = .ok (.ldc_w 321, 3) := by decide +kernel
theorem dX6_checkFar_18 : decode cX6_checkFar 18 = .ok (.invokespecial 80, 3) := by decide +kernel
theorem dX6_checkFar_21 : decode cX6_checkFar 21 = .ok (.athrow, 1) := by decide +kernel
theorem dX6_checkFar_22 : decode cX6_checkFar 22 = .ok (.return_, 1) := by decide +kernel
theorem dX6_checkRoomFor_0 : decode cX6_checkRoomFor 0 = .ok (.aload_n 0, 1) := by decide +kernel
theorem dX6_checkRoomFor_1 : decode cX6_checkRoomFor 1 = .ok (.getfield 10, 3) := by decide +kernel
theorem dX6_checkRoomFor_4 : decode cX6_checkRoomFor 4 = .ok (.getfield 106, 3) := by decide +kernel
theorem dX6_checkRoomFor_7 : decode cX6_checkRoomFor 7 = .ok (.iload_n 1, 1) := by decide +kernel
theorem dX6_checkRoomFor_8 : decode cX6_checkRoomFor 8 = .ok (.iadd, 1) := by decide +kernel
theorem dX6_checkRoomFor_9 : decode cX6_checkRoomFor 9 = .ok (.bipush 80, 2) := by decide +kernel
theorem dX6_checkRoomFor_11 : decode cX6_checkRoomFor 11 = .ok (.if_icmp .le 14, 3) := by decide +kernel
theorem dX6_checkRoomFor_14 : decode cX6_checkRoomFor 14 = .ok (.new 40, 3) := by decide +kernel
theorem dX6_checkRoomFor_17 : decode cX6_checkRoomFor 17 = .ok (.dup, 1) := by decide +kernel
theorem dX6_checkRoomFor_18 : decode cX6_checkRoomFor 18 = .ok (.ldc_w 323, 3) := by decide +kernel
theorem dX6_checkRoomFor_21 : decode cX6_checkRoomFor 21 = .ok (.invokespecial 44, 3) := by decide +kernel
theorem dX6_checkRoomFor_24 : decode cX6_checkRoomFor 24 = .ok (.athrow, 1) := by decide +kernel
theorem dX6_checkRoomFor_25 : decode cX6_checkRoomFor 25 = .ok (.return_, 1) := by decide +kernel
theorem dX6_keyOfNearest_0 : decode cX6_keyOfNearest 0 = .ok (.aload_n 0, 1) := by decide +kernel
theorem dX6_keyOfNearest_1 : decode cX6_keyOfNearest 1 = .ok (.iload_n 1, 1) := by decide +kernel
theorem dX6_keyOfNearest_2 : decode cX6_keyOfNearest 2 = .ok (.invokevirtual 57, 3) := by decide +kernel
theorem dX6_keyOfNearest_5 : decode cX6_keyOfNearest 5 = .ok (.astore 5, 2) := by decide +kernel
theorem dX6_keyOfNearest_7 : decode cX6_keyOfNearest 7 = .ok (.iload_n 2, 1) := by decide +kernel
theorem dX6_keyOfNearest_8 : decode cX6_keyOfNearest 8 = .ok (.iload_n 3, 1) := by decide +kernel
theorem dX6_keyOfNearest_9 : decode cX6_keyOfNearest 9 = .ok (.invokestatic 72, 3) := by decide +kernel
theorem dX6_keyOfNearest_12 : decode cX6_keyOfNearest 12 = .ok (.iload 4, 2) := by decide +kernel
theorem dX6_keyOfNearest_14 : decode cX6_keyOfNearest 14 = .ok (.iconst 1, 1) := by decide +kernel
theorem dX6_keyOfNearest_15 : decode cX6_keyOfNearest 15 = .ok (.if_icmp .lt 10, 3) := by decide +kernel
theorem dX6_keyOfNearest_18 : decode cX6_keyOfNearest 18 = .ok (.iload 4, 2) := by decide +kernel
theorem dX6_keyOfNearest_20 : decode cX6_keyOfNearest 20 = .ok (.bipush 80, 2) := by decide +kernel
theorem dX6_keyOfNearest_22 : decode cX6_keyOfNearest 22 = .ok (.if_icmp .le 14, 3) := by decide +kernel
theorem dX6_keyOfNearest_25 : decode cX6_keyOfNearest 25 = .ok (.new 76, 3) := by decide +kernel
theorem dX6_keyOfNearest_28 : decode cX6_keyOfNearest 28 = .ok (.dup, 1) := by decide +kernel
theorem dX6_keyOfNearest_29 : decode cX6_keyOfNearest 29 = .ok (.ldc_w 325, 3) := by decide +kernel
theorem dX6_keyOfNearest_32 : decode cX6_keyOfNearest 32 = .ok (.invokespecial 80, 3) := by decide +kernel
theorem dX6_keyOfNearest_35 : decode cX6_keyOfNearest 35 = .ok (.athrow, 1) := by decide +kernel
theorem dX6_keyOfNearest_36 : decode cX6_keyOfNearest 36 = .ok (.aload_n 0, 1) := by decide +kernel
theorem dX6_keyOfNearest_37 : decode cX6_keyOfNearest 37 = .ok (.getfield 10, 3) := by decide +kernel
theorem dX6_keyOfNearest_40 : decode cX6_keyOfNearest 40 = .ok (.aload 5, 2) := by decide +kernel
theorem dX6_keyOfNearest_42 : decode cX6_keyOfNearest 42 = .ok (.getfield 54, 3) := by decide +kernel
theorem dX6_keyOfNearest_45 : decode cX6_keyOfNearest 45 = .ok (.iload_n 2, 1) := by decide +kernel
theorem dX6_keyOfNearest_46 : decode cX6_keyOfNearest 46 = .ok (.iload_n 3, 1) := by decide +kernel
theorem dX6_keyOfNearest_47 : decode cX6_keyOfNearest 47 = .ok (.invokevirtual 327, 3) := by decide +kernel
theorem dX6_keyOfNearest_50 : decode cX6_keyOfNearest 50 = .ok (.istore 6, 2) := by decide +kernel
theorem dX6_keyOfNearest_52 : decode cX6_keyOfNearest 52 = .ok (.iload 4, 2) := by decide +kernel
theorem dX6_keyOfNearest_54 : decode cX6_keyOfNearest 54 = .ok (.iload 6, 2) := by decide +kernel
theorem dX6_keyOfNearest_56 : decode cX6_keyOfNearest 56 = .ok (.if_icmp .le 7, 3) := by decide +kernel
theorem dX6_keyOfNearest_59 : decode cX6_keyOfNearest 59 = .ok (.iconst (-1), 1) := by decide +kernel
theorem dX6_keyOfNearest_60 : decode cX6_keyOfNearest 60 = .ok (.goto 17, 3) := by decide +kernel
theorem dX6_keyOfNearest_63 : decode cX6_keyOfNearest 63 = .ok (.aload_n 0, 1) := by decide +kernel
theorem dX6_keyOfNearest_64 : decode cX6_keyOfNearest 64 = .ok (.getfield 10, 3) := by decide +kernel
theorem dX6_keyOfNearest_67 : decode cX6_keyOfNearest 67 = .ok (.getfield 330, 3) := by decide +kernel
theorem dX6_keyOfNearest_70 : decode cX6_keyOfNearest 70 = .ok (.iload 4, 2) := by decide +kernel
theorem dX6_keyOfNearest_72 : decode cX6_keyOfNearest 72 = .ok (.iconst 1, 1) := by decide +kernel
theorem dX6_keyOfNearest_73 : decode cX6_keyOfNearest 73 = .ok (.isub, 1) := by decide +kernel
theorem dX6_keyOfNearest_74 : decode cX6_keyOfNearest 74 = .ok (.invokevirtual 116, 3) := by decide +kernel
theorem dX6_keyOfNearest_77 : decode cX6_keyOfNearest 77 = .ok (.ireturn, 1) := by decide +kernel
theorem dX6_countVisitedPairs_0 : decode cX6_countVisitedPairs 0 = .ok (.iload 5, 2) := by decide +kernel
theorem dX6_countVisitedPairs_2 : decode cX6_countVisitedPairs 2 = .ok (.bipush 11, 2) := by decide +kernel
theorem dX6_countVisitedPairs_4 : decode cX6_countVisitedPairs 4 = .ok (.if_icmp .lt 5, 3) := by decide +kernel
theorem dX6_countVisitedPairs_7 : decode cX6_countVisitedPairs 7 = .ok (.iconst 0, 1) := by decide +kernel
theorem dX6_countVisitedPairs_8 : decode cX6_countVisitedPairs 8 = .ok (.ireturn, 1) := by decide +kernel
theorem dX6_countVisitedPairs_9 : decode cX6_countVisitedPairs 9 = .ok (.aload_n 0, 1) := by decide +kernel
theorem dX6_countVisitedPairs_10 : decode cX6_countVisitedPairs 10 = .ok (.getfield 197, 3) := by decide +kernel
theorem dX6_countVisitedPairs_13 : decode cX6_countVisitedPairs 13 = .ok (.iload_n 1, 1) := by decide +kernel
theorem dX6_countVisitedPairs_14 : decode cX6_countVisitedPairs 14 = .ok (.invokevirtual 116, 3) := by decide +kernel
theorem dX6_countVisitedPairs_17 : decode cX6_countVisitedPairs 17 = .ok (.istore 6, 2) := by decide +kernel
theorem dX6_countVisitedPairs_19 : decode cX6_countVisitedPairs 19 = .ok (.aload_n 2, 1) := by decide +kernel
theorem dX6_countVisitedPairs_20 : decode cX6_countVisitedPairs 20 = .ok (.getfield 197, 3) := by decide +kernel
theorem dX6_countVisitedPairs_23 : decode cX6_countVisitedPairs 23 = .ok (.iload_n 3, 1) := by decide +kernel
theorem dX6_countVisitedPairs_24 : decode cX6_countVisitedPairs 24 = .ok (.invokevirtual 116, 3) := by decide +kernel
theorem dX6_countVisitedPairs_27 : decode cX6_countVisitedPairs 27 = .ok (.istore 7, 2) := by decide +kernel
theorem dX6_countVisitedPairs_29 : decode cX6_countVisitedPairs 29 = .ok (.iload 6, 2) := by decide +kernel
theorem dX6_countVisitedPairs_31 : decode cX6_countVisitedPairs 31 = .ok (.ifCond .ne 8, 3) := by decide +kernel
theorem dX6_countVisitedPairs_34 : decode cX6_countVisitedPairs 34 = .ok (.iload 7, 2) := by decide +kernel
theorem dX6_countVisitedPairs_36 : decode cX6_countVisitedPairs 36 = .ok (.ifCond .eq 21, 3) := by decide +kernel
theorem dX6_countVisitedPairs_39 : decode cX6_countVisitedPairs 39 = .ok (.aload_n 0, 1) := by decide +kernel
theorem dX6_countVisitedPairs_40 : decode cX6_countVisitedPairs 40 = .ok (.getfield 172, 3) := by decide +kernel
theorem dX6_countVisitedPairs_43 : decode cX6_countVisitedPairs 43 = .ok (.iload_n 1, 1) := by decide +kernel
theorem dX6_countVisitedPairs_44 : decode cX6_countVisitedPairs 44 = .ok (.aload_n 2, 1) := by decide +kernel
theorem dX6_countVisitedPairs_45 : decode cX6_countVisitedPairs 45 = .ok (.getfield 172, 3) := by decide +kernel
theorem dX6_countVisitedPairs_48 : decode cX6_countVisitedPairs 48 = .ok (.iload_n 3, 1) := by decide +kernel
theorem dX6_countVisitedPairs_49 : decode cX6_countVisitedPairs 49 = .ok (.invokevirtual 342, 3) := by decide +kernel
theorem dX6_countVisitedPairs_52 : decode cX6_countVisitedPairs 52 = .ok (.iload 4, 2) := by decide +kernel
theorem dX6_countVisitedPairs_54 : decode cX6_countVisitedPairs 54 = .ok (.if_icmp .le 5, 3) := by decide +kernel
theorem dX6_countVisitedPairs_57 : decode cX6_countVisitedPairs 57 = .ok (.iconst 1, 1) := by decide +kernel
theorem dX6_countVisitedPairs_58 : decode cX6_countVisitedPairs 58 = .ok (.ireturn, 1) := by decide +kernel
theorem dX6_countVisitedPairs_59 : decode cX6_countVisitedPairs 59 = .ok (.iconst 1, 1) := by decide +kernel
theorem dX6_countVisitedPairs_60 : decode cX6_countVisitedPairs 60 = .ok (.istore 8, 2) := by decide +kernel
theorem dX6_countVisitedPairs_62 : decode cX6_countVisitedPairs 62 = .ok (.iconst 0, 1) := by decide +kernel
theorem dX6_countVisitedPairs_63 : decode cX6_countVisitedPairs 63 = .ok (.istore 9, 2) := by decide +kernel
theorem dX6_countVisitedPairs_65 : decode cX6_countVisitedPairs 65 = .ok (.iload 9, 2) := by decide +kernel
theorem dX6_countVisitedPairs_67 : decode cX6_countVisitedPairs 67 = .ok (.ifCond .eq 10, 3) := by decide +kernel
theorem dX6_countVisitedPairs_70 : decode cX6_countVisitedPairs 70 = .ok (.iload 9, 2) := by decide +kernel
theorem dX6_countVisitedPairs_72 : decode cX6_countVisitedPairs 72 = .ok (.iload 6, 2) := by decide +kernel
theorem dX6_countVisitedPairs_74 : decode cX6_countVisitedPairs 74 = .ok (.if_icmp .ge 86, 3) := by decide +kernel
theorem dX6_countVisitedPairs_77 : decode cX6_countVisitedPairs 77 = .ok (.iload 6, 2) := by decide +kernel
theorem dX6_countVisitedPairs_79 : decode cX6_countVisitedPairs 79 = .ok (.ifCond .ne 7, 3) := by decide +kernel
theorem dX6_countVisitedPairs_82 : decode cX6_countVisitedPairs 82 = .ok (.iload_n 1, 1) := by decide +kernel
theorem dX6_countVisitedPairs_83 : decode cX6_countVisitedPairs 83 = .ok (.goto 10, 3) := by decide +kernel
theorem dX6_countVisitedPairs_86 : decode cX6_countVisitedPairs 86 = .ok (.aload_n 0, 1) := by decide +kernel
theorem dX6_countVisitedPairs_87 : decode cX6_countVisitedPairs 87 = .ok (.iload_n 1, 1) := by decide +kernel
theorem dX6_countVisitedPairs_88 : decode cX6_countVisitedPairs 88 = .ok (.iload 9, 2) := by decide +kernel
theorem dX6_countVisitedPairs_90 : decode cX6_countVisitedPairs 90 = .ok (.invokevirtual 346, 3) := by decide +kernel
theorem dX6_countVisitedPairs_93 : decode cX6_countVisitedPairs 93 = .ok (.istore 10, 2) := by decide +kernel
theorem dX6_countVisitedPairs_95 : decode cX6_countVisitedPairs 95 = .ok (.iconst 0, 1) := by decide +kernel
theorem dX6_countVisitedPairs_96 : decode cX6_countVisitedPairs 96 = .ok (.istore 11, 2) := by decide +kernel
theorem dX6_countVisitedPairs_98 : decode cX6_countVisitedPairs 98 = .ok (.iload 11, 2) := by decide +kernel
theorem dX6_countVisitedPairs_100 : decode cX6_countVisitedPairs 100 = .ok (.ifCond .eq 10, 3) := by decide +kernel
theorem dX6_countVisitedPairs_103 : decode cX6_countVisitedPairs 103 = .ok (.iload 11, 2) := by decide +kernel
theorem dX6_countVisitedPairs_105 : decode cX6_countVisitedPairs 105 = .ok (.iload 7, 2) := by decide +kernel
theorem dX6_countVisitedPairs_107 : decode cX6_countVisitedPairs 107 = .ok (.if_icmp .ge 47, 3) := by decide +kernel
theorem dX6_countVisitedPairs_110 : decode cX6_countVisitedPairs 110 = .ok (.iload 7, 2) := by decide +kernel
theorem dX6_countVisitedPairs_112 : decode cX6_countVisitedPairs 112 = .ok (.ifCond .ne 7, 3) := by decide +kernel
theorem dX6_countVisitedPairs_115 : decode cX6_countVisitedPairs 115 = .ok (.iload_n 3, 1) := by decide +kernel
theorem dX6_countVisitedPairs_116 : decode cX6_countVisitedPairs 116 = .ok (.goto 10, 3) := by decide +kernel
theorem dX6_countVisitedPairs_119 : decode cX6_countVisitedPairs 119 = .ok (.aload_n 2, 1) := by decide +kernel
theorem dX6_countVisitedPairs_120 : decode cX6_countVisitedPairs 120 = .ok (.iload_n 3, 1) := by decide +kernel
theorem dX6_countVisitedPairs_121 : decode cX6_countVisitedPairs 121 = .ok (.iload 11, 2) := by decide +kernel
theorem dX6_countVisitedPairs_123 : decode cX6_countVisitedPairs 123 = .ok (.invokevirtual 346, 3) := by decide +kernel
theorem dX6_countVisitedPairs_126 : decode cX6_countVisitedPairs 126 = .ok (.istore 12, 2) := by decide +kernel
theorem dX6_countVisitedPairs_128 : decode cX6_countVisitedPairs 128 = .ok (.iload 8, 2) := by decide +kernel
theorem dX6_countVisitedPairs_130 : decode cX6_countVisitedPairs 130 = .ok (.aload_n 0, 1) := by decide +kernel
theorem dX6_countVisitedPairs_131 : decode cX6_countVisitedPairs 131 = .ok (.iload 10, 2) := by decide +kernel
theorem dX6_countVisitedPairs_133 : decode cX6_countVisitedPairs 133 = .ok (.aload_n 2, 1) := by decide +kernel
theorem dX6_countVisitedPairs_134 : decode cX6_countVisitedPairs 134 = .ok (.iload 12, 2) := by decide +kernel
theorem dX6_countVisitedPairs_136 : decode cX6_countVisitedPairs 136 = .ok (.iload 4, 2) := by decide +kernel
theorem dX6_countVisitedPairs_138 : decode cX6_countVisitedPairs 138 = .ok (.iload 5, 2) := by decide +kernel
theorem dX6_countVisitedPairs_140 : decode cX6_countVisitedPairs 140 = .ok (.iconst 1, 1) := by decide +kernel
theorem dX6_countVisitedPairs_141 : decode cX6_countVisitedPairs 141 = .ok (.iadd, 1) := by decide +kernel
theorem dX6_countVisitedPairs_142 : decode cX6_countVisitedPairs 142 = .ok (.invokestatic 220, 3) := by decide +kernel
theorem dX6_countVisitedPairs_145 : decode cX6_countVisitedPairs 145 = .ok (.iadd, 1) := by decide +kernel
theorem dX6_countVisitedPairs_146 : decode cX6_countVisitedPairs 146 = .ok (.istore 8, 2) := by decide +kernel
theorem dX6_countVisitedPairs_148 : decode cX6_countVisitedPairs 148 = .ok (.iinc 11 1, 3) := by decide +kernel
theorem dX6_countVisitedPairs_151 : decode cX6_countVisitedPairs 151 = .ok (.goto (-53), 3) := by decide +kernel
theorem dX6_countVisitedPairs_154 : decode cX6_countVisitedPairs 154 = .ok (.iinc 9 1, 3) := by decide +kernel
theorem dX6_countVisitedPairs_157 : decode cX6_countVisitedPairs 157 = .ok (.goto (-92), 3) := by decide +kernel
theorem dX6_countVisitedPairs_160 : decode cX6_countVisitedPairs 160 = .ok (.iload 8, 2) := by decide +kernel
theorem dX6_countVisitedPairs_162 : decode cX6_countVisitedPairs 162 = .ok (.ireturn, 1) := by decide +kernel
theorem dL_below_0 : decode cL_below 0 = .ok (.iload_n 0, 1) := by decide +kernel
theorem dL_below_1 : decode cL_below 1 = .ok (.ldc 7, 2) := by decide +kernel
theorem dL_below_3 : decode cL_below 3 = .ok (.iand, 1) := by decide +kernel
theorem dL_below_4 : decode cL_below 4 = .ok (.iload_n 1, 1) := by decide +kernel
theorem dL_below_5 : decode cL_below 5 = .ok (.irem, 1) := by decide +kernel
theorem dL_below_6 : decode cL_below 6 = .ok (.ireturn, 1) := by decide +kernel
theorem dL_cell_0 : decode cL_cell 0 = .ok (.iload_n 1, 1) := by decide +kernel
theorem dL_cell_1 : decode cL_cell 1 = .ok (.aload_n 0, 1) := by decide +kernel
theorem dL_cell_2 : decode cL_cell 2 = .ok (.arraylength, 1) := by decide +kernel
theorem dL_cell_3 : decode cL_cell 3 = .ok (.if_icmp .ge 9, 3) := by decide +kernel
theorem dL_cell_6 : decode cL_cell 6 = .ok (.aload_n 0, 1) := by decide +kernel
theorem dL_cell_7 : decode cL_cell 7 = .ok (.iload_n 1, 1) := by decide +kernel
theorem dL_cell_8 : decode cL_cell 8 = .ok (.iaload, 1) := by decide +kernel
theorem dL_cell_9 : decode cL_cell 9 = .ok (.goto 9, 3) := by decide +kernel
theorem dL_cell_12 : decode cL_cell 12 = .ok (.ldc 8, 2) := by decide +kernel
theorem dL_cell_14 : decode cL_cell 14 = .ok (.iload_n 1, 1) := by decide +kernel
theorem dL_cell_15 : decode cL_cell 15 = .ok (.iconst 3, 1) := by decide +kernel
theorem dL_cell_16 : decode cL_cell 16 = .ok (.iadd, 1) := by decide +kernel
theorem dL_cell_17 : decode cL_cell 17 = .ok (.imul, 1) := by decide +kernel
theorem dL_cell_18 : decode cL_cell 18 = .ok (.ireturn, 1) := by decide +kernel
theorem dL_law_0 : decode cL_law 0 = .ok (.new 9, 3) := by decide +kernel
theorem dL_law_3 : decode cL_law 3 = .ok (.dup, 1) := by decide +kernel
theorem dL_law_4 : decode cL_law 4 = .ok (.invokespecial 11, 3) := by decide +kernel
theorem dL_law_7 : decode cL_law 7 = .ok (.astore_n 1, 1) := by decide +kernel
theorem dL_law_8 : decode cL_law 8 = .ok (.aload_n 1, 1) := by decide +kernel
theorem dL_law_9 : decode cL_law 9 = .ok (.iconst 1, 1) := by decide +kernel
theorem dL_law_10 : decode cL_law 10 = .ok (.invokevirtual 12, 3) := by decide +kernel
theorem dL_law_13 : decode cL_law 13 = .ok (.pop, 1) := by decide +kernel
theorem dL_law_14 : decode cL_law 14 = .ok (.aload_n 1, 1) := by decide +kernel
theorem dL_law_15 : decode cL_law 15 = .ok (.iconst 0, 1) := by decide +kernel
theorem dL_law_16 : decode cL_law 16 = .ok (.invokevirtual 12, 3) := by decide +kernel
theorem dL_law_19 : decode cL_law 19 = .ok (.pop, 1) := by decide +kernel
theorem dL_law_20 : decode cL_law 20 = .ok (.iconst 0, 1) := by decide +kernel
theorem dL_law_21 : decode cL_law 21 = .ok (.istore_n 2, 1) := by decide +kernel
theorem dL_law_22 : decode cL_law 22 = .ok (.iload_n 2, 1) := by decide +kernel
theorem dL_law_23 : decode cL_law 23 = .ok (.bipush 24, 2) := by decide +kernel
theorem dL_law_25 : decode cL_law 25 = .ok (.if_icmp .ge 109, 3) := by decide +kernel
theorem dL_law_28 : decode cL_law 28 = .ok (.aload_n 0, 1) := by decide +kernel
theorem dL_law_29 : decode cL_law 29 = .ok (.iload_n 2, 1) := by decide +kernel
theorem dL_law_30 : decode cL_law 30 = .ok (.bipush 16, 2) := by decide +kernel
theorem dL_law_32 : decode cL_law 32 = .ok (.irem, 1) := by decide +kernel
theorem dL_law_33 : decode cL_law 33 = .ok (.invokestatic 16, 3) := by decide +kernel
theorem dL_law_36 : decode cL_law 36 = .ok (.iload_n 2, 1) := by decide +kernel
theorem dL_law_37 : decode cL_law 37 = .ok (.bipush 16, 2) := by decide +kernel
theorem dL_law_39 : decode cL_law 39 = .ok (.idiv, 1) := by decide +kernel
theorem dL_law_40 : decode cL_law 40 = .ok (.iconst 3, 1) := by decide +kernel
theorem dL_law_41 : decode cL_law 41 = .ok (.imul, 1) := by decide +kernel
theorem dL_law_42 : decode cL_law 42 = .ok (.ishr, 1) := by decide +kernel
theorem dL_law_43 : decode cL_law 43 = .ok (.bipush 43, 2) := by decide +kernel
theorem dL_law_45 : decode cL_law 45 = .ok (.iload_n 2, 1) := by decide +kernel
theorem dL_law_46 : decode cL_law 46 = .ok (.imul, 1) := by decide +kernel
theorem dL_law_47 : decode cL_law 47 = .ok (.iadd, 1) := by decide +kernel
theorem dL_law_48 : decode cL_law 48 = .ok (.istore_n 3, 1) := by decide +kernel
theorem dL_law_49 : decode cL_law 49 = .ok (.iload_n 2, 1) := by decide +kernel
theorem dL_law_50 : decode cL_law 50 = .ok (.iconst 2, 1) := by decide +kernel
theorem dL_law_51 : decode cL_law 51 = .ok (.irem, 1) := by decide +kernel
theorem dL_law_52 : decode cL_law 52 = .ok (.ifCond .ne 32, 3) := by decide +kernel
theorem dL_law_55 : decode cL_law 55 = .ok (.aload_n 1, 1) := by decide +kernel
theorem dL_law_56 : decode cL_law 56 = .ok (.iconst 0, 1) := by decide +kernel
theorem dL_law_57 : decode cL_law 57 = .ok (.iload_n 3, 1) := by decide +kernel
theorem dL_law_58 : decode cL_law 58 = .ok (.sipush 1024, 3) := by decide +kernel
theorem dL_law_61 : decode cL_law 61 = .ok (.invokestatic 22, 3) := by decide +kernel
theorem dL_law_64 : decode cL_law 64 = .ok (.iload_n 3, 1) := by decide +kernel
theorem dL_law_65 : decode cL_law 65 = .ok (.iconst 2, 1) := by decide +kernel
theorem dL_law_66 : decode cL_law 66 = .ok (.ishr, 1) := by decide +kernel
theorem dL_law_67 : decode cL_law 67 = .ok (.sipush 1024, 3) := by decide +kernel
theorem dL_law_70 : decode cL_law 70 = .ok (.invokestatic 22, 3) := by decide +kernel
theorem dL_law_73 : decode cL_law 73 = .ok (.iload_n 2, 1) := by decide +kernel
theorem dL_law_74 : decode cL_law 74 = .ok (.bipush 10, 2) := by decide +kernel
theorem dL_law_76 : decode cL_law 76 = .ok (.irem, 1) := by decide +kernel
theorem dL_law_77 : decode cL_law 77 = .ok (.invokevirtual 26, 3) := by decide +kernel
theorem dL_law_80 : decode cL_law 80 = .ok (.pop, 1) := by decide +kernel
theorem dL_law_81 : decode cL_law 81 = .ok (.goto 47, 3) := by decide +kernel
theorem dL_law_84 : decode cL_law 84 = .ok (.aload_n 1, 1) := by decide +kernel
theorem dL_law_85 : decode cL_law 85 = .ok (.iconst 1, 1) := by decide +kernel
theorem dL_law_86 : decode cL_law 86 = .ok (.iload_n 3, 1) := by decide +kernel
theorem dL_law_87 : decode cL_law 87 = .ok (.sipush 800, 3) := by decide +kernel
theorem dL_law_90 : decode cL_law 90 = .ok (.invokestatic 22, 3) := by decide +kernel
theorem dL_law_93 : decode cL_law 93 = .ok (.iload_n 3, 1) := by decide +kernel
theorem dL_law_94 : decode cL_law 94 = .ok (.iconst 2, 1) := by decide +kernel
theorem dL_law_95 : decode cL_law 95 = .ok (.ishr, 1) := by decide +kernel
theorem dL_law_96 : decode cL_law 96 = .ok (.sipush 800, 3) := by decide +kernel
theorem dL_law_99 : decode cL_law 99 = .ok (.invokestatic 22, 3) := by decide +kernel
theorem dL_law_102 : decode cL_law 102 = .ok (.iload_n 3, 1) := by decide +kernel
theorem dL_law_103 : decode cL_law 103 = .ok (.iconst 3, 1) := by decide +kernel
theorem dL_law_104 : decode cL_law 104 = .ok (.ishr, 1) := by decide +kernel
theorem dL_law_105 : decode cL_law 105 = .ok (.sipush 201, 3) := by decide +kernel
theorem dL_law_108 : decode cL_law 108 = .ok (.invokestatic 22, 3) := by decide +kernel
theorem dL_law_111 : decode cL_law 111 = .ok (.iload_n 3, 1) := by decide +kernel
theorem dL_law_112 : decode cL_law 112 = .ok (.iconst 4, 1) := by decide +kernel
theorem dL_law_113 : decode cL_law 113 = .ok (.ishr, 1) := by decide +kernel
theorem dL_law_114 : decode cL_law 114 = .ok (.sipush 201, 3) := by decide +kernel
theorem dL_law_117 : decode cL_law 117 = .ok (.invokestatic 22, 3) := by decide +kernel
theorem dL_law_120 : decode cL_law 120 = .ok (.iload_n 2, 1) := by decide +kernel
theorem dL_law_121 : decode cL_law 121 = .ok (.bipush 10, 2) := by decide +kernel
theorem dL_law_123 : decode cL_law 123 = .ok (.irem, 1) := by decide +kernel
theorem dL_law_124 : decode cL_law 124 = .ok (.invokevirtual 30, 3) := by decide +kernel
theorem dL_law_127 : decode cL_law 127 = .ok (.pop, 1) := by decide +kernel
theorem dL_law_128 : decode cL_law 128 = .ok (.iinc 2 1, 3) := by decide +kernel
theorem dL_law_131 : decode cL_law 131 = .ok (.goto (-109), 3) := by decide +kernel
theorem dL_law_134 : decode cL_law 134 = .ok (.aload_n 1, 1) := by decide +kernel
theorem dL_law_135 : decode cL_law 135 = .ok (.iconst 0, 1) := by decide +kernel
theorem dL_law_136 : decode cL_law 136 = .ok (.iconst 1, 1) := by decide +kernel
theorem dL_law_137 : decode cL_law 137 = .ok (.aload_n 0, 1) := by decide +kernel
theorem dL_law_138 : decode cL_law 138 = .ok (.iconst 0, 1) := by decide +kernel
theorem dL_law_139 : decode cL_law 139 = .ok (.invokestatic 16, 3) := by decide +kernel
theorem dL_law_142 : decode cL_law 142 = .ok (.bipush 8, 2) := by decide +kernel
theorem dL_law_144 : decode cL_law 144 = .ok (.invokestatic 22, 3) := by decide +kernel
theorem dL_law_147 : decode cL_law 147 = .ok (.iadd, 1) := by decide +kernel
theorem dL_law_148 : decode cL_law 148 = .ok (.invokevirtual 34, 3) := by decide +kernel
theorem dL_law_151 : decode cL_law 151 = .ok (.pop, 1) := by decide +kernel
theorem dL_law_152 : decode cL_law 152 = .ok (.aload_n 1, 1) := by decide +kernel
theorem dL_law_153 : decode cL_law 153 = .ok (.iconst 1, 1) := by decide +kernel
theorem dL_law_154 : decode cL_law 154 = .ok (.iconst 2, 1) := by decide +kernel
theorem dL_law_155 : decode cL_law 155 = .ok (.aload_n 0, 1) := by decide +kernel
theorem dL_law_156 : decode cL_law 156 = .ok (.iconst 1, 1) := by decide +kernel
theorem dL_law_157 : decode cL_law 157 = .ok (.invokestatic 16, 3) := by decide +kernel
theorem dL_law_160 : decode cL_law 160 = .ok (.bipush 7, 2) := by decide +kernel
theorem dL_law_162 : decode cL_law 162 = .ok (.invokestatic 22, 3) := by decide +kernel
theorem dL_law_165 : decode cL_law 165 = .ok (.iadd, 1) := by decide +kernel
theorem dL_law_166 : decode cL_law 166 = .ok (.invokevirtual 34, 3) := by decide +kernel
theorem dL_law_169 : decode cL_law 169 = .ok (.pop, 1) := by decide +kernel
theorem dL_law_170 : decode cL_law 170 = .ok (.aload_n 1, 1) := by decide +kernel
theorem dL_law_171 : decode cL_law 171 = .ok (.iconst 1, 1) := by decide +kernel
theorem dL_law_172 : decode cL_law 172 = .ok (.invokevirtual 37, 3) := by decide +kernel
theorem dL_law_175 : decode cL_law 175 = .ok (.pop, 1) := by decide +kernel
theorem dL_law_176 : decode cL_law 176 = .ok (.iconst 0, 1) := by decide +kernel
theorem dL_law_177 : decode cL_law 177 = .ok (.istore_n 2, 1) := by decide +kernel
theorem dL_law_178 : decode cL_law 178 = .ok (.iload_n 2, 1) := by decide +kernel
theorem dL_law_179 : decode cL_law 179 = .ok (.iconst 4, 1) := by decide +kernel
theorem dL_law_180 : decode cL_law 180 = .ok (.if_icmp .ge 834, 3) := by decide +kernel
theorem dL_law_183 : decode cL_law 183 = .ok (.aload_n 1, 1) := by decide +kernel
theorem dL_law_184 : decode cL_law 184 = .ok (.invokevirtual 41, 3) := by decide +kernel
theorem dL_law_187 : decode cL_law 187 = .ok (.lstore_n 3, 1) := by decide +kernel
theorem dL_law_188 : decode cL_law 188 = .ok (.aload_n 0, 1) := by decide +kernel
theorem dL_law_189 : decode cL_law 189 = .ok (.iconst 2, 1) := by decide +kernel
theorem dL_law_190 : decode cL_law 190 = .ok (.iload_n 2, 1) := by decide +kernel
theorem dL_law_191 : decode cL_law 191 = .ok (.iadd, 1) := by decide +kernel
theorem dL_law_192 : decode cL_law 192 = .ok (.invokestatic 16, 3) := by decide +kernel
theorem dL_law_195 : decode cL_law 195 = .ok (.sipush 1024, 3) := by decide +kernel
theorem dL_law_198 : decode cL_law 198 = .ok (.invokestatic 22, 3) := by decide +kernel
theorem dL_law_201 : decode cL_law 201 = .ok (.istore 5, 2) := by decide +kernel
theorem dL_law_203 : decode cL_law 203 = .ok (.aload_n 0, 1) := by decide +kernel
theorem dL_law_204 : decode cL_law 204 = .ok (.iconst 3, 1) := by decide +kernel
theorem dL_law_205 : decode cL_law 205 = .ok (.iload_n 2, 1) := by decide +kernel
theorem dL_law_206 : decode cL_law 206 = .ok (.iadd, 1) := by decide +kernel
theorem dL_law_207 : decode cL_law 207 = .ok (.invokestatic 16, 3) := by decide +kernel
theorem dL_law_210 : decode cL_law 210 = .ok (.sipush 1024, 3) := by decide +kernel
theorem dL_law_213 : decode cL_law 213 = .ok (.invokestatic 22, 3) := by decide +kernel
theorem dL_law_216 : decode cL_law 216 = .ok (.istore 6, 2) := by decide +kernel
theorem dL_law_218 : decode cL_law 218 = .ok (.aload_n 0, 1) := by decide +kernel
theorem dL_law_219 : decode cL_law 219 = .ok (.iconst 4, 1) := by decide +kernel
theorem dL_law_220 : decode cL_law 220 = .ok (.iload_n 2, 1) := by decide +kernel
theorem dL_law_221 : decode cL_law 221 = .ok (.iadd, 1) := by decide +kernel
theorem dL_law_222 : decode cL_law 222 = .ok (.invokestatic 16, 3) := by decide +kernel
theorem dL_law_225 : decode cL_law 225 = .ok (.sipush 600, 3) := by decide +kernel
theorem dL_law_228 : decode cL_law 228 = .ok (.invokestatic 22, 3) := by decide +kernel
theorem dL_law_231 : decode cL_law 231 = .ok (.istore 7, 2) := by decide +kernel
theorem dL_law_233 : decode cL_law 233 = .ok (.iconst 0, 1) := by decide +kernel
theorem dL_law_234 : decode cL_law 234 = .ok (.istore 8, 2) := by decide +kernel
theorem dL_law_236 : decode cL_law 236 = .ok (.iload 8, 2) := by decide +kernel
theorem dL_law_238 : decode cL_law 238 = .ok (.iconst 2, 1) := by decide +kernel
theorem dL_law_239 : decode cL_law 239 = .ok (.if_icmp .ge 506, 3) := by decide +kernel
theorem dL_law_242 : decode cL_law 242 = .ok (.aload_n 1, 1) := by decide +kernel
theorem dL_law_243 : decode cL_law 243 = .ok (.iload 8, 2) := by decide +kernel
theorem dL_law_245 : decode cL_law 245 = .ok (.invokevirtual 45, 3) := by decide +kernel
theorem dL_law_248 : decode cL_law 248 = .ok (.istore 9, 2) := by decide +kernel
theorem dL_law_250 : decode cL_law 250 = .ok (.iconst 0, 1) := by decide +kernel
theorem dL_law_251 : decode cL_law 251 = .ok (.istore 10, 2) := by decide +kernel
theorem dL_law_253 : decode cL_law 253 = .ok (.iconst 0, 1) := by decide +kernel
theorem dL_law_254 : decode cL_law 254 = .ok (.istore 11, 2) := by decide +kernel
theorem dL_law_256 : decode cL_law 256 = .ok (.iconst 1, 1) := by decide +kernel
theorem dL_law_257 : decode cL_law 257 = .ok (.istore 12, 2) := by decide +kernel
theorem dL_law_259 : decode cL_law 259 = .ok (.iload 12, 2) := by decide +kernel
theorem dL_law_261 : decode cL_law 261 = .ok (.iload 9, 2) := by decide +kernel
theorem dL_law_263 : decode cL_law 263 = .ok (.if_icmp .gt 103, 3) := by decide +kernel
theorem dL_law_266 : decode cL_law 266 = .ok (.aload_n 1, 1) := by decide +kernel
theorem dL_law_267 : decode cL_law 267 = .ok (.iload 8, 2) := by decide +kernel
theorem dL_law_269 : decode cL_law 269 = .ok (.iload 5, 2) := by decide +kernel
theorem dL_law_271 : decode cL_law 271 = .ok (.iload 6, 2) := by decide +kernel
theorem dL_law_273 : decode cL_law 273 = .ok (.iload 12, 2) := by decide +kernel
theorem dL_law_275 : decode cL_law 275 = .ok (.invokevirtual 48, 3) := by decide +kernel
theorem dL_law_278 : decode cL_law 278 = .ok (.istore 13, 2) := by decide +kernel
theorem dL_law_280 : decode cL_law 280 = .ok (.aload_n 1, 1) := by decide +kernel
theorem dL_law_281 : decode cL_law 281 = .ok (.iload 8, 2) := by decide +kernel
theorem dL_law_283 : decode cL_law 283 = .ok (.iload 5, 2) := by decide +kernel
theorem dL_law_285 : decode cL_law 285 = .ok (.iload 6, 2) := by decide +kernel
theorem dL_law_287 : decode cL_law 287 = .ok (.iload 12, 2) := by decide +kernel
theorem dL_law_289 : decode cL_law 289 = .ok (.invokevirtual 51, 3) := by decide +kernel
theorem dL_law_292 : decode cL_law 292 = .ok (.istore 14, 2) := by decide +kernel
theorem dL_law_294 : decode cL_law 294 = .ok (.aload_n 1, 1) := by decide +kernel
theorem dL_law_295 : decode cL_law 295 = .ok (.iload 8, 2) := by decide +kernel
theorem dL_law_297 : decode cL_law 297 = .ok (.iload 5, 2) := by decide +kernel
theorem dL_law_299 : decode cL_law 299 = .ok (.iload 6, 2) := by decide +kernel
theorem dL_law_301 : decode cL_law 301 = .ok (.iload 12, 2) := by decide +kernel
theorem dL_law_303 : decode cL_law 303 = .ok (.invokevirtual 54, 3) := by decide +kernel
theorem dL_law_306 : decode cL_law 306 = .ok (.istore 15, 2) := by decide +kernel
theorem dL_law_308 : decode cL_law 308 = .ok (.iload 13, 2) := by decide +kernel
theorem dL_law_310 : decode cL_law 310 = .ok (.ifCond .lt 40, 3) := by decide +kernel
theorem dL_law_313 : decode cL_law 313 = .ok (.aload_n 1, 1) := by decide +kernel
theorem dL_law_314 : decode cL_law 314 = .ok (.iload 13, 2) := by decide +kernel
theorem dL_law_316 : decode cL_law 316 = .ok (.iconst 0, 1) := by decide +kernel
theorem dL_law_317 : decode cL_law 317 = .ok (.invokevirtual 57, 3) := by decide +kernel
theorem dL_law_320 : decode cL_law 320 = .ok (.iload 8, 2) := by decide +kernel
theorem dL_law_322 : decode cL_law 322 = .ok (.if_icmp .ne 28, 3) := by decide +kernel
theorem dL_law_325 : decode cL_law 325 = .ok (.iload 14, 2) := by decide +kernel
theorem dL_law_327 : decode cL_law 327 = .ok (.iload 10, 2) := by decide +kernel
theorem dL_law_329 : decode cL_law 329 = .ok (.if_icmp .lt 21, 3) := by decide +kernel
theorem dL_law_332 : decode cL_law 332 = .ok (.iload 15, 2) := by decide +kernel
theorem dL_law_334 : decode cL_law 334 = .ok (.iload 11, 2) := by decide +kernel
theorem dL_law_336 : decode cL_law 336 = .ok (.if_icmp .lt 14, 3) := by decide +kernel
theorem dL_law_339 : decode cL_law 339 = .ok (.iload 15, 2) := by decide +kernel
theorem dL_law_341 : decode cL_law 341 = .ok (.aload_n 1, 1) := by decide +kernel
theorem dL_law_342 : decode cL_law 342 = .ok (.iload 8, 2) := by decide +kernel
theorem dL_law_344 : decode cL_law 344 = .ok (.invokevirtual 60, 3) := by decide +kernel
theorem dL_law_347 : decode cL_law 347 = .ok (.if_icmp .le 5, 3) := by decide +kernel
theorem dL_law_350 : decode cL_law 350 = .ok (.iconst 0, 1) := by decide +kernel
theorem dL_law_351 : decode cL_law 351 = .ok (.ireturn, 1) := by decide +kernel
theorem dL_law_352 : decode cL_law 352 = .ok (.iload 14, 2) := by decide +kernel
theorem dL_law_354 : decode cL_law 354 = .ok (.istore 10, 2) := by decide +kernel
theorem dL_law_356 : decode cL_law 356 = .ok (.iload 15, 2) := by decide +kernel
theorem dL_law_358 : decode cL_law 358 = .ok (.istore 11, 2) := by decide +kernel
theorem dL_law_360 : decode cL_law 360 = .ok (.iinc 12 1, 3) := by decide +kernel
theorem dL_law_363 : decode cL_law 363 = .ok (.goto (-104), 3) := by decide +kernel
theorem dL_law_366 : decode cL_law 366 = .ok (.aload_n 1, 1) := by decide +kernel
theorem dL_law_367 : decode cL_law 367 = .ok (.iload 8, 2) := by decide +kernel
theorem dL_law_369 : decode cL_law 369 = .ok (.iload 5, 2) := by decide +kernel
theorem dL_law_371 : decode cL_law 371 = .ok (.iload 6, 2) := by decide +kernel
theorem dL_law_373 : decode cL_law 373 = .ok (.iload 9, 2) := by decide +kernel
theorem dL_law_375 : decode cL_law 375 = .ok (.iconst 1, 1) := by decide +kernel
theorem dL_law_376 : decode cL_law 376 = .ok (.iadd, 1) := by decide +kernel
theorem dL_law_377 : decode cL_law 377 = .ok (.invokevirtual 48, 3) := by decide +kernel
theorem dL_law_380 : decode cL_law 380 = .ok (.iconst (-1), 1) := by decide +kernel
theorem dL_law_381 : decode cL_law 381 = .ok (.if_icmp .ne 26, 3) := by decide +kernel
theorem dL_law_384 : decode cL_law 384 = .ok (.aload_n 1, 1) := by decide +kernel
theorem dL_law_385 : decode cL_law 385 = .ok (.iload 8, 2) := by decide +kernel
theorem dL_law_387 : decode cL_law 387 = .ok (.iload 5, 2) := by decide +kernel
theorem dL_law_389 : decode cL_law 389 = .ok (.iload 6, 2) := by decide +kernel
theorem dL_law_391 : decode cL_law 391 = .ok (.iload 9, 2) := by decide +kernel
theorem dL_law_393 : decode cL_law 393 = .ok (.iconst 1, 1) := by decide +kernel
theorem dL_law_394 : decode cL_law 394 = .ok (.iadd, 1) := by decide +kernel
theorem dL_law_395 : decode cL_law 395 = .ok (.invokevirtual 54, 3) := by decide +kernel
theorem dL_law_398 : decode cL_law 398 = .ok (.aload_n 1, 1) := by decide +kernel
theorem dL_law_399 : decode cL_law 399 = .ok (.iload 8, 2) := by decide +kernel
theorem dL_law_401 : decode cL_law 401 = .ok (.invokevirtual 60, 3) := by decide +kernel
theorem dL_law_404 : decode cL_law 404 = .ok (.if_icmp .eq 5, 3) := by decide +kernel
theorem dL_law_407 : decode cL_law 407 = .ok (.iconst 0, 1) := by decide +kernel
theorem dL_law_408 : decode cL_law 408 = .ok (.ireturn, 1) := by decide +kernel
theorem dL_law_409 : decode cL_law 409 = .ok (.aload_n 1, 1) := by decide +kernel
theorem dL_law_410 : decode cL_law 410 = .ok (.iload 8, 2) := by decide +kernel
theorem dL_law_412 : decode cL_law 412 = .ok (.iload 5, 2) := by decide +kernel
theorem dL_law_414 : decode cL_law 414 = .ok (.iload 6, 2) := by decide +kernel
theorem dL_law_416 : decode cL_law 416 = .ok (.iload 7, 2) := by decide +kernel
theorem dL_law_418 : decode cL_law 418 = .ok (.iload 7, 2) := by decide +kernel
theorem dL_law_420 : decode cL_law 420 = .ok (.invokevirtual 63, 3) := by decide +kernel
theorem dL_law_423 : decode cL_law 423 = .ok (.istore 12, 2) := by decide +kernel
theorem dL_law_425 : decode cL_law 425 = .ok (.aload_n 1, 1) := by decide +kernel
theorem dL_law_426 : decode cL_law 426 = .ok (.iload 8, 2) := by decide +kernel
theorem dL_law_428 : decode cL_law 428 = .ok (.iload 5, 2) := by decide +kernel
theorem dL_law_430 : decode cL_law 430 = .ok (.iload 6, 2) := by decide +kernel
theorem dL_law_432 : decode cL_law 432 = .ok (.iload 7, 2) := by decide +kernel
theorem dL_law_434 : decode cL_law 434 = .ok (.iload 7, 2) := by decide +kernel
theorem dL_law_436 : decode cL_law 436 = .ok (.invokevirtual 67, 3) := by decide +kernel
theorem dL_law_439 : decode cL_law 439 = .ok (.iload 9, 2) := by decide +kernel
theorem dL_law_441 : decode cL_law 441 = .ok (.if_icmp .gt 91, 3) := by decide +kernel
theorem dL_law_444 : decode cL_law 444 = .ok (.iload 12, 2) := by decide +kernel
theorem dL_law_446 : decode cL_law 446 = .ok (.aload_n 1, 1) := by decide +kernel
theorem dL_law_447 : decode cL_law 447 = .ok (.iload 8, 2) := by decide +kernel
theorem dL_law_449 : decode cL_law 449 = .ok (.invokevirtual 60, 3) := by decide +kernel
theorem dL_law_452 : decode cL_law 452 = .ok (.if_icmp .gt 80, 3) := by decide +kernel
theorem dL_law_455 : decode cL_law 455 = .ok (.aload_n 1, 1) := by decide +kernel
theorem dL_law_456 : decode cL_law 456 = .ok (.iload 8, 2) := by decide +kernel
theorem dL_law_458 : decode cL_law 458 = .ok (.iload 5, 2) := by decide +kernel
theorem dL_law_460 : decode cL_law 460 = .ok (.iload 6, 2) := by decide +kernel
theorem dL_law_462 : decode cL_law 462 = .ok (.iload 7, 2) := by decide +kernel
theorem dL_law_464 : decode cL_law 464 = .ok (.iconst 2, 1) := by decide +kernel
theorem dL_law_465 : decode cL_law 465 = .ok (.idiv, 1) := by decide +kernel
theorem dL_law_466 : decode cL_law 466 = .ok (.iload 7, 2) := by decide +kernel
theorem dL_law_468 : decode cL_law 468 = .ok (.iconst 2, 1) := by decide +kernel
theorem dL_law_469 : decode cL_law 469 = .ok (.idiv, 1) := by decide +kernel
theorem dL_law_470 : decode cL_law 470 = .ok (.invokevirtual 63, 3) := by decide +kernel
theorem dL_law_473 : decode cL_law 473 = .ok (.iload 12, 2) := by decide +kernel
theorem dL_law_475 : decode cL_law 475 = .ok (.if_icmp .gt 57, 3) := by decide +kernel
theorem dL_law_478 : decode cL_law 478 = .ok (.aload_n 1, 1) := by decide +kernel
theorem dL_law_479 : decode cL_law 479 = .ok (.iload 8, 2) := by decide +kernel
theorem dL_law_481 : decode cL_law 481 = .ok (.iload 5, 2) := by decide +kernel
theorem dL_law_483 : decode cL_law 483 = .ok (.iload 6, 2) := by decide +kernel
theorem dL_law_485 : decode cL_law 485 = .ok (.iload 7, 2) := by decide +kernel
theorem dL_law_487 : decode cL_law 487 = .ok (.iconst 2, 1) := by decide +kernel
theorem dL_law_488 : decode cL_law 488 = .ok (.idiv, 1) := by decide +kernel
theorem dL_law_489 : decode cL_law 489 = .ok (.iload 7, 2) := by decide +kernel
theorem dL_law_491 : decode cL_law 491 = .ok (.iconst 2, 1) := by decide +kernel
theorem dL_law_492 : decode cL_law 492 = .ok (.idiv, 1) := by decide +kernel
theorem dL_law_493 : decode cL_law 493 = .ok (.invokevirtual 67, 3) := by decide +kernel
theorem dL_law_496 : decode cL_law 496 = .ok (.aload_n 1, 1) := by decide +kernel
theorem dL_law_497 : decode cL_law 497 = .ok (.iload 8, 2) := by decide +kernel
theorem dL_law_499 : decode cL_law 499 = .ok (.iload 5, 2) := by decide +kernel
theorem dL_law_501 : decode cL_law 501 = .ok (.iload 6, 2) := by decide +kernel
theorem dL_law_503 : decode cL_law 503 = .ok (.iload 7, 2) := by decide +kernel
theorem dL_law_505 : decode cL_law 505 = .ok (.iload 7, 2) := by decide +kernel
theorem dL_law_507 : decode cL_law 507 = .ok (.invokevirtual 67, 3) := by decide +kernel
theorem dL_law_510 : decode cL_law 510 = .ok (.if_icmp .gt 22, 3) := by decide +kernel
theorem dL_law_513 : decode cL_law 513 = .ok (.aload_n 1, 1) := by decide +kernel
theorem dL_law_514 : decode cL_law 514 = .ok (.iload 8, 2) := by decide +kernel
theorem dL_law_516 : decode cL_law 516 = .ok (.iconst 0, 1) := by decide +kernel
theorem dL_law_517 : decode cL_law 517 = .ok (.iconst 0, 1) := by decide +kernel
theorem dL_law_518 : decode cL_law 518 = .ok (.sipush 1023, 3) := by decide +kernel
theorem dL_law_521 : decode cL_law 521 = .ok (.sipush 1023, 3) := by decide +kernel
theorem dL_law_524 : decode cL_law 524 = .ok (.invokevirtual 67, 3) := by decide +kernel
theorem dL_law_527 : decode cL_law 527 = .ok (.iload 9, 2) := by decide +kernel
theorem dL_law_529 : decode cL_law 529 = .ok (.if_icmp .eq 5, 3) := by decide +kernel
theorem dL_law_532 : decode cL_law 532 = .ok (.iconst 0, 1) := by decide +kernel
theorem dL_law_533 : decode cL_law 533 = .ok (.ireturn, 1) := by decide +kernel
theorem dL_law_534 : decode cL_law 534 = .ok (.aload_n 1, 1) := by decide +kernel
theorem dL_law_535 : decode cL_law 535 = .ok (.iload 8, 2) := by decide +kernel
theorem dL_law_537 : decode cL_law 537 = .ok (.iload 8, 2) := by decide +kernel
theorem dL_law_539 : decode cL_law 539 = .ok (.sipush 400, 3) := by decide +kernel
theorem dL_law_542 : decode cL_law 542 = .ok (.invokevirtual 70, 3) := by decide +kernel
theorem dL_law_545 : decode cL_law 545 = .ok (.istore 13, 2) := by decide +kernel
theorem dL_law_547 : decode cL_law 547 = .ok (.aload_n 1, 1) := by decide +kernel
theorem dL_law_548 : decode cL_law 548 = .ok (.iload 8, 2) := by decide +kernel
theorem dL_law_550 : decode cL_law 550 = .ok (.iload 8, 2) := by decide +kernel
theorem dL_law_552 : decode cL_law 552 = .ok (.ldc 74, 2) := by decide +kernel
theorem dL_law_554 : decode cL_law 554 = .ok (.invokevirtual 70, 3) := by decide +kernel
theorem dL_law_557 : decode cL_law 557 = .ok (.istore 14, 2) := by decide +kernel
theorem dL_law_559 : decode cL_law 559 = .ok (.aload_n 1, 1) := by decide +kernel
theorem dL_law_560 : decode cL_law 560 = .ok (.iload 8, 2) := by decide +kernel
theorem dL_law_562 : decode cL_law 562 = .ok (.sipush 400, 3) := by decide +kernel
theorem dL_law_565 : decode cL_law 565 = .ok (.invokevirtual 75, 3) := by decide +kernel
theorem dL_law_568 : decode cL_law 568 = .ok (.istore 15, 2) := by decide +kernel
theorem dL_law_570 : decode cL_law 570 = .ok (.iload 13, 2) := by decide +kernel
theorem dL_law_572 : decode cL_law 572 = .ok (.iload 14, 2) := by decide +kernel
theorem dL_law_574 : decode cL_law 574 = .ok (.if_icmp .gt 88, 3) := by decide +kernel
theorem dL_law_577 : decode cL_law 577 = .ok (.iload 14, 2) := by decide +kernel
theorem dL_law_579 : decode cL_law 579 = .ok (.iload 9, 2) := by decide +kernel
theorem dL_law_581 : decode cL_law 581 = .ok (.iload 9, 2) := by decide +kernel
theorem dL_law_583 : decode cL_law 583 = .ok (.iconst 1, 1) := by decide +kernel
theorem dL_law_584 : decode cL_law 584 = .ok (.isub, 1) := by decide +kernel
theorem dL_law_585 : decode cL_law 585 = .ok (.imul, 1) := by decide +kernel
theorem dL_law_586 : decode cL_law 586 = .ok (.iconst 2, 1) := by decide +kernel
theorem dL_law_587 : decode cL_law 587 = .ok (.idiv, 1) := by decide +kernel
theorem dL_law_588 : decode cL_law 588 = .ok (.if_icmp .ne 74, 3) := by decide +kernel
theorem dL_law_591 : decode cL_law 591 = .ok (.iload 15, 2) := by decide +kernel
theorem dL_law_593 : decode cL_law 593 = .ok (.iload 9, 2) := by decide +kernel
theorem dL_law_595 : decode cL_law 595 = .ok (.iload 13, 2) := by decide +kernel
theorem dL_law_597 : decode cL_law 597 = .ok (.isub, 1) := by decide +kernel
theorem dL_law_598 : decode cL_law 598 = .ok (.if_icmp .lt 64, 3) := by decide +kernel
theorem dL_law_601 : decode cL_law 601 = .ok (.iload 15, 2) := by decide +kernel
theorem dL_law_603 : decode cL_law 603 = .ok (.iload 9, 2) := by decide +kernel
theorem dL_law_605 : decode cL_law 605 = .ok (.if_icmp .gt 57, 3) := by decide +kernel
theorem dL_law_608 : decode cL_law 608 = .ok (.aload_n 1, 1) := by decide +kernel
theorem dL_law_609 : decode cL_law 609 = .ok (.iload 8, 2) := by decide +kernel
theorem dL_law_611 : decode cL_law 611 = .ok (.ldc 74, 2) := by decide +kernel
theorem dL_law_613 : decode cL_law 613 = .ok (.invokevirtual 75, 3) := by decide +kernel
theorem dL_law_616 : decode cL_law 616 = .ok (.iconst 1, 1) := by decide +kernel
theorem dL_law_617 : decode cL_law 617 = .ok (.iload 9, 2) := by decide +kernel
theorem dL_law_619 : decode cL_law 619 = .ok (.invokestatic 78, 3) := by decide +kernel
theorem dL_law_622 : decode cL_law 622 = .ok (.if_icmp .ne 40, 3) := by decide +kernel
theorem dL_law_625 : decode cL_law 625 = .ok (.aload_n 1, 1) := by decide +kernel
theorem dL_law_626 : decode cL_law 626 = .ok (.iload 8, 2) := by decide +kernel
theorem dL_law_628 : decode cL_law 628 = .ok (.ldc 74, 2) := by decide +kernel
theorem dL_law_630 : decode cL_law 630 = .ok (.invokevirtual 83, 3) := by decide +kernel
theorem dL_law_633 : decode cL_law 633 = .ok (.iload 9, 2) := by decide +kernel
theorem dL_law_635 : decode cL_law 635 = .ok (.if_icmp .ne 27, 3) := by decide +kernel
theorem dL_law_638 : decode cL_law 638 = .ok (.aload_n 1, 1) := by decide +kernel
theorem dL_law_639 : decode cL_law 639 = .ok (.iload 8, 2) := by decide +kernel
theorem dL_law_641 : decode cL_law 641 = .ok (.sipush 400, 3) := by decide +kernel
theorem dL_law_644 : decode cL_law 644 = .ok (.invokevirtual 83, 3) := by decide +kernel
theorem dL_law_647 : decode cL_law 647 = .ok (.iload 9, 2) := by decide +kernel
theorem dL_law_649 : decode cL_law 649 = .ok (.iload 15, 2) := by decide +kernel
theorem dL_law_651 : decode cL_law 651 = .ok (.isub, 1) := by decide +kernel
theorem dL_law_652 : decode cL_law 652 = .ok (.iconst 1, 1) := by decide +kernel
theorem dL_law_653 : decode cL_law 653 = .ok (.iadd, 1) := by decide +kernel
theorem dL_law_654 : decode cL_law 654 = .ok (.if_icmp .le 10, 3) := by decide +kernel
theorem dL_law_657 : decode cL_law 657 = .ok (.iload 9, 2) := by decide +kernel
theorem dL_law_659 : decode cL_law 659 = .ok (.ifCond .le 5, 3) := by decide +kernel
theorem dL_law_662 : decode cL_law 662 = .ok (.iconst 0, 1) := by decide +kernel
theorem dL_law_663 : decode cL_law 663 = .ok (.ireturn, 1) := by decide +kernel
theorem dL_law_664 : decode cL_law 664 = .ok (.aload_n 1, 1) := by decide +kernel
theorem dL_law_665 : decode cL_law 665 = .ok (.iload 8, 2) := by decide +kernel
theorem dL_law_667 : decode cL_law 667 = .ok (.bipush 8, 2) := by decide +kernel
theorem dL_law_669 : decode cL_law 669 = .ok (.invokevirtual 86, 3) := by decide +kernel
theorem dL_law_672 : decode cL_law 672 = .ok (.aload_n 1, 1) := by decide +kernel
theorem dL_law_673 : decode cL_law 673 = .ok (.iload 8, 2) := by decide +kernel
theorem dL_law_675 : decode cL_law 675 = .ok (.iconst 2, 1) := by decide +kernel
theorem dL_law_676 : decode cL_law 676 = .ok (.invokevirtual 86, 3) := by decide +kernel
theorem dL_law_679 : decode cL_law 679 = .ok (.if_icmp .gt 58, 3) := by decide +kernel
theorem dL_law_682 : decode cL_law 682 = .ok (.aload_n 1, 1) := by decide +kernel
theorem dL_law_683 : decode cL_law 683 = .ok (.iload 8, 2) := by decide +kernel
theorem dL_law_685 : decode cL_law 685 = .ok (.iconst 1, 1) := by decide +kernel
theorem dL_law_686 : decode cL_law 686 = .ok (.iload 8, 2) := by decide +kernel
theorem dL_law_688 : decode cL_law 688 = .ok (.isub, 1) := by decide +kernel
theorem dL_law_689 : decode cL_law 689 = .ok (.ldc 74, 2) := by decide +kernel
theorem dL_law_691 : decode cL_law 691 = .ok (.invokevirtual 70, 3) := by decide +kernel
theorem dL_law_694 : decode cL_law 694 = .ok (.iload 9, 2) := by decide +kernel
theorem dL_law_696 : decode cL_law 696 = .ok (.aload_n 1, 1) := by decide +kernel
theorem dL_law_697 : decode cL_law 697 = .ok (.iconst 1, 1) := by decide +kernel
theorem dL_law_698 : decode cL_law 698 = .ok (.iload 8, 2) := by decide +kernel
theorem dL_law_700 : decode cL_law 700 = .ok (.isub, 1) := by decide +kernel
theorem dL_law_701 : decode cL_law 701 = .ok (.invokevirtual 45, 3) := by decide +kernel
theorem dL_law_704 : decode cL_law 704 = .ok (.imul, 1) := by decide +kernel
theorem dL_law_705 : decode cL_law 705 = .ok (.if_icmp .ne 32, 3) := by decide +kernel
theorem dL_law_708 : decode cL_law 708 = .ok (.aload_n 1, 1) := by decide +kernel
theorem dL_law_709 : decode cL_law 709 = .ok (.iload 8, 2) := by decide +kernel
theorem dL_law_711 : decode cL_law 711 = .ok (.iconst 1, 1) := by decide +kernel
theorem dL_law_712 : decode cL_law 712 = .ok (.iload 8, 2) := by decide +kernel
theorem dL_law_714 : decode cL_law 714 = .ok (.isub, 1) := by decide +kernel
theorem dL_law_715 : decode cL_law 715 = .ok (.sipush 900, 3) := by decide +kernel
theorem dL_law_718 : decode cL_law 718 = .ok (.invokevirtual 89, 3) := by decide +kernel
theorem dL_law_721 : decode cL_law 721 = .ok (.aload_n 1, 1) := by decide +kernel
theorem dL_law_722 : decode cL_law 722 = .ok (.iconst 1, 1) := by decide +kernel
theorem dL_law_723 : decode cL_law 723 = .ok (.iload 8, 2) := by decide +kernel
theorem dL_law_725 : decode cL_law 725 = .ok (.isub, 1) := by decide +kernel
theorem dL_law_726 : decode cL_law 726 = .ok (.iload 8, 2) := by decide +kernel
theorem dL_law_728 : decode cL_law 728 = .ok (.sipush 900, 3) := by decide +kernel
theorem dL_law_731 : decode cL_law 731 = .ok (.invokevirtual 89, 3) := by decide +kernel
theorem dL_law_734 : decode cL_law 734 = .ok (.if_icmp .eq 5, 3) := by decide +kernel
theorem dL_law_737 : decode cL_law 737 = .ok (.iconst 0, 1) := by decide +kernel
theorem dL_law_738 : decode cL_law 738 = .ok (.ireturn, 1) := by decide +kernel
theorem dL_law_739 : decode cL_law 739 = .ok (.iinc 8 1, 3) := by decide +kernel
theorem dL_law_742 : decode cL_law 742 = .ok (.goto (-506), 3) := by decide +kernel
theorem dL_law_745 : decode cL_law 745 = .ok (.iconst 0, 1) := by decide +kernel
theorem dL_law_746 : decode cL_law 746 = .ok (.istore 8, 2) := by decide +kernel
theorem dL_law_748 : decode cL_law 748 = .ok (.iconst 0, 1) := by decide +kernel
theorem dL_law_749 : decode cL_law 749 = .ok (.istore 9, 2) := by decide +kernel
theorem dL_law_751 : decode cL_law 751 = .ok (.iload 9, 2) := by decide +kernel
theorem dL_law_753 : decode cL_law 753 = .ok (.aload_n 1, 1) := by decide +kernel
theorem dL_law_754 : decode cL_law 754 = .ok (.invokevirtual 92, 3) := by decide +kernel
theorem dL_law_757 : decode cL_law 757 = .ok (.if_icmp .ge 70, 3) := by decide +kernel
theorem dL_law_760 : decode cL_law 760 = .ok (.aload_n 1, 1) := by decide +kernel
theorem dL_law_761 : decode cL_law 761 = .ok (.iload 9, 2) := by decide +kernel
theorem dL_law_763 : decode cL_law 763 = .ok (.invokestatic 96, 3) := by decide +kernel
theorem dL_law_766 : decode cL_law 766 = .ok (.ifCond .eq 6, 3) := by decide +kernel
theorem dL_law_769 : decode cL_law 769 = .ok (.goto 52, 3) := by decide +kernel
theorem dL_law_772 : decode cL_law 772 = .ok (.iload 8, 2) := by decide +kernel
theorem dL_law_774 : decode cL_law 774 = .ok (.aload_n 1, 1) := by decide +kernel
theorem dL_law_775 : decode cL_law 775 = .ok (.iload 9, 2) := by decide +kernel
theorem dL_law_777 : decode cL_law 777 = .ok (.bipush 6, 2) := by decide +kernel
theorem dL_law_779 : decode cL_law 779 = .ok (.invokevirtual 57, 3) := by decide +kernel
theorem dL_law_782 : decode cL_law 782 = .ok (.iadd, 1) := by decide +kernel
theorem dL_law_783 : decode cL_law 783 = .ok (.istore 8, 2) := by decide +kernel
theorem dL_law_785 : decode cL_law 785 = .ok (.aload_n 1, 1) := by decide +kernel
theorem dL_law_786 : decode cL_law 786 = .ok (.iload 9, 2) := by decide +kernel
theorem dL_law_788 : decode cL_law 788 = .ok (.iconst 0, 1) := by decide +kernel
theorem dL_law_789 : decode cL_law 789 = .ok (.invokevirtual 57, 3) := by decide +kernel
theorem dL_law_792 : decode cL_law 792 = .ok (.ifCond .ne 29, 3) := by decide +kernel
theorem dL_law_795 : decode cL_law 795 = .ok (.aload_n 1, 1) := by decide +kernel
theorem dL_law_796 : decode cL_law 796 = .ok (.iconst 0, 1) := by decide +kernel
theorem dL_law_797 : decode cL_law 797 = .ok (.aload_n 1, 1) := by decide +kernel
theorem dL_law_798 : decode cL_law 798 = .ok (.iload 9, 2) := by decide +kernel
theorem dL_law_800 : decode cL_law 800 = .ok (.iconst 1, 1) := by decide +kernel
theorem dL_law_801 : decode cL_law 801 = .ok (.invokevirtual 57, 3) := by decide +kernel
theorem dL_law_804 : decode cL_law 804 = .ok (.aload_n 1, 1) := by decide +kernel
theorem dL_law_805 : decode cL_law 805 = .ok (.iload 9, 2) := by decide +kernel
theorem dL_law_807 : decode cL_law 807 = .ok (.iconst 2, 1) := by decide +kernel
theorem dL_law_808 : decode cL_law 808 = .ok (.invokevirtual 57, 3) := by decide +kernel
theorem dL_law_811 : decode cL_law 811 = .ok (.iconst 3, 1) := by decide +kernel
theorem dL_law_812 : decode cL_law 812 = .ok (.invokevirtual 100, 3) := by decide +kernel
theorem dL_law_815 : decode cL_law 815 = .ok (.iconst 1, 1) := by decide +kernel
theorem dL_law_816 : decode cL_law 816 = .ok (.if_icmp .ge 5, 3) := by decide +kernel
theorem dL_law_819 : decode cL_law 819 = .ok (.iconst 0, 1) := by decide +kernel
theorem dL_law_820 : decode cL_law 820 = .ok (.ireturn, 1) := by decide +kernel
theorem dL_law_821 : decode cL_law 821 = .ok (.iinc 9 1, 3) := by decide +kernel
theorem dL_law_824 : decode cL_law 824 = .ok (.goto (-73), 3) := by decide +kernel
theorem dL_law_827 : decode cL_law 827 = .ok (.iconst 0, 1) := by decide +kernel
theorem dL_law_828 : decode cL_law 828 = .ok (.istore 9, 2) := by decide +kernel
theorem dL_law_830 : decode cL_law 830 = .ok (.iconst 0, 1) := by decide +kernel
theorem dL_law_831 : decode cL_law 831 = .ok (.istore 10, 2) := by decide +kernel
theorem dL_law_833 : decode cL_law 833 = .ok (.iload 10, 2) := by decide +kernel
theorem dL_law_835 : decode cL_law 835 = .ok (.aload_n 1, 1) := by decide +kernel
theorem dL_law_836 : decode cL_law 836 = .ok (.iconst 1, 1) := by decide +kernel
theorem dL_law_837 : decode cL_law 837 = .ok (.iconst 0, 1) := by decide +kernel
theorem dL_law_838 : decode cL_law 838 = .ok (.invokevirtual 103, 3) := by decide +kernel
theorem dL_law_841 : decode cL_law 841 = .ok (.if_icmp .ge 23, 3) := by decide +kernel
theorem dL_law_844 : decode cL_law 844 = .ok (.iload 9, 2) := by decide +kernel
theorem dL_law_846 : decode cL_law 846 = .ok (.aload_n 1, 1) := by decide +kernel
theorem dL_law_847 : decode cL_law 847 = .ok (.iconst 1, 1) := by decide +kernel
theorem dL_law_848 : decode cL_law 848 = .ok (.iconst 0, 1) := by decide +kernel
theorem dL_law_849 : decode cL_law 849 = .ok (.iload 10, 2) := by decide +kernel
theorem dL_law_851 : decode cL_law 851 = .ok (.iconst 4, 1) := by decide +kernel
theorem dL_law_852 : decode cL_law 852 = .ok (.invokevirtual 106, 3) := by decide +kernel
theorem dL_law_855 : decode cL_law 855 = .ok (.iadd, 1) := by decide +kernel
theorem dL_law_856 : decode cL_law 856 = .ok (.istore 9, 2) := by decide +kernel
theorem dL_law_858 : decode cL_law 858 = .ok (.iinc 10 1, 3) := by decide +kernel
theorem dL_law_861 : decode cL_law 861 = .ok (.goto (-28), 3) := by decide +kernel
theorem dL_law_864 : decode cL_law 864 = .ok (.iload 9, 2) := by decide +kernel
theorem dL_law_866 : decode cL_law 866 = .ok (.iload 8, 2) := by decide +kernel
theorem dL_law_868 : decode cL_law 868 = .ok (.iadd, 1) := by decide +kernel
theorem dL_law_869 : decode cL_law 869 = .ok (.aload_n 1, 1) := by decide +kernel
theorem dL_law_870 : decode cL_law 870 = .ok (.iconst 1, 1) := by decide +kernel
theorem dL_law_871 : decode cL_law 871 = .ok (.invokevirtual 45, 3) := by decide +kernel
theorem dL_law_874 : decode cL_law 874 = .ok (.if_icmp .ne 12, 3) := by decide +kernel
theorem dL_law_877 : decode cL_law 877 = .ok (.aload_n 1, 1) := by decide +kernel
theorem dL_law_878 : decode cL_law 878 = .ok (.invokevirtual 41, 3) := by decide +kernel
theorem dL_law_881 : decode cL_law 881 = .ok (.lload_n 3, 1) := by decide +kernel
theorem dL_law_882 : decode cL_law 882 = .ok (.lcmp, 1) := by decide +kernel
theorem dL_law_883 : decode cL_law 883 = .ok (.ifCond .eq 5, 3) := by decide +kernel
theorem dL_law_886 : decode cL_law 886 = .ok (.iconst 0, 1) := by decide +kernel
theorem dL_law_887 : decode cL_law 887 = .ok (.ireturn, 1) := by decide +kernel
theorem dL_law_888 : decode cL_law 888 = .ok (.aload_n 0, 1) := by decide +kernel
theorem dL_law_889 : decode cL_law 889 = .ok (.bipush 6, 2) := by decide +kernel
theorem dL_law_891 : decode cL_law 891 = .ok (.iload_n 2, 1) := by decide +kernel
theorem dL_law_892 : decode cL_law 892 = .ok (.iadd, 1) := by decide +kernel
theorem dL_law_893 : decode cL_law 893 = .ok (.invokestatic 16, 3) := by decide +kernel
theorem dL_law_896 : decode cL_law 896 = .ok (.aload_n 1, 1) := by decide +kernel
theorem dL_law_897 : decode cL_law 897 = .ok (.invokevirtual 92, 3) := by decide +kernel
theorem dL_law_900 : decode cL_law 900 = .ok (.invokestatic 22, 3) := by decide +kernel
theorem dL_law_903 : decode cL_law 903 = .ok (.istore 10, 2) := by decide +kernel
theorem dL_law_905 : decode cL_law 905 = .ok (.aload_n 1, 1) := by decide +kernel
theorem dL_law_906 : decode cL_law 906 = .ok (.iload 10, 2) := by decide +kernel
theorem dL_law_908 : decode cL_law 908 = .ok (.invokestatic 96, 3) := by decide +kernel
theorem dL_law_911 : decode cL_law 911 = .ok (.ifCond .eq 6, 3) := by decide +kernel
theorem dL_law_914 : decode cL_law 914 = .ok (.goto 94, 3) := by decide +kernel
theorem dL_law_917 : decode cL_law 917 = .ok (.aload_n 1, 1) := by decide +kernel
theorem dL_law_918 : decode cL_law 918 = .ok (.aload_n 1, 1) := by decide +kernel
theorem dL_law_919 : decode cL_law 919 = .ok (.iload 10, 2) := by decide +kernel
theorem dL_law_921 : decode cL_law 921 = .ok (.iconst 0, 1) := by decide +kernel
theorem dL_law_922 : decode cL_law 922 = .ok (.invokevirtual 57, 3) := by decide +kernel
theorem dL_law_925 : decode cL_law 925 = .ok (.invokevirtual 45, 3) := by decide +kernel
theorem dL_law_928 : decode cL_law 928 = .ok (.istore 11, 2) := by decide +kernel
theorem dL_law_930 : decode cL_law 930 = .ok (.aload_n 0, 1) := by decide +kernel
theorem dL_law_931 : decode cL_law 931 = .ok (.bipush 7, 2) := by decide +kernel
theorem dL_law_933 : decode cL_law 933 = .ok (.iload_n 2, 1) := by decide +kernel
theorem dL_law_934 : decode cL_law 934 = .ok (.iadd, 1) := by decide +kernel
theorem dL_law_935 : decode cL_law 935 = .ok (.invokestatic 16, 3) := by decide +kernel
theorem dL_law_938 : decode cL_law 938 = .ok (.iconst 3, 1) := by decide +kernel
theorem dL_law_939 : decode cL_law 939 = .ok (.invokestatic 22, 3) := by decide +kernel
theorem dL_law_942 : decode cL_law 942 = .ok (.ifCond .ne 27, 3) := by decide +kernel
theorem dL_law_945 : decode cL_law 945 = .ok (.aload_n 1, 1) := by decide +kernel
theorem dL_law_946 : decode cL_law 946 = .ok (.iload 10, 2) := by decide +kernel
theorem dL_law_948 : decode cL_law 948 = .ok (.invokevirtual 109, 3) := by decide +kernel
theorem dL_law_951 : decode cL_law 951 = .ok (.iload 11, 2) := by decide +kernel
theorem dL_law_953 : decode cL_law 953 = .ok (.iconst 1, 1) := by decide +kernel
theorem dL_law_954 : decode cL_law 954 = .ok (.isub, 1) := by decide +kernel
theorem dL_law_955 : decode cL_law 955 = .ok (.if_icmp .ne 12, 3) := by decide +kernel
theorem dL_law_958 : decode cL_law 958 = .ok (.aload_n 1, 1) := by decide +kernel
theorem dL_law_959 : decode cL_law 959 = .ok (.iload 10, 2) := by decide +kernel
theorem dL_law_961 : decode cL_law 961 = .ok (.invokestatic 96, 3) := by decide +kernel
theorem dL_law_964 : decode cL_law 964 = .ok (.ifCond .ne 44, 3) := by decide +kernel
theorem dL_law_967 : decode cL_law 967 = .ok (.iconst 0, 1) := by decide +kernel
theorem dL_law_968 : decode cL_law 968 = .ok (.ireturn, 1) := by decide +kernel
theorem dL_law_969 : decode cL_law 969 = .ok (.aload_n 1, 1) := by decide +kernel
theorem dL_law_970 : decode cL_law 970 = .ok (.iload 10, 2) := by decide +kernel
theorem dL_law_972 : decode cL_law 972 = .ok (.iload 5, 2) := by decide +kernel
theorem dL_law_974 : decode cL_law 974 = .ok (.iconst 3, 1) := by decide +kernel
theorem dL_law_975 : decode cL_law 975 = .ok (.imul, 1) := by decide +kernel
theorem dL_law_976 : decode cL_law 976 = .ok (.iconst 4, 1) := by decide +kernel
theorem dL_law_977 : decode cL_law 977 = .ok (.idiv, 1) := by decide +kernel
theorem dL_law_978 : decode cL_law 978 = .ok (.iload 6, 2) := by decide +kernel
theorem dL_law_980 : decode cL_law 980 = .ok (.iconst 3, 1) := by decide +kernel
theorem dL_law_981 : decode cL_law 981 = .ok (.imul, 1) := by decide +kernel
theorem dL_law_982 : decode cL_law 982 = .ok (.iconst 4, 1) := by decide +kernel
theorem dL_law_983 : decode cL_law 983 = .ok (.idiv, 1) := by decide +kernel
theorem dL_law_984 : decode cL_law 984 = .ok (.invokevirtual 112, 3) := by decide +kernel
theorem dL_law_987 : decode cL_law 987 = .ok (.ifCond .lt 19, 3) := by decide +kernel
theorem dL_law_990 : decode cL_law 990 = .ok (.aload_n 1, 1) := by decide +kernel
theorem dL_law_991 : decode cL_law 991 = .ok (.iload 10, 2) := by decide +kernel
theorem dL_law_993 : decode cL_law 993 = .ok (.iconst 1, 1) := by decide +kernel
theorem dL_law_994 : decode cL_law 994 = .ok (.invokevirtual 57, 3) := by decide +kernel
theorem dL_law_997 : decode cL_law 997 = .ok (.iload 5, 2) := by decide +kernel
theorem dL_law_999 : decode cL_law 999 = .ok (.iconst 3, 1) := by decide +kernel
theorem dL_law_1000 : decode cL_law 1000 = .ok (.imul, 1) := by decide +kernel
theorem dL_law_1001 : decode cL_law 1001 = .ok (.iconst 4, 1) := by decide +kernel
theorem dL_law_1002 : decode cL_law 1002 = .ok (.idiv, 1) := by decide +kernel
theorem dL_law_1003 : decode cL_law 1003 = .ok (.if_icmp .eq 5, 3) := by decide +kernel
theorem dL_law_1006 : decode cL_law 1006 = .ok (.iconst 0, 1) := by decide +kernel
theorem dL_law_1007 : decode cL_law 1007 = .ok (.ireturn, 1) := by decide +kernel
theorem dL_law_1008 : decode cL_law 1008 = .ok (.iinc 2 1, 3) := by decide +kernel
theorem dL_law_1011 : decode cL_law 1011 = .ok (.goto (-833), 3) := by decide +kernel
theorem dL_law_1014 : decode cL_law 1014 = .ok (.iconst 1, 1) := by decide +kernel
theorem dL_law_1015 : decode cL_law 1015 = .ok (.ireturn, 1) := by decide +kernel
theorem dL_isGone_0 : decode cL_isGone 0 = .ok (.aload_n 0, 1) := by decide +kernel
theorem dL_isGone_1 : decode cL_isGone 1 = .ok (.iload_n 1, 1) := by decide +kernel
theorem dL_isGone_2 : decode cL_isGone 2 = .ok (.iconst 0, 1) := by decide +kernel
theorem dL_isGone_3 : decode cL_isGone 3 = .ok (.invokevirtual 57, 3) := by decide +kernel
theorem dL_isGone_6 : decode cL_isGone 6 = .ok (.pop, 1) := by decide +kernel
theorem dL_isGone_7 : decode cL_isGone 7 = .ok (.iconst 0, 1) := by decide +kernel
theorem dL_isGone_8 : decode cL_isGone 8 = .ok (.ireturn, 1) := by decide +kernel
theorem dL_isGone_9 : decode cL_isGone 9 = .ok (.astore_n 2, 1) := by decide +kernel
theorem dL_isGone_10 : decode cL_isGone 10 = .ok (.iconst 1, 1) := by decide +kernel
theorem dL_isGone_11 : decode cL_isGone 11 = .ok (.ireturn, 1) := by decide +kernel
end
section
/-- the good words of the tables -/
def tbG : List Cond := lw_tbl.filter goodWord
/-- those that are carried one by one -/
def isNw : Cond → Bool := fun w => match w with
  | .fieldLinkNest .. => true
  | .methodLinkNest .. => true
  | .castable .. => true
  | _ => false
def tbN : List Cond := lw_tbl.filter isNw
theorem tb_mem {w : Cond} (i : Nat) (h : lw_tbl[i]? = some w) (hg : goodWord w = true) : w ∈ tbG := List.mem_filter.mpr ⟨List.mem_of_getElem? h, hg⟩
theorem tb_memN {w : Cond} (i : Nat) (h : lw_tbl[i]? = some w) (hg : isNw w = true) : w ∈ tbN := List.mem_filter.mpr ⟨List.mem_of_getElem? h, hg⟩
theorem tb_lw {w : Cond} (h : w ∈ tbG) : w ∈ lw_tbl := (List.mem_filter.mp h).1
theorem tb_lwN {w : Cond} (h : w ∈ tbN) : w ∈ lw_tbl := (List.mem_filter.mp h).1
theorem tb_good {ws : List Cond} (h : ∀ w ∈ ws, w ∈ tbG) : GoodIn tbG ws := fun w hw => ⟨h w hw, good_of_word (List.mem_filter.mp (h w hw)).2⟩
theorem wse_X5_fell : Cond.selects RX5 yX5_fell yX5_fell ∈ tbG := tb_mem 1 (by decide +kernel) (by decide +kernel)
theorem wse_X5_addNode : Cond.selects RX5 yX5_addNode yX5_addNode ∈ tbG := tb_mem 2 (by decide +kernel) (by decide +kernel)
theorem wse_X5_settle : Cond.selects RX5 yX5_settle yX5_settle ∈ tbG := tb_mem 3 (by decide +kernel) (by decide +kernel)
theorem wse_X5_halfSide : Cond.selects RX5 yX5_halfSide yX5_halfSide ∈ tbG := tb_mem 4 (by decide +kernel) (by decide +kernel)
theorem wse_X5_split : Cond.selects RX5 yX5_split yX5_split ∈ tbG := tb_mem 5 (by decide +kernel) (by decide +kernel)
theorem wse_X5_quarterOf : Cond.selects RX5 yX5_quarterOf yX5_quarterOf ∈ tbG := tb_mem 6 (by decide +kernel) (by decide +kernel)
theorem wse_X6_layerAt : Cond.selects RX6 yX6_layerAt yX6_layerAt ∈ tbG := tb_mem 7 (by decide +kernel) (by decide +kernel)
theorem wse_X6_checkRoomFor : Cond.selects RX6 yX6_checkRoomFor yX6_checkRoomFor ∈ tbG := tb_mem 8 (by decide +kernel) (by decide +kernel)
theorem wse_X6_layerOfThing : Cond.selects RX6 yX6_layerOfThing yX6_layerOfThing ∈ tbG := tb_mem 9 (by decide +kernel) (by decide +kernel)
theorem wse_X5_orderToPack : Cond.selects RX5 yX5_orderToPack yX5_orderToPack ∈ tbG := tb_mem 10 (by decide +kernel) (by decide +kernel)
theorem wse_X5_cutLeaves : Cond.selects RX5 yX5_cutLeaves yX5_cutLeaves ∈ tbG := tb_mem 11 (by decide +kernel) (by decide +kernel)
theorem wse_X5_copyBox : Cond.selects RX5 yX5_copyBox yX5_copyBox ∈ tbG := tb_mem 12 (by decide +kernel) (by decide +kernel)
theorem wse_X5_cutNodes : Cond.selects RX5 yX5_cutNodes yX5_cutNodes ∈ tbG := tb_mem 13 (by decide +kernel) (by decide +kernel)
theorem wse_X6_keyOfNearest : Cond.selects RX6 yX6_keyOfNearest yX6_keyOfNearest ∈ tbG := tb_mem 14 (by decide +kernel) (by decide +kernel)
theorem wse_X4_countNear : Cond.selects RX4 yX4_countNear yX4_countNear ∈ tbG := tb_mem 15 (by decide +kernel) (by decide +kernel)
theorem wse_X4_joinClusters : Cond.selects RX4 yX4_joinClusters yX4_joinClusters ∈ tbG := tb_mem 16 (by decide +kernel) (by decide +kernel)
theorem wse_X1_next : Cond.selects RX1 yX1_next yX1_next ∈ tbG := tb_mem 17 (by decide +kernel) (by decide +kernel)
theorem wii_L : Cond.initialized RL ∈ tbG := tb_mem 18 (by decide +kernel) (by decide +kernel)
theorem wii_X6 : Cond.initialized RX6 ∈ tbG := tb_mem 19 (by decide +kernel) (by decide +kernel)
theorem wii_X4 : Cond.initialized RX4 ∈ tbG := tb_mem 20 (by decide +kernel) (by decide +kernel)
theorem wii_X0 : Cond.initialized RX0 ∈ tbG := tb_mem 21 (by decide +kernel) (by decide +kernel)
theorem wii_X3 : Cond.initialized RX3 ∈ tbG := tb_mem 22 (by decide +kernel) (by decide +kernel)
theorem wii_J9 : Cond.initialized RJ9 ∈ tbG := tb_mem 23 (by decide +kernel) (by decide +kernel)
theorem wii_X1 : Cond.initialized RX1 ∈ tbG := tb_mem 24 (by decide +kernel) (by decide +kernel)
theorem wii_X5 : Cond.initialized RX5 ∈ tbG := tb_mem 25 (by decide +kernel) (by decide +kernel)
theorem wii_java_lang_Throwable : Cond.initialized "java/lang/Throwable" ∈ tbG := tb_mem 26 (by decide +kernel) (by decide +kernel)
theorem wii_java_lang_Exception : Cond.initialized "java/lang/Exception" ∈ tbG := tb_mem 27 (by decide +kernel) (by decide +kernel)
theorem wii_java_lang_RuntimeException : Cond.initialized "java/lang/RuntimeException" ∈ tbG := tb_mem 28 (by decide +kernel) (by decide +kernel)
theorem wii_java_lang_IllegalStateException : Cond.initialized "java/lang/IllegalStateException" ∈ tbG := tb_mem 29 (by decide +kernel) (by decide +kernel)
theorem wii_X2 : Cond.initialized RX2 ∈ tbG := tb_mem 30 (by decide +kernel) (by decide +kernel)
theorem wii_java_lang_IndexOutOfBoundsException : Cond.initialized "java/lang/IndexOutOfBoundsException" ∈ tbG := tb_mem 31 (by decide +kernel) (by decide +kernel)
theorem wii_java_lang_IllegalArgumentException : Cond.initialized "java/lang/IllegalArgumentException" ∈ tbG := tb_mem 32 (by decide +kernel) (by decide +kernel)
theorem wcl_L_9 : Cond.classLink RL 9 RX6 ∈ tbG := tb_mem 33 (by decide +kernel) (by decide +kernel)
theorem wia_X6 : Cond.instantiable RX6 5 ∈ tbG := tb_mem 34 (by decide +kernel) (by decide +kernel)
theorem wml_L_11 : Cond.methodLink RL 11 yX6_init ∈ tbG := tb_mem 35 (by decide +kernel) (by decide +kernel)
theorem win_X6_init : Cond.instanceMethod yX6_init ∈ tbG := tb_mem 36 (by decide +kernel) (by decide +kernel)
theorem wco_X6_init : Cond.code yX6_init cX6_init 1 (Option.none : Option Jvm.ClassFile.FieldType) ∈ tbG := tb_mem 37 (by decide +kernel) (by decide +kernel)
theorem wml_X6_1 : Cond.methodLink RX6 1 objectInit ∈ tbG := tb_mem 38 (by decide +kernel) (by decide +kernel)
theorem wcl_X6_7 : Cond.classLink RX6 7 RX4 ∈ tbG := tb_mem 41 (by decide +kernel) (by decide +kernel)
theorem wia_X4 : Cond.instantiable RX4 6 ∈ tbG := tb_mem 42 (by decide +kernel) (by decide +kernel)
theorem wmn_X6_9 : Cond.methodLinkNest RX6 9 yX4_init RX6 ∈ tbN := tb_memN 43 (by decide +kernel) (by decide +kernel)
theorem win_X4_init : Cond.instanceMethod yX4_init ∈ tbG := tb_mem 44 (by decide +kernel) (by decide +kernel)
theorem wco_X4_init : Cond.code yX4_init cX4_init 1 (Option.none : Option Jvm.ClassFile.FieldType) ∈ tbG := tb_mem 45 (by decide +kernel) (by decide +kernel)
theorem wml_X4_3 : Cond.methodLink RX4 3 objectInit ∈ tbG := tb_mem 46 (by decide +kernel) (by decide +kernel)
theorem wcl_X4_9 : Cond.classLink RX4 9 RX0 ∈ tbG := tb_mem 47 (by decide +kernel) (by decide +kernel)
theorem wia_X0 : Cond.instantiable RX0 4 ∈ tbG := tb_mem 48 (by decide +kernel) (by decide +kernel)
theorem wml_X4_11 : Cond.methodLink RX4 11 yX0_init ∈ tbG := tb_mem 49 (by decide +kernel) (by decide +kernel)
theorem win_X0_init : Cond.instanceMethod yX0_init ∈ tbG := tb_mem 50 (by decide +kernel) (by decide +kernel)
theorem wco_X0_init : Cond.code yX0_init cX0_init 2 (Option.none : Option Jvm.ClassFile.FieldType) ∈ tbG := tb_mem 51 (by decide +kernel) (by decide +kernel)
theorem wml_X0_1 : Cond.methodLink RX0 1 objectInit ∈ tbG := tb_mem 52 (by decide +kernel) (by decide +kernel)
theorem wcl_X0_7 : Cond.classLink RX0 7 RX3 ∈ tbG := tb_mem 53 (by decide +kernel) (by decide +kernel)
theorem wia_X3 : Cond.instantiable RX3 1 ∈ tbG := tb_mem 54 (by decide +kernel) (by decide +kernel)
theorem wml_X0_9 : Cond.methodLink RX0 9 yX3_init ∈ tbG := tb_mem 55 (by decide +kernel) (by decide +kernel)
theorem win_X3_init : Cond.instanceMethod yX3_init ∈ tbG := tb_mem 56 (by decide +kernel) (by decide +kernel)
theorem wco_X3_init : Cond.code yX3_init cX3_init 2 (Option.none : Option Jvm.ClassFile.FieldType) ∈ tbG := tb_mem 57 (by decide +kernel) (by decide +kernel)
theorem wml_X3_1 : Cond.methodLink RX3 1 objectInit ∈ tbG := tb_mem 58 (by decide +kernel) (by decide +kernel)
theorem wml_X3_7 : Cond.methodLink RX3 7 yJ9_max_7cf53 ∈ tbG := tb_mem 59 (by decide +kernel) (by decide +kernel)
theorem wst_J9_max_7cf53 : Cond.static yJ9_max_7cf53 ∈ tbG := tb_mem 60 (by decide +kernel) (by decide +kernel)
theorem wco_J9_max_7cf53 : Cond.code yJ9_max_7cf53 cJ9_max_7cf53 2 (Option.some Jvm.ClassFile.FieldType.int) ∈ tbG := tb_mem 61 (by decide +kernel) (by decide +kernel)
theorem wfl_X3_13 : Cond.fieldLink RX3 13 "CairnIndex$Row" "cells" "[I" ∈ tbG := tb_mem 62 (by decide +kernel) (by decide +kernel)
theorem war_66 : Cond.arrayClass Jvm.ClassFile.FieldType.int ∈ tbG := tb_mem 66 (by decide +kernel) (by decide +kernel)
theorem wfl_X0_12 : Cond.fieldLink RX0 12 "CairnIndex$Boxes" "xs" "LCairnIndex$Row;" ∈ tbG := tb_mem 67 (by decide +kernel) (by decide +kernel)
theorem wfn_X5_78 : Cond.fieldLinkNest RX5 78 "CairnIndex$Boxes" "xs" "LCairnIndex$Row;" RX6 ∈ tbN := tb_memN 68 (by decide +kernel) (by decide +kernel)
theorem wfn_X6_150 : Cond.fieldLinkNest RX6 150 "CairnIndex$Boxes" "xs" "LCairnIndex$Row;" RX6 ∈ tbN := tb_memN 69 (by decide +kernel) (by decide +kernel)
theorem wfl_X0_18 : Cond.fieldLink RX0 18 "CairnIndex$Boxes" "ys" "LCairnIndex$Row;" ∈ tbG := tb_mem 70 (by decide +kernel) (by decide +kernel)
theorem wfn_X5_81 : Cond.fieldLinkNest RX5 81 "CairnIndex$Boxes" "ys" "LCairnIndex$Row;" RX6 ∈ tbN := tb_memN 71 (by decide +kernel) (by decide +kernel)
theorem wfn_X6_153 : Cond.fieldLinkNest RX6 153 "CairnIndex$Boxes" "ys" "LCairnIndex$Row;" RX6 ∈ tbN := tb_memN 72 (by decide +kernel) (by decide +kernel)
theorem wfl_X0_21 : Cond.fieldLink RX0 21 "CairnIndex$Boxes" "ws" "LCairnIndex$Row;" ∈ tbG := tb_mem 73 (by decide +kernel) (by decide +kernel)
theorem wfn_X6_112 : Cond.fieldLinkNest RX6 112 "CairnIndex$Boxes" "ws" "LCairnIndex$Row;" RX6 ∈ tbN := tb_memN 74 (by decide +kernel) (by decide +kernel)
theorem wfn_X5_84 : Cond.fieldLinkNest RX5 84 "CairnIndex$Boxes" "ws" "LCairnIndex$Row;" RX6 ∈ tbN := tb_memN 75 (by decide +kernel) (by decide +kernel)
theorem wfl_X0_24 : Cond.fieldLink RX0 24 "CairnIndex$Boxes" "hs" "LCairnIndex$Row;" ∈ tbG := tb_mem 76 (by decide +kernel) (by decide +kernel)
theorem wfn_X6_122 : Cond.fieldLinkNest RX6 122 "CairnIndex$Boxes" "hs" "LCairnIndex$Row;" RX6 ∈ tbN := tb_memN 77 (by decide +kernel) (by decide +kernel)
theorem wfn_X5_158 : Cond.fieldLinkNest RX5 158 "CairnIndex$Boxes" "hs" "LCairnIndex$Row;" RX6 ∈ tbN := tb_memN 78 (by decide +kernel) (by decide +kernel)
theorem wcl_X4_20 : Cond.classLink RX4 20 RX3 ∈ tbG := tb_mem 88 (by decide +kernel) (by decide +kernel)
theorem wml_X4_22 : Cond.methodLink RX4 22 yX3_init ∈ tbG := tb_mem 89 (by decide +kernel) (by decide +kernel)
theorem wfl_X4_14 : Cond.fieldLink RX4 14 "CairnIndex$Things" "boxes" "LCairnIndex$Boxes;" ∈ tbG := tb_mem 90 (by decide +kernel) (by decide +kernel)
theorem wfn_X6_89 : Cond.fieldLinkNest RX6 89 "CairnIndex$Things" "boxes" "LCairnIndex$Boxes;" RX6 ∈ tbN := tb_memN 91 (by decide +kernel) (by decide +kernel)
theorem wfn_X5_119 : Cond.fieldLinkNest RX5 119 "CairnIndex$Things" "boxes" "LCairnIndex$Boxes;" RX6 ∈ tbN := tb_memN 92 (by decide +kernel) (by decide +kernel)
theorem wfl_X4_23 : Cond.fieldLink RX4 23 "CairnIndex$Things" "layerOf" "LCairnIndex$Row;" ∈ tbG := tb_mem 93 (by decide +kernel) (by decide +kernel)
theorem wfn_X6_132 : Cond.fieldLinkNest RX6 132 "CairnIndex$Things" "layerOf" "LCairnIndex$Row;" RX6 ∈ tbN := tb_memN 94 (by decide +kernel) (by decide +kernel)
theorem wfl_X4_27 : Cond.fieldLink RX4 27 "CairnIndex$Things" "tags" "LCairnIndex$Row;" ∈ tbG := tb_mem 95 (by decide +kernel) (by decide +kernel)
theorem wfn_X6_156 : Cond.fieldLinkNest RX6 156 "CairnIndex$Things" "tags" "LCairnIndex$Row;" RX6 ∈ tbN := tb_memN 96 (by decide +kernel) (by decide +kernel)
theorem wfl_X4_30 : Cond.fieldLink RX4 30 "CairnIndex$Things" "keys" "LCairnIndex$Row;" ∈ tbG := tb_mem 97 (by decide +kernel) (by decide +kernel)
theorem wfn_X6_330 : Cond.fieldLinkNest RX6 330 "CairnIndex$Things" "keys" "LCairnIndex$Row;" RX6 ∈ tbN := tb_memN 98 (by decide +kernel) (by decide +kernel)
theorem wfl_X4_33 : Cond.fieldLink RX4 33 "CairnIndex$Things" "clusterOf" "LCairnIndex$Row;" ∈ tbG := tb_mem 99 (by decide +kernel) (by decide +kernel)
theorem wfl_X4_36 : Cond.fieldLink RX4 36 "CairnIndex$Things" "count" "I" ∈ tbG := tb_mem 100 (by decide +kernel) (by decide +kernel)
theorem wfn_X6_106 : Cond.fieldLinkNest RX6 106 "CairnIndex$Things" "count" "I" RX6 ∈ tbN := tb_memN 101 (by decide +kernel) (by decide +kernel)
theorem wfn_X5_103 : Cond.fieldLinkNest RX5 103 "CairnIndex$Things" "count" "I" RX6 ∈ tbN := tb_memN 102 (by decide +kernel) (by decide +kernel)
theorem wcl_X6_16 : Cond.classLink RX6 16 RX2 ∈ tbG := tb_mem 116 (by decide +kernel) (by decide +kernel)
theorem wcl_X6_22 : Cond.classLink RX6 22 RX1 ∈ tbG := tb_mem 118 (by decide +kernel) (by decide +kernel)
theorem wia_X1 : Cond.instantiable RX1 3 ∈ tbG := tb_mem 119 (by decide +kernel) (by decide +kernel)
theorem wmn_X6_24 : Cond.methodLinkNest RX6 24 yX1_init RX6 ∈ tbN := tb_memN 120 (by decide +kernel) (by decide +kernel)
theorem win_X1_init : Cond.instanceMethod yX1_init ∈ tbG := tb_mem 121 (by decide +kernel) (by decide +kernel)
theorem wco_X1_init : Cond.code yX1_init cX1_init 1 (Option.none : Option Jvm.ClassFile.FieldType) ∈ tbG := tb_mem 122 (by decide +kernel) (by decide +kernel)
theorem wml_X1_3 : Cond.methodLink RX1 3 objectInit ∈ tbG := tb_mem 123 (by decide +kernel) (by decide +kernel)
theorem wcl_X1_9 : Cond.classLink RX1 9 RX3 ∈ tbG := tb_mem 124 (by decide +kernel) (by decide +kernel)
theorem wml_X1_11 : Cond.methodLink RX1 11 yX3_init ∈ tbG := tb_mem 125 (by decide +kernel) (by decide +kernel)
theorem wfl_X1_14 : Cond.fieldLink RX1 14 "CairnIndex$Fence" "xs" "LCairnIndex$Row;" ∈ tbG := tb_mem 126 (by decide +kernel) (by decide +kernel)
theorem wfl_X1_20 : Cond.fieldLink RX1 20 "CairnIndex$Fence" "ys" "LCairnIndex$Row;" ∈ tbG := tb_mem 127 (by decide +kernel) (by decide +kernel)
theorem wfl_X1_23 : Cond.fieldLink RX1 23 "CairnIndex$Fence" "corners" "I" ∈ tbG := tb_mem 128 (by decide +kernel) (by decide +kernel)
theorem wfn_X6_233 : Cond.fieldLinkNest RX6 233 "CairnIndex$Fence" "corners" "I" RX6 ∈ tbN := tb_memN 129 (by decide +kernel) (by decide +kernel)
theorem wcl_X6_29 : Cond.classLink RX6 29 RX5 ∈ tbG := tb_mem 137 (by decide +kernel) (by decide +kernel)
theorem wia_X5 : Cond.instantiable RX5 10 ∈ tbG := tb_mem 138 (by decide +kernel) (by decide +kernel)
theorem wml_X6_31 : Cond.methodLink RX6 31 yX5_init ∈ tbG := tb_mem 139 (by decide +kernel) (by decide +kernel)
theorem win_X5_init : Cond.instanceMethod yX5_init ∈ tbG := tb_mem 140 (by decide +kernel) (by decide +kernel)
theorem wco_X5_init : Cond.code yX5_init cX5_init 1 (Option.none : Option Jvm.ClassFile.FieldType) ∈ tbG := tb_mem 141 (by decide +kernel) (by decide +kernel)
theorem wml_X5_3 : Cond.methodLink RX5 3 objectInit ∈ tbG := tb_mem 142 (by decide +kernel) (by decide +kernel)
theorem wcl_X5_9 : Cond.classLink RX5 9 RX0 ∈ tbG := tb_mem 143 (by decide +kernel) (by decide +kernel)
theorem wml_X5_11 : Cond.methodLink RX5 11 yX0_init ∈ tbG := tb_mem 144 (by decide +kernel) (by decide +kernel)
theorem wcl_X5_20 : Cond.classLink RX5 20 RX3 ∈ tbG := tb_mem 145 (by decide +kernel) (by decide +kernel)
theorem wml_X5_22 : Cond.methodLink RX5 22 yX3_init ∈ tbG := tb_mem 146 (by decide +kernel) (by decide +kernel)
theorem wml_X5_45 : Cond.methodLink RX5 45 yX3_fill ∈ tbG := tb_mem 147 (by decide +kernel) (by decide +kernel)
theorem win_X3_fill : Cond.instanceMethod yX3_fill ∈ tbG := tb_mem 148 (by decide +kernel) (by decide +kernel)
theorem wse_X3_fill : Cond.selects RX3 yX3_fill yX3_fill ∈ tbG := tb_mem 149 (by decide +kernel) (by decide +kernel)
theorem wco_X3_fill : Cond.code yX3_fill cX3_fill 3 (Option.none : Option Jvm.ClassFile.FieldType) ∈ tbG := tb_mem 150 (by decide +kernel) (by decide +kernel)
theorem wfl_X5_14 : Cond.fieldLink RX5 14 "CairnIndex$Tree" "boxes" "LCairnIndex$Boxes;" ∈ tbG := tb_mem 151 (by decide +kernel) (by decide +kernel)
theorem wfn_X6_172 : Cond.fieldLinkNest RX6 172 "CairnIndex$Tree" "boxes" "LCairnIndex$Boxes;" RX6 ∈ tbN := tb_memN 152 (by decide +kernel) (by decide +kernel)
theorem wfl_X5_23 : Cond.fieldLink RX5 23 "CairnIndex$Tree" "levelOf" "LCairnIndex$Row;" ∈ tbG := tb_mem 153 (by decide +kernel) (by decide +kernel)
theorem wfn_X6_176 : Cond.fieldLinkNest RX6 176 "CairnIndex$Tree" "levelOf" "LCairnIndex$Row;" RX6 ∈ tbN := tb_memN 154 (by decide +kernel) (by decide +kernel)
theorem wfl_X5_27 : Cond.fieldLink RX5 27 "CairnIndex$Tree" "held" "LCairnIndex$Row;" ∈ tbG := tb_mem 155 (by decide +kernel) (by decide +kernel)
theorem wfn_X2_43 : Cond.fieldLinkNest RX2 43 "CairnIndex$Tree" "held" "LCairnIndex$Row;" RX6 ∈ tbN := tb_memN 156 (by decide +kernel) (by decide +kernel)
theorem wfn_X6_173 : Cond.fieldLinkNest RX6 173 "CairnIndex$Tree" "held" "LCairnIndex$Row;" RX6 ∈ tbN := tb_memN 157 (by decide +kernel) (by decide +kernel)
theorem wfl_X5_30 : Cond.fieldLink RX5 30 "CairnIndex$Tree" "belowFrom" "LCairnIndex$Row;" ∈ tbG := tb_mem 158 (by decide +kernel) (by decide +kernel)
theorem wfl_X5_33 : Cond.fieldLink RX5 33 "CairnIndex$Tree" "belowCount" "LCairnIndex$Row;" ∈ tbG := tb_mem 159 (by decide +kernel) (by decide +kernel)
theorem wfn_X6_197 : Cond.fieldLinkNest RX6 197 "CairnIndex$Tree" "belowCount" "LCairnIndex$Row;" RX6 ∈ tbN := tb_memN 160 (by decide +kernel) (by decide +kernel)
theorem wfl_X5_36 : Cond.fieldLink RX5 36 "CairnIndex$Tree" "below" "LCairnIndex$Row;" ∈ tbG := tb_mem 161 (by decide +kernel) (by decide +kernel)
theorem wfl_X5_39 : Cond.fieldLink RX5 39 "CairnIndex$Tree" "homeOf" "LCairnIndex$Row;" ∈ tbG := tb_mem 162 (by decide +kernel) (by decide +kernel)
theorem wfn_X2_33 : Cond.fieldLinkNest RX2 33 "CairnIndex$Tree" "homeOf" "LCairnIndex$Row;" RX6 ∈ tbN := tb_memN 163 (by decide +kernel) (by decide +kernel)
theorem wfl_X5_42 : Cond.fieldLink RX5 42 "CairnIndex$Tree" "keys" "LCairnIndex$Row;" ∈ tbG := tb_mem 164 (by decide +kernel) (by decide +kernel)
theorem wfl_X5_52 : Cond.fieldLink RX5 52 "CairnIndex$Tree" "nodeCount" "I" ∈ tbG := tb_mem 165 (by decide +kernel) (by decide +kernel)
theorem wfn_X6_147 : Cond.fieldLinkNest RX6 147 "CairnIndex$Tree" "nodeCount" "I" RX6 ∈ tbN := tb_memN 166 (by decide +kernel) (by decide +kernel)
theorem wfl_X5_60 : Cond.fieldLink RX5 60 "CairnIndex$Tree" "root" "I" ∈ tbG := tb_mem 167 (by decide +kernel) (by decide +kernel)
theorem wfn_X6_217 : Cond.fieldLinkNest RX6 217 "CairnIndex$Tree" "root" "I" RX6 ∈ tbN := tb_memN 168 (by decide +kernel) (by decide +kernel)
theorem wfl_X6_10 : Cond.fieldLink RX6 10 "CairnIndex" "things" "LCairnIndex$Things;" ∈ tbG := tb_mem 190 (by decide +kernel) (by decide +kernel)
theorem wfl_X6_18 : Cond.fieldLink RX6 18 "CairnIndex" "layers" "[LCairnIndex$Layer;" ∈ tbG := tb_mem 191 (by decide +kernel) (by decide +kernel)
theorem wfl_X6_25 : Cond.fieldLink RX6 25 "CairnIndex" "fence" "LCairnIndex$Fence;" ∈ tbG := tb_mem 192 (by decide +kernel) (by decide +kernel)
theorem wfl_X6_32 : Cond.fieldLink RX6 32 "CairnIndex" "planned" "LCairnIndex$Tree;" ∈ tbG := tb_mem 193 (by decide +kernel) (by decide +kernel)
theorem wfl_X6_36 : Cond.fieldLink RX6 36 "CairnIndex" "layerCount" "I" ∈ tbG := tb_mem 194 (by decide +kernel) (by decide +kernel)
theorem wml_L_12 : Cond.methodLink RL 12 yX6_addLayer ∈ tbG := tb_mem 206 (by decide +kernel) (by decide +kernel)
theorem win_X6_addLayer : Cond.instanceMethod yX6_addLayer ∈ tbG := tb_mem 207 (by decide +kernel) (by decide +kernel)
theorem wse_X6_addLayer : Cond.selects RX6 yX6_addLayer yX6_addLayer ∈ tbG := tb_mem 208 (by decide +kernel) (by decide +kernel)
theorem wco_X6_addLayer : Cond.code yX6_addLayer cX6_addLayer 3 (Option.some Jvm.ClassFile.FieldType.int) ∈ tbG := tb_mem 209 (by decide +kernel) (by decide +kernel)
theorem wcl_X6_40 : Cond.classLink RX6 40 "java/lang/IllegalStateException" ∈ tbG := tb_mem 210 (by decide +kernel) (by decide +kernel)
theorem wca_java_lang_IllegalStateException_java_lang_IllegalStateException : Cond.castable "java/lang/IllegalStateException" "java/lang/IllegalStateException" ∈ tbN := tb_memN 212 (by decide +kernel) (by decide +kernel)
theorem wml_X6_44 : Cond.methodLink RX6 44 (⟨"java/lang/IllegalStateException", "<init>", "(Ljava/lang/String;)V"⟩ : MethodName) ∈ tbG := tb_mem 252 (by decide +kernel) (by decide +kernel)
theorem war_277 : Cond.arrayClass Jvm.ClassFile.FieldType.byte ∈ tbG := tb_mem 277 (by decide +kernel) (by decide +kernel)
theorem wia_X2 : Cond.instantiable RX2 4 ∈ tbG := tb_mem 278 (by decide +kernel) (by decide +kernel)
theorem wml_X6_47 : Cond.methodLink RX6 47 yX2_init ∈ tbG := tb_mem 279 (by decide +kernel) (by decide +kernel)
theorem win_X2_init : Cond.instanceMethod yX2_init ∈ tbG := tb_mem 280 (by decide +kernel) (by decide +kernel)
theorem wco_X2_init : Cond.code yX2_init cX2_init 3 (Option.none : Option Jvm.ClassFile.FieldType) ∈ tbG := tb_mem 281 (by decide +kernel) (by decide +kernel)
theorem wml_X2_3 : Cond.methodLink RX2 3 objectInit ∈ tbG := tb_mem 282 (by decide +kernel) (by decide +kernel)
theorem wcl_X2_9 : Cond.classLink RX2 9 RX5 ∈ tbG := tb_mem 283 (by decide +kernel) (by decide +kernel)
theorem wml_X2_11 : Cond.methodLink RX2 11 yX5_init ∈ tbG := tb_mem 284 (by decide +kernel) (by decide +kernel)
theorem wfl_X2_22 : Cond.fieldLink RX2 22 "CairnIndex$Layer" "number" "I" ∈ tbG := tb_mem 285 (by decide +kernel) (by decide +kernel)
theorem wfn_X6_54 : Cond.fieldLinkNest RX6 54 "CairnIndex$Layer" "number" "I" RX6 ∈ tbN := tb_memN 286 (by decide +kernel) (by decide +kernel)
theorem wfl_X2_25 : Cond.fieldLink RX2 25 "CairnIndex$Layer" "isPoints" "Z" ∈ tbG := tb_mem 287 (by decide +kernel) (by decide +kernel)
theorem wfn_X6_252 : Cond.fieldLinkNest RX6 252 "CairnIndex$Layer" "isPoints" "Z" RX6 ∈ tbN := tb_memN 288 (by decide +kernel) (by decide +kernel)
theorem wfl_X2_12 : Cond.fieldLink RX2 12 "CairnIndex$Layer" "tree" "LCairnIndex$Tree;" ∈ tbG := tb_mem 289 (by decide +kernel) (by decide +kernel)
theorem wfn_X6_140 : Cond.fieldLinkNest RX6 140 "CairnIndex$Layer" "tree" "LCairnIndex$Tree;" RX6 ∈ tbN := tb_memN 290 (by decide +kernel) (by decide +kernel)
theorem wfl_X2_18 : Cond.fieldLink RX2 18 "CairnIndex$Layer" "size" "I" ∈ tbG := tb_mem 291 (by decide +kernel) (by decide +kernel)
theorem wfn_X6_65 : Cond.fieldLinkNest RX6 65 "CairnIndex$Layer" "size" "I" RX6 ∈ tbN := tb_memN 292 (by decide +kernel) (by decide +kernel)
theorem wml_X6_50 : Cond.methodLink RX6 50 yX2_regrow ∈ tbG := tb_mem 302 (by decide +kernel) (by decide +kernel)
theorem win_X2_regrow : Cond.instanceMethod yX2_regrow ∈ tbG := tb_mem 303 (by decide +kernel) (by decide +kernel)
theorem wse_X2_regrow : Cond.selects RX2 yX2_regrow yX2_regrow ∈ tbG := tb_mem 304 (by decide +kernel) (by decide +kernel)
theorem wco_X2_regrow : Cond.code yX2_regrow cX2_regrow 2 (Option.none : Option Jvm.ClassFile.FieldType) ∈ tbG := tb_mem 305 (by decide +kernel) (by decide +kernel)
theorem wml_X2_29 : Cond.methodLink RX2 29 yX5_growQuarters ∈ tbG := tb_mem 306 (by decide +kernel) (by decide +kernel)
theorem win_X5_growQuarters : Cond.instanceMethod yX5_growQuarters ∈ tbG := tb_mem 307 (by decide +kernel) (by decide +kernel)
theorem wse_X5_growQuarters : Cond.selects RX5 yX5_growQuarters yX5_growQuarters ∈ tbG := tb_mem 308 (by decide +kernel) (by decide +kernel)
theorem wco_X5_growQuarters : Cond.code yX5_growQuarters cX5_growQuarters 5 (Option.none : Option Jvm.ClassFile.FieldType) ∈ tbG := tb_mem 309 (by decide +kernel) (by decide +kernel)
theorem wml_X5_94 : Cond.methodLink RX5 94 yX5_fell ∈ tbG := tb_mem 310 (by decide +kernel) (by decide +kernel)
theorem win_X5_fell : Cond.instanceMethod yX5_fell ∈ tbG := tb_mem 312 (by decide +kernel) (by decide +kernel)
theorem wco_X5_fell : Cond.code yX5_fell cX5_fell 1 (Option.none : Option Jvm.ClassFile.FieldType) ∈ tbG := tb_mem 313 (by decide +kernel) (by decide +kernel)
theorem wml_X5_97 : Cond.methodLink RX5 97 yX5_addNode ∈ tbG := tb_mem 314 (by decide +kernel) (by decide +kernel)
theorem win_X5_addNode : Cond.instanceMethod yX5_addNode ∈ tbG := tb_mem 316 (by decide +kernel) (by decide +kernel)
theorem wco_X5_addNode : Cond.code yX5_addNode cX5_addNode 3 (Option.some Jvm.ClassFile.FieldType.int) ∈ tbG := tb_mem 317 (by decide +kernel) (by decide +kernel)
theorem wml_X5_87 : Cond.methodLink RX5 87 yX3_put ∈ tbG := tb_mem 318 (by decide +kernel) (by decide +kernel)
theorem win_X3_put : Cond.instanceMethod yX3_put ∈ tbG := tb_mem 319 (by decide +kernel) (by decide +kernel)
theorem wse_X3_put : Cond.selects RX3 yX3_put yX3_put ∈ tbG := tb_mem 320 (by decide +kernel) (by decide +kernel)
theorem wco_X3_put : Cond.code yX3_put cX3_put 3 (Option.none : Option Jvm.ClassFile.FieldType) ∈ tbG := tb_mem 321 (by decide +kernel) (by decide +kernel)
theorem wml_X5_100 : Cond.methodLink RX5 100 yX0_put ∈ tbG := tb_mem 322 (by decide +kernel) (by decide +kernel)
theorem win_X0_put : Cond.instanceMethod yX0_put ∈ tbG := tb_mem 323 (by decide +kernel) (by decide +kernel)
theorem wse_X0_put : Cond.selects RX0 yX0_put yX0_put ∈ tbG := tb_mem 324 (by decide +kernel) (by decide +kernel)
theorem wco_X0_put : Cond.code yX0_put cX0_put 6 (Option.none : Option Jvm.ClassFile.FieldType) ∈ tbG := tb_mem 325 (by decide +kernel) (by decide +kernel)
theorem wml_X0_27 : Cond.methodLink RX0 27 yX3_put ∈ tbG := tb_mem 326 (by decide +kernel) (by decide +kernel)
theorem wml_X5_108 : Cond.methodLink RX5 108 yX4_isIn ∈ tbG := tb_mem 327 (by decide +kernel) (by decide +kernel)
theorem win_X4_isIn : Cond.instanceMethod yX4_isIn ∈ tbG := tb_mem 328 (by decide +kernel) (by decide +kernel)
theorem wse_X4_isIn : Cond.selects RX4 yX4_isIn yX4_isIn ∈ tbG := tb_mem 329 (by decide +kernel) (by decide +kernel)
theorem wco_X4_isIn : Cond.code yX4_isIn cX4_isIn 3 (Option.some Jvm.ClassFile.FieldType.boolean) ∈ tbG := tb_mem 330 (by decide +kernel) (by decide +kernel)
theorem wml_X4_44 : Cond.methodLink RX4 44 yX3_at ∈ tbG := tb_mem 331 (by decide +kernel) (by decide +kernel)
theorem win_X3_at : Cond.instanceMethod yX3_at ∈ tbG := tb_mem 332 (by decide +kernel) (by decide +kernel)
theorem wse_X3_at : Cond.selects RX3 yX3_at yX3_at ∈ tbG := tb_mem 333 (by decide +kernel) (by decide +kernel)
theorem wco_X3_at : Cond.code yX3_at cX3_at 2 (Option.some Jvm.ClassFile.FieldType.int) ∈ tbG := tb_mem 334 (by decide +kernel) (by decide +kernel)
theorem wml_X5_112 : Cond.methodLink RX5 112 yX5_settle ∈ tbG := tb_mem 335 (by decide +kernel) (by decide +kernel)
theorem win_X5_settle : Cond.instanceMethod yX5_settle ∈ tbG := tb_mem 337 (by decide +kernel) (by decide +kernel)
theorem wco_X5_settle : Cond.code yX5_settle cX5_settle 3 (Option.none : Option Jvm.ClassFile.FieldType) ∈ tbG := tb_mem 338 (by decide +kernel) (by decide +kernel)
theorem wml_X5_91 : Cond.methodLink RX5 91 yX3_addTo ∈ tbG := tb_mem 339 (by decide +kernel) (by decide +kernel)
theorem win_X3_addTo : Cond.instanceMethod yX3_addTo ∈ tbG := tb_mem 340 (by decide +kernel) (by decide +kernel)
theorem wse_X3_addTo : Cond.selects RX3 yX3_addTo yX3_addTo ∈ tbG := tb_mem 341 (by decide +kernel) (by decide +kernel)
theorem wco_X3_addTo : Cond.code yX3_addTo cX3_addTo 3 (Option.none : Option Jvm.ClassFile.FieldType) ∈ tbG := tb_mem 342 (by decide +kernel) (by decide +kernel)
theorem wml_X5_48 : Cond.methodLink RX5 48 yX3_at ∈ tbG := tb_mem 343 (by decide +kernel) (by decide +kernel)
theorem wml_X5_75 : Cond.methodLink RX5 75 yX5_halfSide ∈ tbG := tb_mem 344 (by decide +kernel) (by decide +kernel)
theorem win_X5_halfSide : Cond.instanceMethod yX5_halfSide ∈ tbG := tb_mem 346 (by decide +kernel) (by decide +kernel)
theorem wco_X5_halfSide : Cond.code yX5_halfSide cX5_halfSide 2 (Option.some Jvm.ClassFile.FieldType.int) ∈ tbG := tb_mem 347 (by decide +kernel) (by decide +kernel)
theorem wml_X5_115 : Cond.methodLink RX5 115 yX5_split ∈ tbG := tb_mem 348 (by decide +kernel) (by decide +kernel)
theorem win_X5_split : Cond.instanceMethod yX5_split ∈ tbG := tb_mem 350 (by decide +kernel) (by decide +kernel)
theorem wco_X5_split : Cond.code yX5_split cX5_split 9 (Option.none : Option Jvm.ClassFile.FieldType) ∈ tbG := tb_mem 351 (by decide +kernel) (by decide +kernel)
theorem wml_X5_67 : Cond.methodLink RX5 67 yX5_quarterOf ∈ tbG := tb_mem 352 (by decide +kernel) (by decide +kernel)
theorem win_X5_quarterOf : Cond.instanceMethod yX5_quarterOf ∈ tbG := tb_mem 354 (by decide +kernel) (by decide +kernel)
theorem wco_X5_quarterOf : Cond.code yX5_quarterOf cX5_quarterOf 7 (Option.some Jvm.ClassFile.FieldType.int) ∈ tbG := tb_mem 355 (by decide +kernel) (by decide +kernel)
theorem wml_L_34 : Cond.methodLink RL 34 yX6_setSize ∈ tbG := tb_mem 356 (by decide +kernel) (by decide +kernel)
theorem win_X6_setSize : Cond.instanceMethod yX6_setSize ∈ tbG := tb_mem 357 (by decide +kernel) (by decide +kernel)
theorem wse_X6_setSize : Cond.selects RX6 yX6_setSize yX6_setSize ∈ tbG := tb_mem 358 (by decide +kernel) (by decide +kernel)
theorem wco_X6_setSize : Cond.code yX6_setSize cX6_setSize 5 (Option.some Jvm.ClassFile.FieldType.int) ∈ tbG := tb_mem 359 (by decide +kernel) (by decide +kernel)
theorem wml_X6_57 : Cond.methodLink RX6 57 yX6_layerAt ∈ tbG := tb_mem 360 (by decide +kernel) (by decide +kernel)
theorem win_X6_layerAt : Cond.instanceMethod yX6_layerAt ∈ tbG := tb_mem 362 (by decide +kernel) (by decide +kernel)
theorem wco_X6_layerAt : Cond.code yX6_layerAt cX6_layerAt 3 (Option.some (Jvm.ClassFile.FieldType.object "CairnIndex$Layer")) ∈ tbG := tb_mem 363 (by decide +kernel) (by decide +kernel)
theorem wcl_X6_186 : Cond.classLink RX6 186 "java/lang/IndexOutOfBoundsException" ∈ tbG := tb_mem 364 (by decide +kernel) (by decide +kernel)
theorem wca_java_lang_IndexOutOfBoundsException_java_lang_IndexOutOfBoundsException : Cond.castable "java/lang/IndexOutOfBoundsException" "java/lang/IndexOutOfBoundsException" ∈ tbN := tb_memN 366 (by decide +kernel) (by decide +kernel)
theorem wml_X6_190 : Cond.methodLink RX6 190 (⟨"java/lang/IndexOutOfBoundsException", "<init>", "(Ljava/lang/String;)V"⟩ : MethodName) ∈ tbG := tb_mem 374 (by decide +kernel) (by decide +kernel)
theorem wml_X6_61 : Cond.methodLink RX6 61 yX6_checkSize ∈ tbG := tb_mem 380 (by decide +kernel) (by decide +kernel)
theorem wst_X6_checkSize : Cond.static yX6_checkSize ∈ tbG := tb_mem 381 (by decide +kernel) (by decide +kernel)
theorem wco_X6_checkSize : Cond.code yX6_checkSize cX6_checkSize 3 (Option.none : Option Jvm.ClassFile.FieldType) ∈ tbG := tb_mem 382 (by decide +kernel) (by decide +kernel)
theorem wcl_X6_76 : Cond.classLink RX6 76 "java/lang/IllegalArgumentException" ∈ tbG := tb_mem 383 (by decide +kernel) (by decide +kernel)
theorem wca_java_lang_IllegalArgumentException_java_lang_IllegalArgumentException : Cond.castable "java/lang/IllegalArgumentException" "java/lang/IllegalArgumentException" ∈ tbN := tb_memN 385 (by decide +kernel) (by decide +kernel)
theorem wml_X6_80 : Cond.methodLink RX6 80 (⟨"java/lang/IllegalArgumentException", "<init>", "(Ljava/lang/String;)V"⟩ : MethodName) ∈ tbG := tb_mem 393 (by decide +kernel) (by decide +kernel)
theorem wml_L_26 : Cond.methodLink RL 26 yX6_addPoint ∈ tbG := tb_mem 399 (by decide +kernel) (by decide +kernel)
theorem win_X6_addPoint : Cond.instanceMethod yX6_addPoint ∈ tbG := tb_mem 400 (by decide +kernel) (by decide +kernel)
theorem wse_X6_addPoint : Cond.selects RX6 yX6_addPoint yX6_addPoint ∈ tbG := tb_mem 401 (by decide +kernel) (by decide +kernel)
theorem wco_X6_addPoint : Cond.code yX6_addPoint cX6_addPoint 7 (Option.some Jvm.ClassFile.FieldType.int) ∈ tbG := tb_mem 402 (by decide +kernel) (by decide +kernel)
theorem wml_X6_68 : Cond.methodLink RX6 68 yX6_checkIsOfPoints ∈ tbG := tb_mem 403 (by decide +kernel) (by decide +kernel)
theorem wst_X6_checkIsOfPoints : Cond.static yX6_checkIsOfPoints ∈ tbG := tb_mem 404 (by decide +kernel) (by decide +kernel)
theorem wco_X6_checkIsOfPoints : Cond.code yX6_checkIsOfPoints cX6_checkIsOfPoints 1 (Option.none : Option Jvm.ClassFile.FieldType) ∈ tbG := tb_mem 405 (by decide +kernel) (by decide +kernel)
theorem wml_X6_72 : Cond.methodLink RX6 72 yX6_checkWithinMap ∈ tbG := tb_mem 407 (by decide +kernel) (by decide +kernel)
theorem wst_X6_checkWithinMap : Cond.static yX6_checkWithinMap ∈ tbG := tb_mem 408 (by decide +kernel) (by decide +kernel)
theorem wco_X6_checkWithinMap : Cond.code yX6_checkWithinMap cX6_checkWithinMap 2 (Option.none : Option Jvm.ClassFile.FieldType) ∈ tbG := tb_mem 409 (by decide +kernel) (by decide +kernel)
theorem wml_X6_81 : Cond.methodLink RX6 81 yX6_checkRoomFor ∈ tbG := tb_mem 412 (by decide +kernel) (by decide +kernel)
theorem win_X6_checkRoomFor : Cond.instanceMethod yX6_checkRoomFor ∈ tbG := tb_mem 414 (by decide +kernel) (by decide +kernel)
theorem wco_X6_checkRoomFor : Cond.code yX6_checkRoomFor cX6_checkRoomFor 2 (Option.none : Option Jvm.ClassFile.FieldType) ∈ tbG := tb_mem 415 (by decide +kernel) (by decide +kernel)
theorem wml_X6_85 : Cond.methodLink RX6 85 yX4_add ∈ tbG := tb_mem 417 (by decide +kernel) (by decide +kernel)
theorem win_X4_add : Cond.instanceMethod yX4_add ∈ tbG := tb_mem 418 (by decide +kernel) (by decide +kernel)
theorem wse_X4_add : Cond.selects RX4 yX4_add yX4_add ∈ tbG := tb_mem 419 (by decide +kernel) (by decide +kernel)
theorem wco_X4_add : Cond.code yX4_add cX4_add 4 (Option.some Jvm.ClassFile.FieldType.int) ∈ tbG := tb_mem 420 (by decide +kernel) (by decide +kernel)
theorem wml_X4_40 : Cond.methodLink RX4 40 yX3_put ∈ tbG := tb_mem 421 (by decide +kernel) (by decide +kernel)
theorem wml_X6_93 : Cond.methodLink RX6 93 yX0_put ∈ tbG := tb_mem 422 (by decide +kernel) (by decide +kernel)
theorem wml_L_30 : Cond.methodLink RL 30 yX6_addBox ∈ tbG := tb_mem 423 (by decide +kernel) (by decide +kernel)
theorem win_X6_addBox : Cond.instanceMethod yX6_addBox ∈ tbG := tb_mem 424 (by decide +kernel) (by decide +kernel)
theorem wse_X6_addBox : Cond.selects RX6 yX6_addBox yX6_addBox ∈ tbG := tb_mem 425 (by decide +kernel) (by decide +kernel)
theorem wco_X6_addBox : Cond.code yX6_addBox cX6_addBox 8 (Option.some Jvm.ClassFile.FieldType.int) ∈ tbG := tb_mem 426 (by decide +kernel) (by decide +kernel)
theorem wml_X6_99 : Cond.methodLink RX6 99 yX6_checkIsOfBoxes ∈ tbG := tb_mem 427 (by decide +kernel) (by decide +kernel)
theorem wst_X6_checkIsOfBoxes : Cond.static yX6_checkIsOfBoxes ∈ tbG := tb_mem 428 (by decide +kernel) (by decide +kernel)
theorem wco_X6_checkIsOfBoxes : Cond.code yX6_checkIsOfBoxes cX6_checkIsOfBoxes 1 (Option.none : Option Jvm.ClassFile.FieldType) ∈ tbG := tb_mem 429 (by decide +kernel) (by decide +kernel)
theorem wml_L_112 : Cond.methodLink RL 112 yX6_move ∈ tbG := tb_mem 432 (by decide +kernel) (by decide +kernel)
theorem win_X6_move : Cond.instanceMethod yX6_move ∈ tbG := tb_mem 433 (by decide +kernel) (by decide +kernel)
theorem wse_X6_move : Cond.selects RX6 yX6_move yX6_move ∈ tbG := tb_mem 434 (by decide +kernel) (by decide +kernel)
theorem wco_X6_move : Cond.code yX6_move cX6_move 9 (Option.some Jvm.ClassFile.FieldType.int) ∈ tbG := tb_mem 435 (by decide +kernel) (by decide +kernel)
theorem wml_X6_109 : Cond.methodLink RX6 109 yX6_layerOfThing ∈ tbG := tb_mem 436 (by decide +kernel) (by decide +kernel)
theorem win_X6_layerOfThing : Cond.instanceMethod yX6_layerOfThing ∈ tbG := tb_mem 438 (by decide +kernel) (by decide +kernel)
theorem wco_X6_layerOfThing : Cond.code yX6_layerOfThing cX6_layerOfThing 2 (Option.some (Jvm.ClassFile.FieldType.object "CairnIndex$Layer")) ∈ tbG := tb_mem 439 (by decide +kernel) (by decide +kernel)
theorem wml_X6_116 : Cond.methodLink RX6 116 yX3_at ∈ tbG := tb_mem 441 (by decide +kernel) (by decide +kernel)
theorem wml_X6_125 : Cond.methodLink RX6 125 yX0_farFrom ∈ tbG := tb_mem 443 (by decide +kernel) (by decide +kernel)
theorem win_X0_farFrom : Cond.instanceMethod yX0_farFrom ∈ tbG := tb_mem 444 (by decide +kernel) (by decide +kernel)
theorem wse_X0_farFrom : Cond.selects RX0 yX0_farFrom yX0_farFrom ∈ tbG := tb_mem 445 (by decide +kernel) (by decide +kernel)
theorem wco_X0_farFrom : Cond.code yX0_farFrom cX0_farFrom 8 (Option.some Jvm.ClassFile.FieldType.int) ∈ tbG := tb_mem 446 (by decide +kernel) (by decide +kernel)
theorem wml_X0_31 : Cond.methodLink RX0 31 yX3_at ∈ tbG := tb_mem 447 (by decide +kernel) (by decide +kernel)
theorem wml_X0_35 : Cond.methodLink RX0 35 yX0_gap ∈ tbG := tb_mem 448 (by decide +kernel) (by decide +kernel)
theorem wst_X0_gap : Cond.static yX0_gap ∈ tbG := tb_mem 449 (by decide +kernel) (by decide +kernel)
theorem wco_X0_gap : Cond.code yX0_gap cX0_gap 4 (Option.some Jvm.ClassFile.FieldType.int) ∈ tbG := tb_mem 450 (by decide +kernel) (by decide +kernel)
theorem wml_X0_43 : Cond.methodLink RX0 43 yJ9_max_7cf53 ∈ tbG := tb_mem 451 (by decide +kernel) (by decide +kernel)
theorem wml_X6_129 : Cond.methodLink RX6 129 yX2_letGo ∈ tbG := tb_mem 452 (by decide +kernel) (by decide +kernel)
theorem win_X2_letGo : Cond.instanceMethod yX2_letGo ∈ tbG := tb_mem 453 (by decide +kernel) (by decide +kernel)
theorem wse_X2_letGo : Cond.selects RX2 yX2_letGo yX2_letGo ∈ tbG := tb_mem 454 (by decide +kernel) (by decide +kernel)
theorem wco_X2_letGo : Cond.code yX2_letGo cX2_letGo 3 (Option.none : Option Jvm.ClassFile.FieldType) ∈ tbG := tb_mem 455 (by decide +kernel) (by decide +kernel)
theorem wml_X2_37 : Cond.methodLink RX2 37 yX3_at ∈ tbG := tb_mem 456 (by decide +kernel) (by decide +kernel)
theorem wml_X2_46 : Cond.methodLink RX2 46 yX3_addTo ∈ tbG := tb_mem 457 (by decide +kernel) (by decide +kernel)
theorem wml_X2_50 : Cond.methodLink RX2 50 yX3_put ∈ tbG := tb_mem 458 (by decide +kernel) (by decide +kernel)
theorem wml_L_109 : Cond.methodLink RL 109 yX6_remove ∈ tbG := tb_mem 459 (by decide +kernel) (by decide +kernel)
theorem win_X6_remove : Cond.instanceMethod yX6_remove ∈ tbG := tb_mem 460 (by decide +kernel) (by decide +kernel)
theorem wse_X6_remove : Cond.selects RX6 yX6_remove yX6_remove ∈ tbG := tb_mem 461 (by decide +kernel) (by decide +kernel)
theorem wco_X6_remove : Cond.code yX6_remove cX6_remove 3 (Option.some Jvm.ClassFile.FieldType.int) ∈ tbG := tb_mem 462 (by decide +kernel) (by decide +kernel)
theorem wml_X6_135 : Cond.methodLink RX6 135 yX3_put ∈ tbG := tb_mem 463 (by decide +kernel) (by decide +kernel)
theorem wml_X6_137 : Cond.methodLink RX6 137 yX4_countIn ∈ tbG := tb_mem 464 (by decide +kernel) (by decide +kernel)
theorem win_X4_countIn : Cond.instanceMethod yX4_countIn ∈ tbG := tb_mem 465 (by decide +kernel) (by decide +kernel)
theorem wse_X4_countIn : Cond.selects RX4 yX4_countIn yX4_countIn ∈ tbG := tb_mem 466 (by decide +kernel) (by decide +kernel)
theorem wco_X4_countIn : Cond.code yX4_countIn cX4_countIn 4 (Option.some Jvm.ClassFile.FieldType.int) ∈ tbG := tb_mem 467 (by decide +kernel) (by decide +kernel)
theorem wml_X4_48 : Cond.methodLink RX4 48 yX4_isIn ∈ tbG := tb_mem 468 (by decide +kernel) (by decide +kernel)
theorem wml_L_37 : Cond.methodLink RL 37 yX6_pack ∈ tbG := tb_mem 469 (by decide +kernel) (by decide +kernel)
theorem win_X6_pack : Cond.instanceMethod yX6_pack ∈ tbG := tb_mem 470 (by decide +kernel) (by decide +kernel)
theorem wse_X6_pack : Cond.selects RX6 yX6_pack yX6_pack ∈ tbG := tb_mem 471 (by decide +kernel) (by decide +kernel)
theorem wco_X6_pack : Cond.code yX6_pack cX6_pack 3 (Option.some Jvm.ClassFile.FieldType.int) ∈ tbG := tb_mem 472 (by decide +kernel) (by decide +kernel)
theorem wml_X6_143 : Cond.methodLink RX6 143 yX5_growPacked ∈ tbG := tb_mem 473 (by decide +kernel) (by decide +kernel)
theorem win_X5_growPacked : Cond.instanceMethod yX5_growPacked ∈ tbG := tb_mem 474 (by decide +kernel) (by decide +kernel)
theorem wse_X5_growPacked : Cond.selects RX5 yX5_growPacked yX5_growPacked ∈ tbG := tb_mem 475 (by decide +kernel) (by decide +kernel)
theorem wco_X5_growPacked : Cond.code yX5_growPacked cX5_growPacked 9 (Option.none : Option Jvm.ClassFile.FieldType) ∈ tbG := tb_mem 476 (by decide +kernel) (by decide +kernel)
theorem wml_X5_120 : Cond.methodLink RX5 120 yX5_orderToPack ∈ tbG := tb_mem 477 (by decide +kernel) (by decide +kernel)
theorem win_X5_orderToPack : Cond.instanceMethod yX5_orderToPack ∈ tbG := tb_mem 479 (by decide +kernel) (by decide +kernel)
theorem wco_X5_orderToPack : Cond.code yX5_orderToPack cX5_orderToPack 6 (Option.none : Option Jvm.ClassFile.FieldType) ∈ tbG := tb_mem 480 (by decide +kernel) (by decide +kernel)
theorem wml_X5_131 : Cond.methodLink RX5 131 yX0_twiceMiddleX ∈ tbG := tb_mem 481 (by decide +kernel) (by decide +kernel)
theorem win_X0_twiceMiddleX : Cond.instanceMethod yX0_twiceMiddleX ∈ tbG := tb_mem 482 (by decide +kernel) (by decide +kernel)
theorem wse_X0_twiceMiddleX : Cond.selects RX0 yX0_twiceMiddleX yX0_twiceMiddleX ∈ tbG := tb_mem 483 (by decide +kernel) (by decide +kernel)
theorem wco_X0_twiceMiddleX : Cond.code yX0_twiceMiddleX cX0_twiceMiddleX 2 (Option.some Jvm.ClassFile.FieldType.int) ∈ tbG := tb_mem 484 (by decide +kernel) (by decide +kernel)
theorem wml_X5_134 : Cond.methodLink RX5 134 yX3_sortPart ∈ tbG := tb_mem 485 (by decide +kernel) (by decide +kernel)
theorem win_X3_sortPart : Cond.instanceMethod yX3_sortPart ∈ tbG := tb_mem 486 (by decide +kernel) (by decide +kernel)
theorem wse_X3_sortPart : Cond.selects RX3 yX3_sortPart yX3_sortPart ∈ tbG := tb_mem 487 (by decide +kernel) (by decide +kernel)
theorem wco_X3_sortPart : Cond.code yX3_sortPart cX3_sortPart 8 (Option.none : Option Jvm.ClassFile.FieldType) ∈ tbG := tb_mem 488 (by decide +kernel) (by decide +kernel)
theorem wml_X3_19 : Cond.methodLink RX3 19 yJ9_min_7cf53 ∈ tbG := tb_mem 489 (by decide +kernel) (by decide +kernel)
theorem wst_J9_min_7cf53 : Cond.static yJ9_min_7cf53 ∈ tbG := tb_mem 490 (by decide +kernel) (by decide +kernel)
theorem wco_J9_min_7cf53 : Cond.code yJ9_min_7cf53 cJ9_min_7cf53 2 (Option.some Jvm.ClassFile.FieldType.int) ∈ tbG := tb_mem 491 (by decide +kernel) (by decide +kernel)
theorem wml_X5_137 : Cond.methodLink RX5 137 yX0_twiceMiddleY ∈ tbG := tb_mem 492 (by decide +kernel) (by decide +kernel)
theorem win_X0_twiceMiddleY : Cond.instanceMethod yX0_twiceMiddleY ∈ tbG := tb_mem 493 (by decide +kernel) (by decide +kernel)
theorem wse_X0_twiceMiddleY : Cond.selects RX0 yX0_twiceMiddleY yX0_twiceMiddleY ∈ tbG := tb_mem 494 (by decide +kernel) (by decide +kernel)
theorem wco_X0_twiceMiddleY : Cond.code yX0_twiceMiddleY cX0_twiceMiddleY 2 (Option.some Jvm.ClassFile.FieldType.int) ∈ tbG := tb_mem 495 (by decide +kernel) (by decide +kernel)
theorem wml_X5_140 : Cond.methodLink RX5 140 yX5_sliceLength ∈ tbG := tb_mem 496 (by decide +kernel) (by decide +kernel)
theorem wst_X5_sliceLength : Cond.static yX5_sliceLength ∈ tbG := tb_mem 497 (by decide +kernel) (by decide +kernel)
theorem wco_X5_sliceLength : Cond.code yX5_sliceLength cX5_sliceLength 3 (Option.some Jvm.ClassFile.FieldType.int) ∈ tbG := tb_mem 498 (by decide +kernel) (by decide +kernel)
theorem wml_X5_143 : Cond.methodLink RX5 143 yJ9_max_7cf53 ∈ tbG := tb_mem 499 (by decide +kernel) (by decide +kernel)
theorem wml_X5_148 : Cond.methodLink RX5 148 yJ9_min_7cf53 ∈ tbG := tb_mem 500 (by decide +kernel) (by decide +kernel)
theorem wml_X5_124 : Cond.methodLink RX5 124 yX5_cutLeaves ∈ tbG := tb_mem 501 (by decide +kernel) (by decide +kernel)
theorem win_X5_cutLeaves : Cond.instanceMethod yX5_cutLeaves ∈ tbG := tb_mem 503 (by decide +kernel) (by decide +kernel)
theorem wco_X5_cutLeaves : Cond.code yX5_cutLeaves cX5_cutLeaves 7 (Option.none : Option Jvm.ClassFile.FieldType) ∈ tbG := tb_mem 504 (by decide +kernel) (by decide +kernel)
theorem wml_X5_151 : Cond.methodLink RX5 151 yX5_copyBox ∈ tbG := tb_mem 505 (by decide +kernel) (by decide +kernel)
theorem win_X5_copyBox : Cond.instanceMethod yX5_copyBox ∈ tbG := tb_mem 507 (by decide +kernel) (by decide +kernel)
theorem wco_X5_copyBox : Cond.code yX5_copyBox cX5_copyBox 4 (Option.none : Option Jvm.ClassFile.FieldType) ∈ tbG := tb_mem 508 (by decide +kernel) (by decide +kernel)
theorem wml_X5_155 : Cond.methodLink RX5 155 yX0_stretchOver ∈ tbG := tb_mem 509 (by decide +kernel) (by decide +kernel)
theorem win_X0_stretchOver : Cond.instanceMethod yX0_stretchOver ∈ tbG := tb_mem 510 (by decide +kernel) (by decide +kernel)
theorem wse_X0_stretchOver : Cond.selects RX0 yX0_stretchOver yX0_stretchOver ∈ tbG := tb_mem 511 (by decide +kernel) (by decide +kernel)
theorem wco_X0_stretchOver : Cond.code yX0_stretchOver cX0_stretchOver 8 (Option.none : Option Jvm.ClassFile.FieldType) ∈ tbG := tb_mem 512 (by decide +kernel) (by decide +kernel)
theorem wml_X0_49 : Cond.methodLink RX0 49 yJ9_min_7cf53 ∈ tbG := tb_mem 513 (by decide +kernel) (by decide +kernel)
theorem wml_X0_52 : Cond.methodLink RX0 52 yX0_put ∈ tbG := tb_mem 514 (by decide +kernel) (by decide +kernel)
theorem wml_X5_127 : Cond.methodLink RX5 127 yX5_cutNodes ∈ tbG := tb_mem 515 (by decide +kernel) (by decide +kernel)
theorem win_X5_cutNodes : Cond.instanceMethod yX5_cutNodes ∈ tbG := tb_mem 517 (by decide +kernel) (by decide +kernel)
theorem wco_X5_cutNodes : Cond.code yX5_cutNodes cX5_cutNodes 8 (Option.none : Option Jvm.ClassFile.FieldType) ∈ tbG := tb_mem 518 (by decide +kernel) (by decide +kernel)
theorem wml_L_92 : Cond.methodLink RL 92 yX6_things ∈ tbG := tb_mem 519 (by decide +kernel) (by decide +kernel)
theorem win_X6_things : Cond.instanceMethod yX6_things ∈ tbG := tb_mem 520 (by decide +kernel) (by decide +kernel)
theorem wse_X6_things : Cond.selects RX6 yX6_things yX6_things ∈ tbG := tb_mem 521 (by decide +kernel) (by decide +kernel)
theorem wco_X6_things : Cond.code yX6_things cX6_things 1 (Option.some Jvm.ClassFile.FieldType.int) ∈ tbG := tb_mem 522 (by decide +kernel) (by decide +kernel)
theorem wml_L_45 : Cond.methodLink RL 45 yX6_size ∈ tbG := tb_mem 523 (by decide +kernel) (by decide +kernel)
theorem win_X6_size : Cond.instanceMethod yX6_size ∈ tbG := tb_mem 524 (by decide +kernel) (by decide +kernel)
theorem wse_X6_size : Cond.selects RX6 yX6_size yX6_size ∈ tbG := tb_mem 525 (by decide +kernel) (by decide +kernel)
theorem wco_X6_size : Cond.code yX6_size cX6_size 2 (Option.some Jvm.ClassFile.FieldType.int) ∈ tbG := tb_mem 526 (by decide +kernel) (by decide +kernel)
theorem wml_L_57 : Cond.methodLink RL 57 yX6_of ∈ tbG := tb_mem 527 (by decide +kernel) (by decide +kernel)
theorem win_X6_of : Cond.instanceMethod yX6_of ∈ tbG := tb_mem 528 (by decide +kernel) (by decide +kernel)
theorem wse_X6_of : Cond.selects RX6 yX6_of yX6_of ∈ tbG := tb_mem 529 (by decide +kernel) (by decide +kernel)
theorem wco_X6_of : Cond.code yX6_of cX6_of 4 (Option.some Jvm.ClassFile.FieldType.int) ∈ tbG := tb_mem 530 (by decide +kernel) (by decide +kernel)
theorem wml_X6_159 : Cond.methodLink RX6 159 yX2_isLoose ∈ tbG := tb_mem 531 (by decide +kernel) (by decide +kernel)
theorem win_X2_isLoose : Cond.instanceMethod yX2_isLoose ∈ tbG := tb_mem 532 (by decide +kernel) (by decide +kernel)
theorem wse_X2_isLoose : Cond.selects RX2 yX2_isLoose yX2_isLoose ∈ tbG := tb_mem 533 (by decide +kernel) (by decide +kernel)
theorem wco_X2_isLoose : Cond.code yX2_isLoose cX2_isLoose 2 (Option.some Jvm.ClassFile.FieldType.boolean) ∈ tbG := tb_mem 534 (by decide +kernel) (by decide +kernel)
theorem wml_L_60 : Cond.methodLink RL 60 yX6_nodes ∈ tbG := tb_mem 536 (by decide +kernel) (by decide +kernel)
theorem win_X6_nodes : Cond.instanceMethod yX6_nodes ∈ tbG := tb_mem 537 (by decide +kernel) (by decide +kernel)
theorem wse_X6_nodes : Cond.selects RX6 yX6_nodes yX6_nodes ∈ tbG := tb_mem 538 (by decide +kernel) (by decide +kernel)
theorem wco_X6_nodes : Cond.code yX6_nodes cX6_nodes 2 (Option.some Jvm.ClassFile.FieldType.int) ∈ tbG := tb_mem 539 (by decide +kernel) (by decide +kernel)
theorem wml_L_100 : Cond.methodLink RL 100 yX6_leaf ∈ tbG := tb_mem 540 (by decide +kernel) (by decide +kernel)
theorem win_X6_leaf : Cond.instanceMethod yX6_leaf ∈ tbG := tb_mem 541 (by decide +kernel) (by decide +kernel)
theorem wse_X6_leaf : Cond.selects RX6 yX6_leaf yX6_leaf ∈ tbG := tb_mem 542 (by decide +kernel) (by decide +kernel)
theorem wco_X6_leaf : Cond.code yX6_leaf cX6_leaf 8 (Option.some Jvm.ClassFile.FieldType.int) ∈ tbG := tb_mem 543 (by decide +kernel) (by decide +kernel)
theorem wml_X6_169 : Cond.methodLink RX6 169 yX5_leafAt ∈ tbG := tb_mem 544 (by decide +kernel) (by decide +kernel)
theorem win_X5_leafAt : Cond.instanceMethod yX5_leafAt ∈ tbG := tb_mem 545 (by decide +kernel) (by decide +kernel)
theorem wse_X5_leafAt : Cond.selects RX5 yX5_leafAt yX5_leafAt ∈ tbG := tb_mem 546 (by decide +kernel) (by decide +kernel)
theorem wco_X5_leafAt : Cond.code yX5_leafAt cX5_leafAt 5 (Option.some Jvm.ClassFile.FieldType.int) ∈ tbG := tb_mem 547 (by decide +kernel) (by decide +kernel)
theorem wml_X5_63 : Cond.methodLink RX5 63 yX5_isLeaf ∈ tbG := tb_mem 548 (by decide +kernel) (by decide +kernel)
theorem win_X5_isLeaf : Cond.instanceMethod yX5_isLeaf ∈ tbG := tb_mem 549 (by decide +kernel) (by decide +kernel)
theorem wse_X5_isLeaf : Cond.selects RX5 yX5_isLeaf yX5_isLeaf ∈ tbG := tb_mem 550 (by decide +kernel) (by decide +kernel)
theorem wco_X5_isLeaf : Cond.code yX5_isLeaf cX5_isLeaf 2 (Option.some Jvm.ClassFile.FieldType.boolean) ∈ tbG := tb_mem 551 (by decide +kernel) (by decide +kernel)
theorem wml_X5_71 : Cond.methodLink RX5 71 yX5_belowAt ∈ tbG := tb_mem 552 (by decide +kernel) (by decide +kernel)
theorem win_X5_belowAt : Cond.instanceMethod yX5_belowAt ∈ tbG := tb_mem 553 (by decide +kernel) (by decide +kernel)
theorem wse_X5_belowAt : Cond.selects RX5 yX5_belowAt yX5_belowAt ∈ tbG := tb_mem 554 (by decide +kernel) (by decide +kernel)
theorem wco_X5_belowAt : Cond.code yX5_belowAt cX5_belowAt 3 (Option.some Jvm.ClassFile.FieldType.int) ∈ tbG := tb_mem 555 (by decide +kernel) (by decide +kernel)
theorem wml_L_103 : Cond.methodLink RL 103 yX6_level ∈ tbG := tb_mem 557 (by decide +kernel) (by decide +kernel)
theorem win_X6_level : Cond.instanceMethod yX6_level ∈ tbG := tb_mem 558 (by decide +kernel) (by decide +kernel)
theorem wse_X6_level : Cond.selects RX6 yX6_level yX6_level ∈ tbG := tb_mem 559 (by decide +kernel) (by decide +kernel)
theorem wco_X6_level : Cond.code yX6_level cX6_level 4 (Option.some Jvm.ClassFile.FieldType.int) ∈ tbG := tb_mem 560 (by decide +kernel) (by decide +kernel)
theorem wml_X6_183 : Cond.methodLink RX6 183 yX5_countOnLevel ∈ tbG := tb_mem 562 (by decide +kernel) (by decide +kernel)
theorem win_X5_countOnLevel : Cond.instanceMethod yX5_countOnLevel ∈ tbG := tb_mem 563 (by decide +kernel) (by decide +kernel)
theorem wse_X5_countOnLevel : Cond.selects RX5 yX5_countOnLevel yX5_countOnLevel ∈ tbG := tb_mem 564 (by decide +kernel) (by decide +kernel)
theorem wco_X5_countOnLevel : Cond.code yX5_countOnLevel cX5_countOnLevel 4 (Option.some Jvm.ClassFile.FieldType.int) ∈ tbG := tb_mem 565 (by decide +kernel) (by decide +kernel)
theorem wml_L_106 : Cond.methodLink RL 106 yX6_node ∈ tbG := tb_mem 566 (by decide +kernel) (by decide +kernel)
theorem win_X6_node : Cond.instanceMethod yX6_node ∈ tbG := tb_mem 567 (by decide +kernel) (by decide +kernel)
theorem wse_X6_node : Cond.selects RX6 yX6_node yX6_node ∈ tbG := tb_mem 568 (by decide +kernel) (by decide +kernel)
theorem wco_X6_node : Cond.code yX6_node cX6_node 8 (Option.some Jvm.ClassFile.FieldType.int) ∈ tbG := tb_mem 569 (by decide +kernel) (by decide +kernel)
theorem wml_X6_191 : Cond.methodLink RX6 191 yX5_firstOnLevel ∈ tbG := tb_mem 571 (by decide +kernel) (by decide +kernel)
theorem win_X5_firstOnLevel : Cond.instanceMethod yX5_firstOnLevel ∈ tbG := tb_mem 572 (by decide +kernel) (by decide +kernel)
theorem wse_X5_firstOnLevel : Cond.selects RX5 yX5_firstOnLevel yX5_firstOnLevel ∈ tbG := tb_mem 573 (by decide +kernel) (by decide +kernel)
theorem wco_X5_firstOnLevel : Cond.code yX5_firstOnLevel cX5_firstOnLevel 3 (Option.some Jvm.ClassFile.FieldType.int) ∈ tbG := tb_mem 574 (by decide +kernel) (by decide +kernel)
theorem wml_X6_194 : Cond.methodLink RX6 194 yX5_isLeaf ∈ tbG := tb_mem 575 (by decide +kernel) (by decide +kernel)
theorem wml_L_67 : Cond.methodLink RL 67 yX6_inBox ∈ tbG := tb_mem 576 (by decide +kernel) (by decide +kernel)
theorem win_X6_inBox : Cond.instanceMethod yX6_inBox ∈ tbG := tb_mem 577 (by decide +kernel) (by decide +kernel)
theorem wse_X6_inBox : Cond.selects RX6 yX6_inBox yX6_inBox ∈ tbG := tb_mem 578 (by decide +kernel) (by decide +kernel)
theorem wco_X6_inBox : Cond.code yX6_inBox cX6_inBox 7 (Option.some Jvm.ClassFile.FieldType.int) ∈ tbG := tb_mem 579 (by decide +kernel) (by decide +kernel)
theorem wml_X6_200 : Cond.methodLink RX6 200 yX4_countMeeting ∈ tbG := tb_mem 580 (by decide +kernel) (by decide +kernel)
theorem win_X4_countMeeting : Cond.instanceMethod yX4_countMeeting ∈ tbG := tb_mem 581 (by decide +kernel) (by decide +kernel)
theorem wse_X4_countMeeting : Cond.selects RX4 yX4_countMeeting yX4_countMeeting ∈ tbG := tb_mem 582 (by decide +kernel) (by decide +kernel)
theorem wco_X4_countMeeting : Cond.code yX4_countMeeting cX4_countMeeting 8 (Option.some Jvm.ClassFile.FieldType.int) ∈ tbG := tb_mem 583 (by decide +kernel) (by decide +kernel)
theorem wml_X4_52 : Cond.methodLink RX4 52 yX0_farFrom ∈ tbG := tb_mem 584 (by decide +kernel) (by decide +kernel)
theorem wml_L_63 : Cond.methodLink RL 63 yX6_visited ∈ tbG := tb_mem 585 (by decide +kernel) (by decide +kernel)
theorem win_X6_visited : Cond.instanceMethod yX6_visited ∈ tbG := tb_mem 586 (by decide +kernel) (by decide +kernel)
theorem wse_X6_visited : Cond.selects RX6 yX6_visited yX6_visited ∈ tbG := tb_mem 587 (by decide +kernel) (by decide +kernel)
theorem wco_X6_visited : Cond.code yX6_visited cX6_visited 7 (Option.some Jvm.ClassFile.FieldType.int) ∈ tbG := tb_mem 588 (by decide +kernel) (by decide +kernel)
theorem wml_X6_203 : Cond.methodLink RX6 203 yX5_countVisited ∈ tbG := tb_mem 589 (by decide +kernel) (by decide +kernel)
theorem win_X5_countVisited : Cond.instanceMethod yX5_countVisited ∈ tbG := tb_mem 590 (by decide +kernel) (by decide +kernel)
theorem wse_X5_countVisited : Cond.selects RX5 yX5_countVisited yX5_countVisited ∈ tbG := tb_mem 591 (by decide +kernel) (by decide +kernel)
theorem wco_X5_countVisited : Cond.code yX5_countVisited cX5_countVisited 8 (Option.some Jvm.ClassFile.FieldType.int) ∈ tbG := tb_mem 592 (by decide +kernel) (by decide +kernel)
theorem wml_X5_56 : Cond.methodLink RX5 56 yX0_farFrom ∈ tbG := tb_mem 593 (by decide +kernel) (by decide +kernel)
theorem wml_L_48 : Cond.methodLink RL 48 yX6_nearest ∈ tbG := tb_mem 594 (by decide +kernel) (by decide +kernel)
theorem win_X6_nearest : Cond.instanceMethod yX6_nearest ∈ tbG := tb_mem 595 (by decide +kernel) (by decide +kernel)
theorem wse_X6_nearest : Cond.selects RX6 yX6_nearest yX6_nearest ∈ tbG := tb_mem 596 (by decide +kernel) (by decide +kernel)
theorem wco_X6_nearest : Cond.code yX6_nearest cX6_nearest 6 (Option.some Jvm.ClassFile.FieldType.int) ∈ tbG := tb_mem 597 (by decide +kernel) (by decide +kernel)
theorem wml_X6_206 : Cond.methodLink RX6 206 yX6_keyOfNearest ∈ tbG := tb_mem 598 (by decide +kernel) (by decide +kernel)
theorem win_X6_keyOfNearest : Cond.instanceMethod yX6_keyOfNearest ∈ tbG := tb_mem 600 (by decide +kernel) (by decide +kernel)
theorem wco_X6_keyOfNearest : Cond.code yX6_keyOfNearest cX6_keyOfNearest 7 (Option.some Jvm.ClassFile.FieldType.int) ∈ tbG := tb_mem 601 (by decide +kernel) (by decide +kernel)
theorem wml_X6_327 : Cond.methodLink RX6 327 yX4_sortByFar ∈ tbG := tb_mem 603 (by decide +kernel) (by decide +kernel)
theorem win_X4_sortByFar : Cond.instanceMethod yX4_sortByFar ∈ tbG := tb_mem 604 (by decide +kernel) (by decide +kernel)
theorem wse_X4_sortByFar : Cond.selects RX4 yX4_sortByFar yX4_sortByFar ∈ tbG := tb_mem 605 (by decide +kernel) (by decide +kernel)
theorem wco_X4_sortByFar : Cond.code yX4_sortByFar cX4_sortByFar 6 (Option.some Jvm.ClassFile.FieldType.int) ∈ tbG := tb_mem 606 (by decide +kernel) (by decide +kernel)
theorem wml_X4_56 : Cond.methodLink RX4 56 yX3_sortPart ∈ tbG := tb_mem 607 (by decide +kernel) (by decide +kernel)
theorem wml_L_51 : Cond.methodLink RL 51 yX6_far ∈ tbG := tb_mem 608 (by decide +kernel) (by decide +kernel)
theorem win_X6_far : Cond.instanceMethod yX6_far ∈ tbG := tb_mem 609 (by decide +kernel) (by decide +kernel)
theorem wse_X6_far : Cond.selects RX6 yX6_far yX6_far ∈ tbG := tb_mem 610 (by decide +kernel) (by decide +kernel)
theorem wco_X6_far : Cond.code yX6_far cX6_far 6 (Option.some Jvm.ClassFile.FieldType.int) ∈ tbG := tb_mem 611 (by decide +kernel) (by decide +kernel)
theorem wml_L_54 : Cond.methodLink RL 54 yX6_visitedFor ∈ tbG := tb_mem 612 (by decide +kernel) (by decide +kernel)
theorem win_X6_visitedFor : Cond.instanceMethod yX6_visitedFor ∈ tbG := tb_mem 613 (by decide +kernel) (by decide +kernel)
theorem wse_X6_visitedFor : Cond.selects RX6 yX6_visitedFor yX6_visitedFor ∈ tbG := tb_mem 614 (by decide +kernel) (by decide +kernel)
theorem wco_X6_visitedFor : Cond.code yX6_visitedFor cX6_visitedFor 7 (Option.some Jvm.ClassFile.FieldType.int) ∈ tbG := tb_mem 615 (by decide +kernel) (by decide +kernel)
theorem wml_L_70 : Cond.methodLink RL 70 yX6_pairs ∈ tbG := tb_mem 616 (by decide +kernel) (by decide +kernel)
theorem win_X6_pairs : Cond.instanceMethod yX6_pairs ∈ tbG := tb_mem 617 (by decide +kernel) (by decide +kernel)
theorem wse_X6_pairs : Cond.selects RX6 yX6_pairs yX6_pairs ∈ tbG := tb_mem 618 (by decide +kernel) (by decide +kernel)
theorem wco_X6_pairs : Cond.code yX6_pairs cX6_pairs 6 (Option.some Jvm.ClassFile.FieldType.int) ∈ tbG := tb_mem 619 (by decide +kernel) (by decide +kernel)
theorem wml_X6_210 : Cond.methodLink RX6 210 yX6_checkFar ∈ tbG := tb_mem 620 (by decide +kernel) (by decide +kernel)
theorem wst_X6_checkFar : Cond.static yX6_checkFar ∈ tbG := tb_mem 621 (by decide +kernel) (by decide +kernel)
theorem wco_X6_checkFar : Cond.code yX6_checkFar cX6_checkFar 1 (Option.none : Option Jvm.ClassFile.FieldType) ∈ tbG := tb_mem 622 (by decide +kernel) (by decide +kernel)
theorem wk_X6_320 : Cond.constant RX6 320 3000000 ∈ tbG := tb_mem 623 (by decide +kernel) (by decide +kernel)
theorem wml_X6_213 : Cond.methodLink RX6 213 yX4_countPairs ∈ tbG := tb_mem 625 (by decide +kernel) (by decide +kernel)
theorem win_X4_countPairs : Cond.instanceMethod yX4_countPairs ∈ tbG := tb_mem 626 (by decide +kernel) (by decide +kernel)
theorem wse_X4_countPairs : Cond.selects RX4 yX4_countPairs yX4_countPairs ∈ tbG := tb_mem 627 (by decide +kernel) (by decide +kernel)
theorem wco_X4_countPairs : Cond.code yX4_countPairs cX4_countPairs 7 (Option.some Jvm.ClassFile.FieldType.int) ∈ tbG := tb_mem 628 (by decide +kernel) (by decide +kernel)
theorem wml_X4_59 : Cond.methodLink RX4 59 yX4_countNear ∈ tbG := tb_mem 629 (by decide +kernel) (by decide +kernel)
theorem win_X4_countNear : Cond.instanceMethod yX4_countNear ∈ tbG := tb_mem 631 (by decide +kernel) (by decide +kernel)
theorem wco_X4_countNear : Cond.code yX4_countNear cX4_countNear 7 (Option.some Jvm.ClassFile.FieldType.int) ∈ tbG := tb_mem 632 (by decide +kernel) (by decide +kernel)
theorem wml_X4_63 : Cond.methodLink RX4 63 yX0_farBetween ∈ tbG := tb_mem 633 (by decide +kernel) (by decide +kernel)
theorem win_X0_farBetween : Cond.instanceMethod yX0_farBetween ∈ tbG := tb_mem 634 (by decide +kernel) (by decide +kernel)
theorem wse_X0_farBetween : Cond.selects RX0 yX0_farBetween yX0_farBetween ∈ tbG := tb_mem 635 (by decide +kernel) (by decide +kernel)
theorem wco_X0_farBetween : Cond.code yX0_farBetween cX0_farBetween 4 (Option.some Jvm.ClassFile.FieldType.int) ∈ tbG := tb_mem 636 (by decide +kernel) (by decide +kernel)
theorem wml_X0_39 : Cond.methodLink RX0 39 yX0_farFrom ∈ tbG := tb_mem 637 (by decide +kernel) (by decide +kernel)
theorem wml_L_89 : Cond.methodLink RL 89 yX6_visitedPairs ∈ tbG := tb_mem 638 (by decide +kernel) (by decide +kernel)
theorem win_X6_visitedPairs : Cond.instanceMethod yX6_visitedPairs ∈ tbG := tb_mem 639 (by decide +kernel) (by decide +kernel)
theorem wse_X6_visitedPairs : Cond.selects RX6 yX6_visitedPairs yX6_visitedPairs ∈ tbG := tb_mem 640 (by decide +kernel) (by decide +kernel)
theorem wco_X6_visitedPairs : Cond.code yX6_visitedPairs cX6_visitedPairs 6 (Option.some Jvm.ClassFile.FieldType.int) ∈ tbG := tb_mem 641 (by decide +kernel) (by decide +kernel)
theorem wml_X6_220 : Cond.methodLink RX6 220 yX6_countVisitedPairs ∈ tbG := tb_mem 642 (by decide +kernel) (by decide +kernel)
theorem wst_X6_countVisitedPairs : Cond.static yX6_countVisitedPairs ∈ tbG := tb_mem 643 (by decide +kernel) (by decide +kernel)
theorem wco_X6_countVisitedPairs : Cond.code yX6_countVisitedPairs cX6_countVisitedPairs 13 (Option.some Jvm.ClassFile.FieldType.int) ∈ tbG := tb_mem 644 (by decide +kernel) (by decide +kernel)
theorem wml_X6_342 : Cond.methodLink RX6 342 yX0_farBetween ∈ tbG := tb_mem 645 (by decide +kernel) (by decide +kernel)
theorem wml_X6_346 : Cond.methodLink RX6 346 yX5_belowAt ∈ tbG := tb_mem 646 (by decide +kernel) (by decide +kernel)
theorem wml_L_75 : Cond.methodLink RL 75 yX6_clusters ∈ tbG := tb_mem 647 (by decide +kernel) (by decide +kernel)
theorem win_X6_clusters : Cond.instanceMethod yX6_clusters ∈ tbG := tb_mem 648 (by decide +kernel) (by decide +kernel)
theorem wse_X6_clusters : Cond.selects RX6 yX6_clusters yX6_clusters ∈ tbG := tb_mem 649 (by decide +kernel) (by decide +kernel)
theorem wco_X6_clusters : Cond.code yX6_clusters cX6_clusters 4 (Option.some Jvm.ClassFile.FieldType.int) ∈ tbG := tb_mem 650 (by decide +kernel) (by decide +kernel)
theorem wml_X6_224 : Cond.methodLink RX6 224 yX4_gatherClusters ∈ tbG := tb_mem 651 (by decide +kernel) (by decide +kernel)
theorem win_X4_gatherClusters : Cond.instanceMethod yX4_gatherClusters ∈ tbG := tb_mem 652 (by decide +kernel) (by decide +kernel)
theorem wse_X4_gatherClusters : Cond.selects RX4 yX4_gatherClusters yX4_gatherClusters ∈ tbG := tb_mem 653 (by decide +kernel) (by decide +kernel)
theorem wco_X4_gatherClusters : Cond.code yX4_gatherClusters cX4_gatherClusters 6 (Option.none : Option Jvm.ClassFile.FieldType) ∈ tbG := tb_mem 654 (by decide +kernel) (by decide +kernel)
theorem wml_X4_67 : Cond.methodLink RX4 67 yX4_joinClusters ∈ tbG := tb_mem 655 (by decide +kernel) (by decide +kernel)
theorem win_X4_joinClusters : Cond.instanceMethod yX4_joinClusters ∈ tbG := tb_mem 657 (by decide +kernel) (by decide +kernel)
theorem wco_X4_joinClusters : Cond.code yX4_joinClusters cX4_joinClusters 6 (Option.none : Option Jvm.ClassFile.FieldType) ∈ tbG := tb_mem 658 (by decide +kernel) (by decide +kernel)
theorem wml_X4_70 : Cond.methodLink RX4 70 yJ9_min_7cf53 ∈ tbG := tb_mem 659 (by decide +kernel) (by decide +kernel)
theorem wml_X4_76 : Cond.methodLink RX4 76 yJ9_max_7cf53 ∈ tbG := tb_mem 660 (by decide +kernel) (by decide +kernel)
theorem wml_X6_227 : Cond.methodLink RX6 227 yX4_countClusters ∈ tbG := tb_mem 661 (by decide +kernel) (by decide +kernel)
theorem win_X4_countClusters : Cond.instanceMethod yX4_countClusters ∈ tbG := tb_mem 662 (by decide +kernel) (by decide +kernel)
theorem wse_X4_countClusters : Cond.selects RX4 yX4_countClusters yX4_countClusters ∈ tbG := tb_mem 663 (by decide +kernel) (by decide +kernel)
theorem wco_X4_countClusters : Cond.code yX4_countClusters cX4_countClusters 4 (Option.some Jvm.ClassFile.FieldType.int) ∈ tbG := tb_mem 664 (by decide +kernel) (by decide +kernel)
theorem wml_L_83 : Cond.methodLink RL 83 yX6_greatest ∈ tbG := tb_mem 665 (by decide +kernel) (by decide +kernel)
theorem win_X6_greatest : Cond.instanceMethod yX6_greatest ∈ tbG := tb_mem 666 (by decide +kernel) (by decide +kernel)
theorem wse_X6_greatest : Cond.selects RX6 yX6_greatest yX6_greatest ∈ tbG := tb_mem 667 (by decide +kernel) (by decide +kernel)
theorem wco_X6_greatest : Cond.code yX6_greatest cX6_greatest 4 (Option.some Jvm.ClassFile.FieldType.int) ∈ tbG := tb_mem 668 (by decide +kernel) (by decide +kernel)
theorem wml_X6_230 : Cond.methodLink RX6 230 yX4_greatestCluster ∈ tbG := tb_mem 669 (by decide +kernel) (by decide +kernel)
theorem win_X4_greatestCluster : Cond.instanceMethod yX4_greatestCluster ∈ tbG := tb_mem 670 (by decide +kernel) (by decide +kernel)
theorem wse_X4_greatestCluster : Cond.selects RX4 yX4_greatestCluster yX4_greatestCluster ∈ tbG := tb_mem 671 (by decide +kernel) (by decide +kernel)
theorem wco_X4_greatestCluster : Cond.code yX4_greatestCluster cX4_greatestCluster 6 (Option.some Jvm.ClassFile.FieldType.int) ∈ tbG := tb_mem 672 (by decide +kernel) (by decide +kernel)
theorem wml_L_86 : Cond.methodLink RL 86 yX6_nodesWith ∈ tbG := tb_mem 673 (by decide +kernel) (by decide +kernel)
theorem win_X6_nodesWith : Cond.instanceMethod yX6_nodesWith ∈ tbG := tb_mem 674 (by decide +kernel) (by decide +kernel)
theorem wse_X6_nodesWith : Cond.selects RX6 yX6_nodesWith yX6_nodesWith ∈ tbG := tb_mem 675 (by decide +kernel) (by decide +kernel)
theorem wco_X6_nodesWith : Cond.code yX6_nodesWith cX6_nodesWith 4 (Option.some Jvm.ClassFile.FieldType.int) ∈ tbG := tb_mem 676 (by decide +kernel) (by decide +kernel)
theorem wml_X6_256 : Cond.methodLink RX6 256 yX5_growQuarters ∈ tbG := tb_mem 677 (by decide +kernel) (by decide +kernel)
theorem wml_L_41 : Cond.methodLink RL 41 yX6_digest ∈ tbG := tb_mem 678 (by decide +kernel) (by decide +kernel)
theorem win_X6_digest : Cond.instanceMethod yX6_digest ∈ tbG := tb_mem 679 (by decide +kernel) (by decide +kernel)
theorem wse_X6_digest : Cond.selects RX6 yX6_digest yX6_digest ∈ tbG := tb_mem 680 (by decide +kernel) (by decide +kernel)
theorem wco_X6_digest : Cond.code yX6_digest cX6_digest 5 (Option.some Jvm.ClassFile.FieldType.long) ∈ tbG := tb_mem 681 (by decide +kernel) (by decide +kernel)
theorem wk_X6_259 : Cond.constantLong RX6 259 1800139 ∈ tbG := tb_mem 682 (by decide +kernel) (by decide +kernel)
theorem wml_X6_261 : Cond.methodLink RX6 261 yX6_things ∈ tbG := tb_mem 683 (by decide +kernel) (by decide +kernel)
theorem wk_X6_263 : Cond.constantLong RX6 263 31 ∈ tbG := tb_mem 684 (by decide +kernel) (by decide +kernel)
theorem wml_X6_265 : Cond.methodLink RX6 265 yX6_of ∈ tbG := tb_mem 685 (by decide +kernel) (by decide +kernel)
theorem wml_X6_268 : Cond.methodLink RX6 268 yX6_size ∈ tbG := tb_mem 686 (by decide +kernel) (by decide +kernel)
theorem wml_X6_270 : Cond.methodLink RX6 270 yX6_nodes ∈ tbG := tb_mem 687 (by decide +kernel) (by decide +kernel)
theorem wml_X6_273 : Cond.methodLink RX6 273 yX6_depth ∈ tbG := tb_mem 688 (by decide +kernel) (by decide +kernel)
theorem win_X6_depth : Cond.instanceMethod yX6_depth ∈ tbG := tb_mem 689 (by decide +kernel) (by decide +kernel)
theorem wse_X6_depth : Cond.selects RX6 yX6_depth yX6_depth ∈ tbG := tb_mem 690 (by decide +kernel) (by decide +kernel)
theorem wco_X6_depth : Cond.code yX6_depth cX6_depth 2 (Option.some Jvm.ClassFile.FieldType.int) ∈ tbG := tb_mem 691 (by decide +kernel) (by decide +kernel)
theorem wml_X6_165 : Cond.methodLink RX6 165 yX5_countLevels ∈ tbG := tb_mem 692 (by decide +kernel) (by decide +kernel)
theorem win_X5_countLevels : Cond.instanceMethod yX5_countLevels ∈ tbG := tb_mem 693 (by decide +kernel) (by decide +kernel)
theorem wse_X5_countLevels : Cond.selects RX5 yX5_countLevels yX5_countLevels ∈ tbG := tb_mem 694 (by decide +kernel) (by decide +kernel)
theorem wco_X5_countLevels : Cond.code yX5_countLevels cX5_countLevels 1 (Option.some Jvm.ClassFile.FieldType.int) ∈ tbG := tb_mem 695 (by decide +kernel) (by decide +kernel)
theorem wml_X6_276 : Cond.methodLink RX6 276 yX6_inBox ∈ tbG := tb_mem 696 (by decide +kernel) (by decide +kernel)
theorem wml_X6_279 : Cond.methodLink RX6 279 yX6_visited ∈ tbG := tb_mem 697 (by decide +kernel) (by decide +kernel)
theorem wml_X6_282 : Cond.methodLink RX6 282 yX6_nearest ∈ tbG := tb_mem 698 (by decide +kernel) (by decide +kernel)
theorem wml_X6_285 : Cond.methodLink RX6 285 yX6_far ∈ tbG := tb_mem 699 (by decide +kernel) (by decide +kernel)
theorem wml_X6_288 : Cond.methodLink RX6 288 yX6_visitedFor ∈ tbG := tb_mem 700 (by decide +kernel) (by decide +kernel)
theorem wml_X6_291 : Cond.methodLink RX6 291 yX6_clusters ∈ tbG := tb_mem 701 (by decide +kernel) (by decide +kernel)
theorem wml_X6_294 : Cond.methodLink RX6 294 yX6_greatest ∈ tbG := tb_mem 702 (by decide +kernel) (by decide +kernel)
theorem wml_X6_297 : Cond.methodLink RX6 297 yX6_nodesWith ∈ tbG := tb_mem 703 (by decide +kernel) (by decide +kernel)
theorem wml_X6_300 : Cond.methodLink RX6 300 yX6_visitedPairs ∈ tbG := tb_mem 704 (by decide +kernel) (by decide +kernel)
theorem wml_X6_303 : Cond.methodLink RX6 303 yX6_area ∈ tbG := tb_mem 705 (by decide +kernel) (by decide +kernel)
theorem win_X6_area : Cond.instanceMethod yX6_area ∈ tbG := tb_mem 706 (by decide +kernel) (by decide +kernel)
theorem wse_X6_area : Cond.selects RX6 yX6_area yX6_area ∈ tbG := tb_mem 707 (by decide +kernel) (by decide +kernel)
theorem wco_X6_area : Cond.code yX6_area cX6_area 1 (Option.some Jvm.ClassFile.FieldType.int) ∈ tbG := tb_mem 708 (by decide +kernel) (by decide +kernel)
theorem wml_X6_249 : Cond.methodLink RX6 249 yX1_twiceItsArea ∈ tbG := tb_mem 709 (by decide +kernel) (by decide +kernel)
theorem win_X1_twiceItsArea : Cond.instanceMethod yX1_twiceItsArea ∈ tbG := tb_mem 710 (by decide +kernel) (by decide +kernel)
theorem wse_X1_twiceItsArea : Cond.selects RX1 yX1_twiceItsArea yX1_twiceItsArea ∈ tbG := tb_mem 711 (by decide +kernel) (by decide +kernel)
theorem wco_X1_twiceItsArea : Cond.code yX1_twiceItsArea cX1_twiceItsArea 4 (Option.some Jvm.ClassFile.FieldType.int) ∈ tbG := tb_mem 712 (by decide +kernel) (by decide +kernel)
theorem wml_X1_31 : Cond.methodLink RX1 31 yX1_next ∈ tbG := tb_mem 713 (by decide +kernel) (by decide +kernel)
theorem win_X1_next : Cond.instanceMethod yX1_next ∈ tbG := tb_mem 715 (by decide +kernel) (by decide +kernel)
theorem wco_X1_next : Cond.code yX1_next cX1_next 2 (Option.some Jvm.ClassFile.FieldType.int) ∈ tbG := tb_mem 716 (by decide +kernel) (by decide +kernel)
theorem wml_X1_35 : Cond.methodLink RX1 35 yX3_at ∈ tbG := tb_mem 717 (by decide +kernel) (by decide +kernel)
theorem wml_X1_38 : Cond.methodLink RX1 38 yJ9_abs_0f7a4 ∈ tbG := tb_mem 718 (by decide +kernel) (by decide +kernel)
theorem wst_J9_abs_0f7a4 : Cond.static yJ9_abs_0f7a4 ∈ tbG := tb_mem 719 (by decide +kernel) (by decide +kernel)
theorem wco_J9_abs_0f7a4 : Cond.code yJ9_abs_0f7a4 cJ9_abs_0f7a4 1 (Option.some Jvm.ClassFile.FieldType.int) ∈ tbG := tb_mem 720 (by decide +kernel) (by decide +kernel)
theorem wml_L_22 : Cond.methodLink RL 22 yL_below ∈ tbG := tb_mem 721 (by decide +kernel) (by decide +kernel)
theorem wst_L_below : Cond.static yL_below ∈ tbG := tb_mem 722 (by decide +kernel) (by decide +kernel)
theorem wco_L_below : Cond.code yL_below cL_below 2 (Option.some Jvm.ClassFile.FieldType.int) ∈ tbG := tb_mem 723 (by decide +kernel) (by decide +kernel)
theorem wk_L_7 : Cond.constant RL 7 2147483647 ∈ tbG := tb_mem 724 (by decide +kernel) (by decide +kernel)
theorem wml_L_16 : Cond.methodLink RL 16 yL_cell ∈ tbG := tb_mem 725 (by decide +kernel) (by decide +kernel)
theorem wst_L_cell : Cond.static yL_cell ∈ tbG := tb_mem 726 (by decide +kernel) (by decide +kernel)
theorem wco_L_cell : Cond.code yL_cell cL_cell 2 (Option.some Jvm.ClassFile.FieldType.int) ∈ tbG := tb_mem 727 (by decide +kernel) (by decide +kernel)
theorem wk_L_8 : Cond.constant RL 8 790386105 ∈ tbG := tb_mem 728 (by decide +kernel) (by decide +kernel)
theorem wml_L_96 : Cond.methodLink RL 96 yL_isGone ∈ tbG := tb_mem 729 (by decide +kernel) (by decide +kernel)
theorem wst_L_isGone : Cond.static yL_isGone ∈ tbG := tb_mem 730 (by decide +kernel) (by decide +kernel)
theorem wco_L_isGone : Cond.codeWith yL_isGone cL_isGone 3 (Option.some Jvm.ClassFile.FieldType.boolean) [((0 : Nat), (8 : Nat), (9 : Nat), (115 : Nat))] ∈ tbG := tb_mem 731 (by decide +kernel) (by decide +kernel)
theorem wcl_L_115 : Cond.classLink RL 115 "java/lang/IndexOutOfBoundsException" ∈ tbG := tb_mem 732 (by decide +kernel) (by decide +kernel)
theorem wml_L_78 : Cond.methodLink RL 78 yJ9_min_7cf53 ∈ tbG := tb_mem 733 (by decide +kernel) (by decide +kernel)
theorem wk_L_74 : Cond.constant RL 74 3000000 ∈ tbG := tb_mem 734 (by decide +kernel) (by decide +kernel)
abbrev MX6_init : MethodName × ByteArray × Nat × Option FieldType := (yX6_init, cX6_init, 1, (Option.none : Option Jvm.ClassFile.FieldType))
abbrev MX4_init : MethodName × ByteArray × Nat × Option FieldType := (yX4_init, cX4_init, 1, (Option.none : Option Jvm.ClassFile.FieldType))
abbrev MX0_init : MethodName × ByteArray × Nat × Option FieldType := (yX0_init, cX0_init, 2, (Option.none : Option Jvm.ClassFile.FieldType))
abbrev MX3_init : MethodName × ByteArray × Nat × Option FieldType := (yX3_init, cX3_init, 2, (Option.none : Option Jvm.ClassFile.FieldType))
abbrev MJ9_max_7cf53 : MethodName × ByteArray × Nat × Option FieldType := (yJ9_max_7cf53, cJ9_max_7cf53, 2, (Option.some Jvm.ClassFile.FieldType.int))
abbrev MX1_init : MethodName × ByteArray × Nat × Option FieldType := (yX1_init, cX1_init, 1, (Option.none : Option Jvm.ClassFile.FieldType))
abbrev MX5_init : MethodName × ByteArray × Nat × Option FieldType := (yX5_init, cX5_init, 1, (Option.none : Option Jvm.ClassFile.FieldType))
abbrev MX3_fill : MethodName × ByteArray × Nat × Option FieldType := (yX3_fill, cX3_fill, 3, (Option.none : Option Jvm.ClassFile.FieldType))
abbrev MX6_addLayer : MethodName × ByteArray × Nat × Option FieldType := (yX6_addLayer, cX6_addLayer, 3, (Option.some Jvm.ClassFile.FieldType.int))
abbrev MX2_init : MethodName × ByteArray × Nat × Option FieldType := (yX2_init, cX2_init, 3, (Option.none : Option Jvm.ClassFile.FieldType))
abbrev MX2_regrow : MethodName × ByteArray × Nat × Option FieldType := (yX2_regrow, cX2_regrow, 2, (Option.none : Option Jvm.ClassFile.FieldType))
abbrev MX5_growQuarters : MethodName × ByteArray × Nat × Option FieldType := (yX5_growQuarters, cX5_growQuarters, 5, (Option.none : Option Jvm.ClassFile.FieldType))
abbrev MX5_fell : MethodName × ByteArray × Nat × Option FieldType := (yX5_fell, cX5_fell, 1, (Option.none : Option Jvm.ClassFile.FieldType))
abbrev MX5_addNode : MethodName × ByteArray × Nat × Option FieldType := (yX5_addNode, cX5_addNode, 3, (Option.some Jvm.ClassFile.FieldType.int))
abbrev MX3_put : MethodName × ByteArray × Nat × Option FieldType := (yX3_put, cX3_put, 3, (Option.none : Option Jvm.ClassFile.FieldType))
abbrev MX0_put : MethodName × ByteArray × Nat × Option FieldType := (yX0_put, cX0_put, 6, (Option.none : Option Jvm.ClassFile.FieldType))
abbrev MX4_isIn : MethodName × ByteArray × Nat × Option FieldType := (yX4_isIn, cX4_isIn, 3, (Option.some Jvm.ClassFile.FieldType.boolean))
abbrev MX3_at : MethodName × ByteArray × Nat × Option FieldType := (yX3_at, cX3_at, 2, (Option.some Jvm.ClassFile.FieldType.int))
abbrev MX5_settle : MethodName × ByteArray × Nat × Option FieldType := (yX5_settle, cX5_settle, 3, (Option.none : Option Jvm.ClassFile.FieldType))
abbrev MX3_addTo : MethodName × ByteArray × Nat × Option FieldType := (yX3_addTo, cX3_addTo, 3, (Option.none : Option Jvm.ClassFile.FieldType))
abbrev MX5_halfSide : MethodName × ByteArray × Nat × Option FieldType := (yX5_halfSide, cX5_halfSide, 2, (Option.some Jvm.ClassFile.FieldType.int))
abbrev MX5_split : MethodName × ByteArray × Nat × Option FieldType := (yX5_split, cX5_split, 9, (Option.none : Option Jvm.ClassFile.FieldType))
abbrev MX5_quarterOf : MethodName × ByteArray × Nat × Option FieldType := (yX5_quarterOf, cX5_quarterOf, 7, (Option.some Jvm.ClassFile.FieldType.int))
abbrev MX6_setSize : MethodName × ByteArray × Nat × Option FieldType := (yX6_setSize, cX6_setSize, 5, (Option.some Jvm.ClassFile.FieldType.int))
abbrev MX6_layerAt : MethodName × ByteArray × Nat × Option FieldType := (yX6_layerAt, cX6_layerAt, 3, (Option.some (Jvm.ClassFile.FieldType.object "CairnIndex$Layer")))
abbrev MX6_checkSize : MethodName × ByteArray × Nat × Option FieldType := (yX6_checkSize, cX6_checkSize, 3, (Option.none : Option Jvm.ClassFile.FieldType))
abbrev MX6_addPoint : MethodName × ByteArray × Nat × Option FieldType := (yX6_addPoint, cX6_addPoint, 7, (Option.some Jvm.ClassFile.FieldType.int))
abbrev MX6_checkIsOfPoints : MethodName × ByteArray × Nat × Option FieldType := (yX6_checkIsOfPoints, cX6_checkIsOfPoints, 1, (Option.none : Option Jvm.ClassFile.FieldType))
abbrev MX6_checkWithinMap : MethodName × ByteArray × Nat × Option FieldType := (yX6_checkWithinMap, cX6_checkWithinMap, 2, (Option.none : Option Jvm.ClassFile.FieldType))
abbrev MX6_checkRoomFor : MethodName × ByteArray × Nat × Option FieldType := (yX6_checkRoomFor, cX6_checkRoomFor, 2, (Option.none : Option Jvm.ClassFile.FieldType))
abbrev MX4_add : MethodName × ByteArray × Nat × Option FieldType := (yX4_add, cX4_add, 4, (Option.some Jvm.ClassFile.FieldType.int))
abbrev MX6_addBox : MethodName × ByteArray × Nat × Option FieldType := (yX6_addBox, cX6_addBox, 8, (Option.some Jvm.ClassFile.FieldType.int))
abbrev MX6_checkIsOfBoxes : MethodName × ByteArray × Nat × Option FieldType := (yX6_checkIsOfBoxes, cX6_checkIsOfBoxes, 1, (Option.none : Option Jvm.ClassFile.FieldType))
abbrev MX6_move : MethodName × ByteArray × Nat × Option FieldType := (yX6_move, cX6_move, 9, (Option.some Jvm.ClassFile.FieldType.int))
abbrev MX6_layerOfThing : MethodName × ByteArray × Nat × Option FieldType := (yX6_layerOfThing, cX6_layerOfThing, 2, (Option.some (Jvm.ClassFile.FieldType.object "CairnIndex$Layer")))
abbrev MX0_farFrom : MethodName × ByteArray × Nat × Option FieldType := (yX0_farFrom, cX0_farFrom, 8, (Option.some Jvm.ClassFile.FieldType.int))
abbrev MX0_gap : MethodName × ByteArray × Nat × Option FieldType := (yX0_gap, cX0_gap, 4, (Option.some Jvm.ClassFile.FieldType.int))
abbrev MX2_letGo : MethodName × ByteArray × Nat × Option FieldType := (yX2_letGo, cX2_letGo, 3, (Option.none : Option Jvm.ClassFile.FieldType))
abbrev MX6_remove : MethodName × ByteArray × Nat × Option FieldType := (yX6_remove, cX6_remove, 3, (Option.some Jvm.ClassFile.FieldType.int))
abbrev MX4_countIn : MethodName × ByteArray × Nat × Option FieldType := (yX4_countIn, cX4_countIn, 4, (Option.some Jvm.ClassFile.FieldType.int))
abbrev MX6_pack : MethodName × ByteArray × Nat × Option FieldType := (yX6_pack, cX6_pack, 3, (Option.some Jvm.ClassFile.FieldType.int))
abbrev MX5_growPacked : MethodName × ByteArray × Nat × Option FieldType := (yX5_growPacked, cX5_growPacked, 9, (Option.none : Option Jvm.ClassFile.FieldType))
abbrev MX5_orderToPack : MethodName × ByteArray × Nat × Option FieldType := (yX5_orderToPack, cX5_orderToPack, 6, (Option.none : Option Jvm.ClassFile.FieldType))
abbrev MX0_twiceMiddleX : MethodName × ByteArray × Nat × Option FieldType := (yX0_twiceMiddleX, cX0_twiceMiddleX, 2, (Option.some Jvm.ClassFile.FieldType.int))
abbrev MX3_sortPart : MethodName × ByteArray × Nat × Option FieldType := (yX3_sortPart, cX3_sortPart, 8, (Option.none : Option Jvm.ClassFile.FieldType))
abbrev MJ9_min_7cf53 : MethodName × ByteArray × Nat × Option FieldType := (yJ9_min_7cf53, cJ9_min_7cf53, 2, (Option.some Jvm.ClassFile.FieldType.int))
abbrev MX0_twiceMiddleY : MethodName × ByteArray × Nat × Option FieldType := (yX0_twiceMiddleY, cX0_twiceMiddleY, 2, (Option.some Jvm.ClassFile.FieldType.int))
abbrev MX5_sliceLength : MethodName × ByteArray × Nat × Option FieldType := (yX5_sliceLength, cX5_sliceLength, 3, (Option.some Jvm.ClassFile.FieldType.int))
abbrev MX5_cutLeaves : MethodName × ByteArray × Nat × Option FieldType := (yX5_cutLeaves, cX5_cutLeaves, 7, (Option.none : Option Jvm.ClassFile.FieldType))
abbrev MX5_copyBox : MethodName × ByteArray × Nat × Option FieldType := (yX5_copyBox, cX5_copyBox, 4, (Option.none : Option Jvm.ClassFile.FieldType))
abbrev MX0_stretchOver : MethodName × ByteArray × Nat × Option FieldType := (yX0_stretchOver, cX0_stretchOver, 8, (Option.none : Option Jvm.ClassFile.FieldType))
abbrev MX5_cutNodes : MethodName × ByteArray × Nat × Option FieldType := (yX5_cutNodes, cX5_cutNodes, 8, (Option.none : Option Jvm.ClassFile.FieldType))
abbrev MX6_things : MethodName × ByteArray × Nat × Option FieldType := (yX6_things, cX6_things, 1, (Option.some Jvm.ClassFile.FieldType.int))
abbrev MX6_size : MethodName × ByteArray × Nat × Option FieldType := (yX6_size, cX6_size, 2, (Option.some Jvm.ClassFile.FieldType.int))
abbrev MX6_of : MethodName × ByteArray × Nat × Option FieldType := (yX6_of, cX6_of, 4, (Option.some Jvm.ClassFile.FieldType.int))
abbrev MX2_isLoose : MethodName × ByteArray × Nat × Option FieldType := (yX2_isLoose, cX2_isLoose, 2, (Option.some Jvm.ClassFile.FieldType.boolean))
abbrev MX6_nodes : MethodName × ByteArray × Nat × Option FieldType := (yX6_nodes, cX6_nodes, 2, (Option.some Jvm.ClassFile.FieldType.int))
abbrev MX6_leaf : MethodName × ByteArray × Nat × Option FieldType := (yX6_leaf, cX6_leaf, 8, (Option.some Jvm.ClassFile.FieldType.int))
abbrev MX5_leafAt : MethodName × ByteArray × Nat × Option FieldType := (yX5_leafAt, cX5_leafAt, 5, (Option.some Jvm.ClassFile.FieldType.int))
abbrev MX5_isLeaf : MethodName × ByteArray × Nat × Option FieldType := (yX5_isLeaf, cX5_isLeaf, 2, (Option.some Jvm.ClassFile.FieldType.boolean))
abbrev MX5_belowAt : MethodName × ByteArray × Nat × Option FieldType := (yX5_belowAt, cX5_belowAt, 3, (Option.some Jvm.ClassFile.FieldType.int))
abbrev MX6_level : MethodName × ByteArray × Nat × Option FieldType := (yX6_level, cX6_level, 4, (Option.some Jvm.ClassFile.FieldType.int))
abbrev MX5_countOnLevel : MethodName × ByteArray × Nat × Option FieldType := (yX5_countOnLevel, cX5_countOnLevel, 4, (Option.some Jvm.ClassFile.FieldType.int))
abbrev MX6_node : MethodName × ByteArray × Nat × Option FieldType := (yX6_node, cX6_node, 8, (Option.some Jvm.ClassFile.FieldType.int))
abbrev MX5_firstOnLevel : MethodName × ByteArray × Nat × Option FieldType := (yX5_firstOnLevel, cX5_firstOnLevel, 3, (Option.some Jvm.ClassFile.FieldType.int))
abbrev MX6_inBox : MethodName × ByteArray × Nat × Option FieldType := (yX6_inBox, cX6_inBox, 7, (Option.some Jvm.ClassFile.FieldType.int))
abbrev MX4_countMeeting : MethodName × ByteArray × Nat × Option FieldType := (yX4_countMeeting, cX4_countMeeting, 8, (Option.some Jvm.ClassFile.FieldType.int))
abbrev MX6_visited : MethodName × ByteArray × Nat × Option FieldType := (yX6_visited, cX6_visited, 7, (Option.some Jvm.ClassFile.FieldType.int))
abbrev MX5_countVisited : MethodName × ByteArray × Nat × Option FieldType := (yX5_countVisited, cX5_countVisited, 8, (Option.some Jvm.ClassFile.FieldType.int))
abbrev MX6_nearest : MethodName × ByteArray × Nat × Option FieldType := (yX6_nearest, cX6_nearest, 6, (Option.some Jvm.ClassFile.FieldType.int))
abbrev MX6_keyOfNearest : MethodName × ByteArray × Nat × Option FieldType := (yX6_keyOfNearest, cX6_keyOfNearest, 7, (Option.some Jvm.ClassFile.FieldType.int))
abbrev MX4_sortByFar : MethodName × ByteArray × Nat × Option FieldType := (yX4_sortByFar, cX4_sortByFar, 6, (Option.some Jvm.ClassFile.FieldType.int))
abbrev MX6_far : MethodName × ByteArray × Nat × Option FieldType := (yX6_far, cX6_far, 6, (Option.some Jvm.ClassFile.FieldType.int))
abbrev MX6_visitedFor : MethodName × ByteArray × Nat × Option FieldType := (yX6_visitedFor, cX6_visitedFor, 7, (Option.some Jvm.ClassFile.FieldType.int))
abbrev MX6_pairs : MethodName × ByteArray × Nat × Option FieldType := (yX6_pairs, cX6_pairs, 6, (Option.some Jvm.ClassFile.FieldType.int))
abbrev MX6_checkFar : MethodName × ByteArray × Nat × Option FieldType := (yX6_checkFar, cX6_checkFar, 1, (Option.none : Option Jvm.ClassFile.FieldType))
abbrev MX4_countPairs : MethodName × ByteArray × Nat × Option FieldType := (yX4_countPairs, cX4_countPairs, 7, (Option.some Jvm.ClassFile.FieldType.int))
abbrev MX4_countNear : MethodName × ByteArray × Nat × Option FieldType := (yX4_countNear, cX4_countNear, 7, (Option.some Jvm.ClassFile.FieldType.int))
abbrev MX0_farBetween : MethodName × ByteArray × Nat × Option FieldType := (yX0_farBetween, cX0_farBetween, 4, (Option.some Jvm.ClassFile.FieldType.int))
abbrev MX6_visitedPairs : MethodName × ByteArray × Nat × Option FieldType := (yX6_visitedPairs, cX6_visitedPairs, 6, (Option.some Jvm.ClassFile.FieldType.int))
abbrev MX6_countVisitedPairs : MethodName × ByteArray × Nat × Option FieldType := (yX6_countVisitedPairs, cX6_countVisitedPairs, 13, (Option.some Jvm.ClassFile.FieldType.int))
abbrev MX6_clusters : MethodName × ByteArray × Nat × Option FieldType := (yX6_clusters, cX6_clusters, 4, (Option.some Jvm.ClassFile.FieldType.int))
abbrev MX4_gatherClusters : MethodName × ByteArray × Nat × Option FieldType := (yX4_gatherClusters, cX4_gatherClusters, 6, (Option.none : Option Jvm.ClassFile.FieldType))
abbrev MX4_joinClusters : MethodName × ByteArray × Nat × Option FieldType := (yX4_joinClusters, cX4_joinClusters, 6, (Option.none : Option Jvm.ClassFile.FieldType))
abbrev MX4_countClusters : MethodName × ByteArray × Nat × Option FieldType := (yX4_countClusters, cX4_countClusters, 4, (Option.some Jvm.ClassFile.FieldType.int))
abbrev MX6_greatest : MethodName × ByteArray × Nat × Option FieldType := (yX6_greatest, cX6_greatest, 4, (Option.some Jvm.ClassFile.FieldType.int))
abbrev MX4_greatestCluster : MethodName × ByteArray × Nat × Option FieldType := (yX4_greatestCluster, cX4_greatestCluster, 6, (Option.some Jvm.ClassFile.FieldType.int))
abbrev MX6_nodesWith : MethodName × ByteArray × Nat × Option FieldType := (yX6_nodesWith, cX6_nodesWith, 4, (Option.some Jvm.ClassFile.FieldType.int))
abbrev MX6_digest : MethodName × ByteArray × Nat × Option FieldType := (yX6_digest, cX6_digest, 5, (Option.some Jvm.ClassFile.FieldType.long))
abbrev MX6_depth : MethodName × ByteArray × Nat × Option FieldType := (yX6_depth, cX6_depth, 2, (Option.some Jvm.ClassFile.FieldType.int))
abbrev MX5_countLevels : MethodName × ByteArray × Nat × Option FieldType := (yX5_countLevels, cX5_countLevels, 1, (Option.some Jvm.ClassFile.FieldType.int))
abbrev MX6_area : MethodName × ByteArray × Nat × Option FieldType := (yX6_area, cX6_area, 1, (Option.some Jvm.ClassFile.FieldType.int))
abbrev MX1_twiceItsArea : MethodName × ByteArray × Nat × Option FieldType := (yX1_twiceItsArea, cX1_twiceItsArea, 4, (Option.some Jvm.ClassFile.FieldType.int))
abbrev MX1_next : MethodName × ByteArray × Nat × Option FieldType := (yX1_next, cX1_next, 2, (Option.some Jvm.ClassFile.FieldType.int))
abbrev MJ9_abs_0f7a4 : MethodName × ByteArray × Nat × Option FieldType := (yJ9_abs_0f7a4, cJ9_abs_0f7a4, 1, (Option.some Jvm.ClassFile.FieldType.int))
abbrev ML_below : MethodName × ByteArray × Nat × Option FieldType := (yL_below, cL_below, 2, (Option.some Jvm.ClassFile.FieldType.int))
abbrev ML_cell : MethodName × ByteArray × Nat × Option FieldType := (yL_cell, cL_cell, 2, (Option.some Jvm.ClassFile.FieldType.int))
end
section
/-! ===== BEGIN a constructor that throws (launches without stack traces) ===== -/
section VXIA
variable {p : Program} {l : Launch} {e : Env} {R : Room} {s : State} {m : MethodId} {args : Array Value} {below : List Frame} {meth : Method} {c : Code} {T : State} {locs : List Loc} {cells slots : Nat}
theorem vx_callI (X : Stand p l e R s m args below meth c T locs cells slots) (hexec : p.tables.exec = Jvm.exec) {own : String} {index : Nat} {y : MethodName} {bytes : ByteArray} {maxL : Nat}
    (hown : s.vm.findClass own = some m.cls) (hy1 : y.name = "<init>") (hlink : (Cond.methodLink own index y).before args s = true) (hinst : (Cond.instanceMethod y).before args s = true)
    (hcode : (Cond.code y bytes maxL none).before args s = true) (hy : y.cls ≠ "java/lang/invoke/MethodHandle" ∧ y.cls ≠ "java/lang/invoke/VarHandle")
    {W9 : Nat} {Pre : Pt → Array Value → Prop} {Post : Pt → Array Value → Option Value → Pt → Prop} {PostX : Pt → Array Value → Addr → Pt → Prop} (hK : vx_Back l R p e below s args y 3 W9 Pre Post PostX)
    {g : JFrame} (hg : g.method = m) (hsize : g.locals.size = c.maxLocals) {a : Addr} {argsL rest : List Value} (hlen : ∀ sig, parseMethodDescriptor y.desc = some sig → argsL.length = sig.parameters.length)
    (hstack : g.stack = argsL.reverse ++ .ref a :: rest) (hW : 2 * g.monitorRoom + (rest.map fun v => v.category).sum ≤ W9) (hdg : decode c.code g.pc = .ok (.invokespecial index, 3))
    (hpre : ∀ vm₁, s.WarmedH vm₁ → Pre ⟨T.setVm vm₁, locs, cells, slots⟩ (Value.ref a :: argsL).toArray) :
    (∃ (v : Option Value) (vm₁ : Vm) (B : Pt), s.WarmedH vm₁ ∧ Stand p l e R s m args below meth c B.U B.locs B.cells B.slots ∧ Post ⟨T.setVm vm₁, locs, cells, slots⟩ (Value.ref a :: argsL).toArray v B ∧
      ∀ target, Steps p.tables e below (B.U.setTop { g with pc := g.pc + 3, stack := v.toList ++ rest }) target → Steps p.tables e below (T.setTop g) target) ∨
    (∃ (q : Addr) (vm₁ : Vm) (B : Pt), s.WarmedH vm₁ ∧ Stand p l e R s m args below meth c B.U B.locs B.cells B.slots ∧ PostX ⟨T.setVm vm₁, locs, cells, slots⟩ (Value.ref a :: argsL).toArray q B ∧
      Steps p.tables e below (T.setTop g) ((B.U.setTop { g with stack := rest }).pushFrame (.throwing q))) := by
  subst hg
  have hpl : e.platform.magicAccessors = ({} : Platform).magicAccessors := by rw [X.admits.platform]
  obtain ⟨mk, methM, cM, kP, vm₁, hnamed, hmethM, hcodeM, -, hlocalsM, -, hkP, -, hW₁, hstep₁⟩ := Steps.initColdArgs (e := e) X.here hexec X.warmed hpl hown hy1 hy hlink hinst hcode (f := g) rfl hlen hstack hdg
  have X₁ := X.noted hW₁
  rcases hK g.method meth c ⟨T.setVm vm₁, locs, cells, slots⟩ { g with stack := rest } (.invokespecial index) mk (Value.ref a :: argsL).toArray X₁ rfl hsize hdg hW (X₁.named hnamed) (hpre vm₁ X₁.warmed) with ⟨v, B, X', hpost, hsteps⟩ | ⟨q, B, X', hpost, hsteps⟩
  · exact Or.inl ⟨v, vm₁, B, X₁.warmed, X', hpost, fun target h => hstep₁ _ fun acts => by rw [doInvoke_state]; exact hsteps.trans h⟩
  · exact Or.inr ⟨q, vm₁, B, X₁.warmed, X', hpost, hstep₁ _ fun acts => by rw [doInvoke_state]; exact hsteps⟩
end VXIA
section VXIB
variable {p : Program} {l : Launch} {e : Env} {R : Room} {s : State} {m : MethodId} {args : Array Value} {below : List Frame} {meth : Method} {c : Code} {H : Heap} {locs : List Loc} {cells slots : Nat}
variable {y : MethodName} {bytes cc : ByteArray} {maxL nL mc ms n index : Nat} {ret : Option FieldType} {ws : List Cond} {rm : Room} {Pc : Array Value → State → Prop} {Qc : Array Value → State → Outcome → State → Prop} {XC : String → State → State → Prop} {free : Addr → Prop} {Ts : List Cond} {own C : String} {b : Addr} {As rest : List Value} {g : JFrame}
theorem vx_runI (S : CallFix p m c cc nL s args Ts own) (hM : vx_Met l y ws rm Pc Qc XC mc ms free) (cw : CallB R s args own index y bytes maxL none ws rm mc ms n ∧ y.name = "<init>" ∧ (Cond.instanceMethod y).before args s = true) (hp : PreS s H Pc (.ref b :: As))
    (hg : g.method = m) (hn : As.length = n) (hsize : g.locals.size = nL) (hstack : g.stack = As.reverse ++ .ref b :: rest) (hW : 2 * g.monitorRoom + (rest.map fun v => v.category).sum ≤ 8) (hdg : decode cc g.pc = .ok (.invokespecial index, 3)) (hf : cells + mc ≤ R.cells ∧ slots + ms ≤ R.slots) :
    vx_Run p l e R s m args below meth c H locs cells slots mc ms g rest (Qc (Value.ref b :: As).toArray) XC free := by
  have hK : vx_Back l R p e below s args y 3 8 (PreOf R mc ms Pc) (PostOf Qc mc ms free) (vx_Post XC mc ms free) := vx_callBack cw.1 hM hp.1
  obtain ⟨⟨-, -, -, -, -, -, hcode, -, hy, hlen, hl⟩, hy1, hin⟩ := cw
  obtain ⟨hx, hb, hml, ho, -⟩ := S
  have hPc := hp.2
  intro T hT X
  rcases vx_callI X hx (bytes := bytes) (maxL := maxL) ho hy1 hl hin hcode hy hK hg (hsize.trans hml.symm) (a := b) (argsL := As) (rest := rest) (fun sig h => hn.trans (hlen sig h)) hstack hW (by rw [hb]; exact hdg)
    (fun vm₁ hW₁ => ⟨hf.1, hf.2, hPc (T.setVm vm₁) hT hW₁⟩) with ⟨v, vm₁, ⟨U', l2, c2, s2⟩, hW₁, X', ⟨g', mk, t, L, e1, e2, hq, h1, hL, h2, h3⟩, st⟩ | ⟨q, vm₁, ⟨U', l2, c2, s2⟩, hW₁, X', ⟨g', mk, t, L, E, ce, e1, e2, hq, hce, hcv, hcl, h1, hL, h2, h3⟩, st⟩
  · dsimp only [Pt.U, Pt.locs, Pt.cells, Pt.slots] at X' e1 e2 h1 h2 h3 st
    subst h1; subst h2; subst h3
    exact Or.inl ⟨v, (T.setVm vm₁).calling g' mk (Value.ref b :: As).toArray, t, U', L, hT, X', hL, e1, e2, hq, st⟩
  · dsimp only [Pt.U, Pt.locs, Pt.cells, Pt.slots] at X' e1 e2 h1 h2 h3 st hcl
    subst h1; subst h2; subst h3
    exact Or.inr ⟨q, (T.setVm vm₁).calling g' mk (Value.ref b :: As).toArray, t, U', L, E, ce, hT, X', hL, e1, e2, hq, hce, hcv, vx_cls hW₁ hcl, st⟩
end VXIB
/-! ===== END ===== -/
/-! ===== BEGIN a private constructor of a nest mate that throws ===== -/
section VXIC
variable {p : Program} {l : Launch} {e : Env} {R : Room} {s : State} {m : MethodId} {args : Array Value} {below : List Frame} {meth : Method} {c : Code} {T : State} {locs : List Loc} {cells slots : Nat}
theorem vx_callIN (X : Stand p l e R s m args below meth c T locs cells slots) (hexec : p.tables.exec = Jvm.exec) {own : String} {index : Nat} {host : String} {y : MethodName} {bytes : ByteArray} {maxL : Nat}
    (hown : s.vm.findClass own = some m.cls) (hy1 : y.name = "<init>") (hlink : (Cond.methodLinkNest own index y host).before args s = true) (hinst : (Cond.instanceMethod y).before args s = true)
    (hcode : (Cond.code y bytes maxL none).before args s = true) (hy : y.cls ≠ "java/lang/invoke/MethodHandle" ∧ y.cls ≠ "java/lang/invoke/VarHandle")
    {W9 : Nat} {Pre : Pt → Array Value → Prop} {Post : Pt → Array Value → Option Value → Pt → Prop} {PostX : Pt → Array Value → Addr → Pt → Prop} (hK : vx_Back l R p e below s args y 3 W9 Pre Post PostX)
    {g : JFrame} (hg : g.method = m) (hsize : g.locals.size = c.maxLocals) {a : Addr} {argsL rest : List Value} (hlen : ∀ sig, parseMethodDescriptor y.desc = some sig → argsL.length = sig.parameters.length)
    (hstack : g.stack = argsL.reverse ++ .ref a :: rest) (hW : 2 * g.monitorRoom + (rest.map fun v => v.category).sum ≤ W9) (hdg : decode c.code g.pc = .ok (.invokespecial index, 3))
    (hpre : ∀ vm₁, s.WarmedH vm₁ → Pre ⟨T.setVm vm₁, locs, cells, slots⟩ (Value.ref a :: argsL).toArray) :
    (∃ (v : Option Value) (vm₁ : Vm) (B : Pt), s.WarmedH vm₁ ∧ Stand p l e R s m args below meth c B.U B.locs B.cells B.slots ∧ Post ⟨T.setVm vm₁, locs, cells, slots⟩ (Value.ref a :: argsL).toArray v B ∧
      ∀ target, Steps p.tables e below (B.U.setTop { g with pc := g.pc + 3, stack := v.toList ++ rest }) target → Steps p.tables e below (T.setTop g) target) ∨
    (∃ (q : Addr) (vm₁ : Vm) (B : Pt), s.WarmedH vm₁ ∧ Stand p l e R s m args below meth c B.U B.locs B.cells B.slots ∧ PostX ⟨T.setVm vm₁, locs, cells, slots⟩ (Value.ref a :: argsL).toArray q B ∧
      Steps p.tables e below (T.setTop g) ((B.U.setTop { g with stack := rest }).pushFrame (.throwing q))) := by
  subst hg
  have hpl : e.platform.magicAccessors = ({} : Platform).magicAccessors := by rw [X.admits.platform]
  obtain ⟨mk, methM, cM, kP, vm₁, hnamed, hmethM, hcodeM, -, hlocalsM, -, hkP, -, hW₁, hstep₁⟩ := Steps.initColdArgsNest (e := e) X.here hexec X.warmed hpl hown hy1 hy hlink hinst hcode (f := g) rfl hlen hstack hdg
  have X₁ := X.noted hW₁
  rcases hK g.method meth c ⟨T.setVm vm₁, locs, cells, slots⟩ { g with stack := rest } (.invokespecial index) mk (Value.ref a :: argsL).toArray X₁ rfl hsize hdg hW (X₁.named hnamed) (hpre vm₁ X₁.warmed) with ⟨v, B, X', hpost, hsteps⟩ | ⟨q, B, X', hpost, hsteps⟩
  · exact Or.inl ⟨v, vm₁, B, X₁.warmed, X', hpost, fun target h => hstep₁ _ fun acts => by rw [doInvoke_state]; exact hsteps.trans h⟩
  · exact Or.inr ⟨q, vm₁, B, X₁.warmed, X', hpost, hstep₁ _ fun acts => by rw [doInvoke_state]; exact hsteps⟩
end VXIC
section VXID
variable {p : Program} {l : Launch} {e : Env} {R : Room} {s : State} {m : MethodId} {args : Array Value} {below : List Frame} {meth : Method} {c : Code} {H : Heap} {locs : List Loc} {cells slots : Nat}
theorem vx_runIN {y : MethodName} {bytes cc : ByteArray} {maxL nL mc ms n index : Nat} {ws : List Cond} {rm : Room} {Pc : Array Value → State → Prop} {Qc : Array Value → State → Outcome → State → Prop} {XC : String → State → State → Prop} {free : Addr → Prop} {Ts : List Cond} {own host : String} {b : Addr} {As rest : List Value} {g : JFrame}
    (S : CallFix p m c cc nL s args Ts own) (hM : vx_Met l y ws rm Pc Qc XC mc ms free) (cw : va_CN R s args own index y host bytes maxL none ws rm mc ms n ∧ y.name = "<init>" ∧ (Cond.instanceMethod y).before args s = true) (hp : PreS s H Pc (.ref b :: As))
    (hg : g.method = m) (hn : As.length = n) (hsize : g.locals.size = nL) (hstack : g.stack = As.reverse ++ .ref b :: rest) (hW : 2 * g.monitorRoom + (rest.map fun v => v.category).sum ≤ 8) (hdg : decode cc g.pc = .ok (.invokespecial index, 3)) (hf : cells + mc ≤ R.cells ∧ slots + ms ≤ R.slots) :
    vx_Run p l e R s m args below meth c H locs cells slots mc ms g rest (Qc (Value.ref b :: As).toArray) XC free := by
  obtain ⟨⟨⟨hrc, hrs, hfr, hlo, hws, hcw⟩, hcode, hini, hy, hlen, hl⟩, hx1, hx2⟩ := cw
  have hK : vx_Back l R p e below s args y 3 8 (PreOf R mc ms Pc) (PostOf Qc mc ms free) (vx_Post XC mc ms free) := vx_back (bytes := bytes) (maxL := maxL) (ret := none) hM hp.1 hrc hrs hfr hlo hws hcw (fun a' U hW => word_at hW (Or.inl (by first | rfl | simp [Cond.onTables, Cond.keeps, Cond.steady])) hini)
  obtain ⟨hx, hb, hml, ho, -⟩ := S
  have hPc := hp.2
  intro T hT X
  rcases vx_callIN X hx (bytes := bytes) (maxL := maxL) ho hx1 hl hx2 hcode hy hK hg (hsize.trans hml.symm) (a := b) (argsL := As) (rest := rest) (fun sig h => hn.trans (hlen sig h)) hstack hW (by rw [hb]; exact hdg)
    (fun vm₁ hW₁ => ⟨hf.1, hf.2, hPc (T.setVm vm₁) hT hW₁⟩) with ⟨v, vm₁, ⟨U', l2, c2, s2⟩, hW₁, X', ⟨g', mk, t, L, e1, e2, hq, h1, hL, h2, h3⟩, st⟩ | ⟨q, vm₁, ⟨U', l2, c2, s2⟩, hW₁, X', ⟨g', mk, t, L, E, ce, e1, e2, hq, hce, hcv, hcl, h1, hL, h2, h3⟩, st⟩
  · dsimp only [Pt.U, Pt.locs, Pt.cells, Pt.slots] at X' e1 e2 h1 h2 h3 st
    subst h1; subst h2; subst h3
    exact Or.inl ⟨v, (T.setVm vm₁).calling g' mk (Value.ref b :: As).toArray, t, U', L, hT, X', hL, e1, e2, hq, st⟩
  · dsimp only [Pt.U, Pt.locs, Pt.cells, Pt.slots] at X' e1 e2 h1 h2 h3 st hcl
    subst h1; subst h2; subst h3
    exact Or.inr ⟨q, (T.setVm vm₁).calling g' mk (Value.ref b :: As).toArray, t, U', L, E, ce, hT, X', hL, e1, e2, hq, hce, hcv, vx_cls hW₁ hcl, st⟩
end VXID
/-! ===== END ===== -/
end
section
/-- a method: its name, its code, how many locals, what it returns -/
abbrev MD : Type := MethodName × ByteArray × Nat × Option FieldType
/-- a cell as the proof sees it: an array by the number of its type, or an object by the number of its class; references are places in the list of cells -/
abbrev VE : Type := (Nat × vp_A) ⊕ (Nat × List Value)
/-- the cells; whether nothing but they has been made since the law's start -/
abbrev VH : Type := Bool × List VE
/-- launch; class numbers and field places; array classes; the script (where, how long, what); where the cells lie; from where on they are ours; what else stays true -/
abbrev GK : Type := Launch × va_G × (Nat → ClassId) × (Nat × Nat × (Nat → Int32)) × (Nat → Nat) × Nat × (State → Prop)
abbrev kL (K : GK) : Launch := K.1
abbrev kD (K : GK) : va_G := K.2.1
abbrev kC (K : GK) : Nat → ClassId := K.2.2.1
abbrev kS (K : GK) : Nat × Nat × (Nat → Int32) := K.2.2.2.1
abbrev kA (K : GK) : Nat → Nat := K.2.2.2.2.1
abbrev kB (K : GK) : Nat := K.2.2.2.2.2.1
abbrev kE (K : GK) : State → Prop := K.2.2.2.2.2.2
abbrev kF (K : GK) : Nat → Prop := fun q => kB K ≤ q
def vv (K : GK) (v : Value) : Value := match v with
  | .ref k => .ref (kA K k)
  | .float _ => .ref (kS K).1
  | .int x => .int x
  | .long x => .long x
  | .double x => .double x
  | .null => .null
  | .retAddr x => .retAddr x
abbrev vl (K : GK) (q : Nat × Value) : Nat × Value := (q.1, vv K q.2)
def va2 (K : GK) (a : vp_A) : vp_A := match a with
  | (n, .inl f) => (n, .inl f)
  | (n, .inr (.inl f)) => (n, .inr (.inl f))
  | (n, .inr (.inr (.inl f))) => (n, .inr (.inr (.inl f)))
  | (n, .inr (.inr (.inr (.inl f)))) => (n, .inr (.inr (.inr (.inl f))))
  | (n, .inr (.inr (.inr (.inr f)))) => (n, .inr (.inr (.inr (.inr (fun j => (f j).map (kA K))))))
def ve (K : GK) (e : VE) : va_E := match e with
  | .inl (t, a) => .inl (kC K t, va2 K a)
  | .inr (c, fs) => .inr (c, fs.map (vv K))
def vW (K : GK) (h : VH) : va_W := h.2.mapIdx (fun k e => (kA K k, ve K e))
theorem vv_cat (K : GK) (v : Value) : (vv K v).category = v.category := by cases v <;> rfl
theorem vv_sum (K : GK) (l : List Value) : ((l.map (vv K)).map fun v => v.category).sum = (l.map fun v => v.category).sum := by
  induction l with
  | nil => rfl
  | cons a l ih => simp only [List.map_cons, List.sum_cons, vv_cat, ih]
theorem vW_at {K : GK} {h : VH} {k : Nat} {e : VE} (he : h.2[k]? = some e) : (vW K h)[k]? = some (kA K k, ve K e) := by
  unfold vW
  rw [List.getElem?_mapIdx, he]
  rfl
theorem vW_some {K : GK} {h : VH} {k : Nat} {q : Nat × va_E} (hq : (vW K h)[k]? = some q) : ∃ e, h.2[k]? = some e ∧ q = (kA K k, ve K e) := by
  unfold vW at hq
  rw [List.getElem?_mapIdx] at hq
  cases he : h.2[k]? with
  | none => rw [he] at hq; cases hq
  | some e => rw [he] at hq; exact ⟨e, rfl, (Option.some.inj hq).symm⟩
theorem vW_set (K : GK) (b b' : Bool) (h : List VE) (k : Nat) (e : VE) : vW K (b, h.set k e) = (vW K (b', h)).set k (kA K k, ve K e) := by
  apply List.ext_getElem?
  intro j
  unfold vW
  rw [List.getElem?_mapIdx, List.getElem?_set, List.getElem?_set, List.length_mapIdx, List.getElem?_mapIdx]
  by_cases hj : k = j
  · subst hj
    by_cases hl : k < h.length
    · rw [if_pos rfl, if_pos hl, if_pos rfl, if_pos hl]; rfl
    · rw [if_pos rfl, if_neg hl, if_pos rfl, if_neg hl]; rfl
  · rw [if_neg hj, if_neg hj]
theorem vW_push (K : GK) (b b' : Bool) (h : List VE) (e : VE) : vW K (b, h ++ [e]) = vW K (b', h) ++ [(kA K h.length, ve K e)] := by
  unfold vW
  simp [List.mapIdx_append]
abbrev gcl : List vw_C := [(RX0, TX0, 4), (RX1, TX1, 3), (RX2, TX2, 4), (RX3, TX3, 1), (RX4, TX4, 6), (RX5, TX5, 10), (RX6, TX6, 5)]
def gty (c : Nat) : Nat → FieldType := match c with
  | 0 => tyX0
  | 1 => tyX1
  | 2 => tyX2
  | 3 => tyX3
  | 4 => tyX4
  | 5 => tyX5
  | _ => tyX6
def gty_ok (ci : Nat) (r : vw_C) : Prop := (∀ w ∈ u_ws r.1 r.2.1 r.2.2, w ∈ tbG) ∧ (∀ k, k < r.2.2 → parseFieldDescriptor (r.2.1 k).2.2.1 = some (gty ci k)) ∧ (∀ a, a < r.2.2 → ∀ b, b < r.2.2 → a ≠ b → (r.2.1 a).2.1 ≠ (r.2.1 b).2.1)
theorem gcl_0 : ∀ w ∈ wsX00, w ∈ tbG := by decide +kernel
theorem gcl_1 : ∀ w ∈ wsX10, w ∈ tbG := by decide +kernel
theorem gcl_2 : ∀ w ∈ wsX20, w ∈ tbG := by decide +kernel
theorem gcl_3 : ∀ w ∈ wsX30, w ∈ tbG := by decide +kernel
theorem gcl_4 : ∀ w ∈ wsX40, w ∈ tbG := by decide +kernel
theorem gcl_5 : ∀ w ∈ wsX50, w ∈ tbG := by decide +kernel
theorem gcl_6 : ∀ w ∈ wsX60, w ∈ tbG := by decide +kernel
theorem gcl_ok (ci : Nat) (r : vw_C) (h : gcl[ci]? = some r) : gty_ok ci r := by
  match ci, h with
  | 0, h => cases h; exact ⟨gcl_0, tyX0_ok, nmX0⟩
  | 1, h => cases h; exact ⟨gcl_1, tyX1_ok, nmX1⟩
  | 2, h => cases h; exact ⟨gcl_2, tyX2_ok, nmX2⟩
  | 3, h => cases h; exact ⟨gcl_3, tyX3_ok, nmX3⟩
  | 4, h => cases h; exact ⟨gcl_4, tyX4_ok, nmX4⟩
  | 5, h => cases h; exact ⟨gcl_5, tyX5_ok, nmX5⟩
  | 6, h => cases h; exact ⟨gcl_6, tyX6_ok, nmX6⟩
  | k + 7, h => simp at h
def gtys : List FieldType := [.int, .object RX2]
def ktys (K : GK) : List (ClassId × FieldType) := gtys.mapIdx (fun i t => (kC K i, t))
theorem ktys_at {K : GK} {i : Nat} {t : FieldType} (h : gtys[i]? = some t) : (ktys K)[i]? = some (kC K i, t) := by
  unfold ktys
  rw [List.getElem?_mapIdx, h]
  rfl
def Rm (d mc ms : Nat) : Room := { frames := d, cells := mc, slots := ms, locals := 64 * d + 40 }
/-- the heap holds the cells -/
def Ph (K : GK) (h : VH) (H : Heap) : Prop := va_P (kD K) gcl (vW K h) H ∧ (h.1 = true → ∀ j : Nat, kA K (h.2.length + j) = H.size + j) ∧ kB K ≤ H.size
/-- what holds of K once and for all -/
def Kok (K : GK) : Prop := (∀ i j : Nat, kA K i = kA K j → i = j) ∧ (∀ k : Nat, kB K ≤ kA K k) ∧ (kL K).stackTraces = false ∧ (kS K).1 < kB K ∧ (kS K).2.1 < 2 ^ 31 ∧ ∀ s U : State, s.WarmedH U.vm → s.heap.size ≤ U.heap.size → (∀ q : Nat, q < s.heap.size → ¬ kB K ≤ q → U.heap[q]? = s.heap[q]?) → kE K s → kE K U
/-- what holds at a method's start, of the state -/
def Kst (K : GK) (s : State) : Prop := (∀ w ∈ tbN, va_Nw w s) ∧ va_K (kD K) gcl (ktys K) s ∧ kB K ≤ s.heap.size ∧ kE K s ∧ va_X (kS K).1 (kS K).2.1 (kS K).2.2 s s.heap
def Fr (K : GK) (M : MD) (d mc ms : Nat) (p : Program) (R : Room) (s : State) (m : MethodId) (args : Array Value) (meth : Method) (c : Code) : Prop :=
  p.tables.exec = Jvm.exec ∧ c.code = M.2.1 ∧ c.maxLocals = M.2.2.1 ∧ s.vm.findClass M.1.cls = some m.cls ∧ (∀ w ∈ tbG, w.before args s = true) ∧ meth.sig.returnType = M.2.2.2 ∧ meth.locks = false ∧ meth.name = M.1.name ∧ d ≤ R.frames ∧ 64 * d + 40 ≤ R.locals ∧ mc ≤ R.cells ∧ ms ≤ R.slots ∧ Kst K s
theorem va_D_vW {K : GK} (hK : Kok K) (h : VH) : va_D (kF K) (vW K h) := by
  refine ⟨fun i j p q hi hj hpq => ?_, fun k q hk => ?_⟩
  · obtain ⟨e, -, rfl⟩ := vW_some hi
    obtain ⟨e', -, rfl⟩ := vW_some hj
    exact hK.1 i j hpq
  · obtain ⟨e, -, rfl⟩ := vW_some hk
    exact hK.2.1 k
/-- THE JUDGEMENT: from here, with these locals, this stack and these cells, the method comes to its end with Qc or XC -/
def G (K : GK) (M : MD) (d mc ms uc us pc : Nat) (L : List (Nat × Value)) (st : List Value) (h : VH) (Qc : Array Value → State → Outcome → State → Prop) (XC : String → State → State → Prop) : Prop :=
  Kok K → ∀ (p : Program) (e : Env) (R : Room) (s : State) (m : MethodId) (args : Array Value) (below : List Frame) (meth : Method) (c : Code) (H : Heap) (locs : List Loc) (ls : Array Slot),
    Fr K M d mc ms p R s m args meth c → va_S (kF K) s.heap H locs → Ph K h H → lv_has ls M.2.2.1 (L.map (vl K)) →
    W p (kL K) e R s m args below meth c H locs uc us (vx_MQ below Qc XC args s mc ms (kF K)) (F0 m pc ls (st.map (vv K)))
/-- the same with an exception of class E over the frame -/
def GX (K : GK) (M : MD) (d mc ms uc us pc : Nat) (L : List (Nat × Value)) (st : List Value) (h : VH) (E : String) (Qc : Array Value → State → Outcome → State → Prop) (XC : String → State → State → Prop) : Prop :=
  Kok K → ∀ (p : Program) (e : Env) (R : Room) (s : State) (m : MethodId) (args : Array Value) (below : List Frame) (meth : Method) (c : Code) (H : Heap) (locs : List Loc) (ls : Array Slot) (q : Addr) (ce : Cell),
    Fr K M d mc ms p R s m args meth c → va_S (kF K) s.heap H locs → Ph K h H → lv_has ls M.2.2.1 (L.map (vl K)) → H[q]? = some ce → ce.vm = .none → s.vm.findClass E = some ce.cls →
    vx_W p (kL K) e R s m args below meth c H locs uc us (vx_MQ below Qc XC args s mc ms (kF K)) (F0 m pc ls (st.map (vv K))) q
def QcP (K : GK) (P : Option Value → VH → Prop) : Array Value → State → Outcome → State → Prop := fun _ st oc t => (∃ (v : Option Value) (u : VH), oc = .returned (v.map (vv K)) ∧ P v u ∧ Ph K u t.heap) ∧ va_F (kF K) st t
def XcP (K : GK) (X : String → VH → Prop) : String → State → State → Prop := fun E st t => (∃ u : VH, X E u ∧ Ph K u t.heap) ∧ va_F (kF K) st t
def Pc0 (K : GK) (as : List Value) (h : VH) : Array Value → State → Prop := va_Pc (as.map (vv K)) (fun U => Ph K h U.heap ∧ Kst K U)
/-- a method's contract -/
def Sp (K : GK) (M : MD) (d mc ms : Nat) (as : List Value) (h : VH) (P : Option Value → VH → Prop) (X : String → VH → Prop) : Prop :=
  Kok K → vx_Met (kL K) M.1 (Cond.code M.1 M.2.1 M.2.2.1 M.2.2.2 :: tbG) (Rm d mc ms) (Pc0 K as h) (QcP K P) (XcP K X) mc ms (kF K)
abbrev noX : String → VH → Prop := fun _ _ => False
/-- a local by its place -/
def gl (L : List (Nat × Value)) (i : Nat) : Option Value := match L with
  | [] => none
  | q :: L => if q.1 = i then some q.2 else gl L i
theorem gl_mem {L : List (Nat × Value)} {i : Nat} {v : Value} (h : gl L i = some v) : (i, v) ∈ L := by
  induction L with
  | nil => cases h
  | cons q L ih =>
    unfold gl at h
    split at h
    · next e => cases h; rw [← e]; exact List.mem_cons_self
    · exact List.mem_cons_of_mem _ (ih h)
theorem gl_at {K : GK} {ls : Array Slot} {n : Nat} {L : List (Nat × Value)} {i : Nat} {v : Value} (hl : lv_has ls n (L.map (vl K))) (h : gl L i = some v) : ls[i]? = some (.val (vv K v)) :=
  hl.2.2 (i, vv K v) (List.mem_map.mpr ⟨(i, v), gl_mem h, rfl⟩)
/-- a store of one slot: the place's value goes, also a long that lies half in it -/
def gs (L : List (Nat × Value)) (i : Nat) (v : Value) : List (Nat × Value) := (i, v) :: L.filter (fun q => !(q.1 == i) && !(q.1 + 1 == i && q.2.category == 2))
def gs2 (L : List (Nat × Value)) (i : Nat) (v : Value) : List (Nat × Value) := (i, v) :: L.filter (fun q => !(q.1 == i) && (!(q.1 == i + 1) && !(q.1 + 1 == i && q.2.category == 2)))
theorem gs_map (K : GK) (L : List (Nat × Value)) (i : Nat) (v : Value) : (i, vv K v) :: (L.map (vl K)).filter (fun q => !(q.1 == i) && !(q.1 + 1 == i && q.2.category == 2)) = (gs L i v).map (vl K) := by
  unfold gs
  rw [List.map_cons, List.filter_map]
  congr 2
  apply List.filter_congr
  intro q _
  simp [Function.comp, vv_cat]
theorem gs2_map (K : GK) (L : List (Nat × Value)) (i : Nat) (v : Value) : (i, vv K v) :: (L.map (vl K)).filter (fun q => !(q.1 == i) && (!(q.1 == i + 1) && !(q.1 + 1 == i && q.2.category == 2))) = (gs2 L i v).map (vl K) := by
  unfold gs2
  rw [List.map_cons, List.filter_map]
  congr 2
  apply List.filter_congr
  intro q _
  simp [Function.comp, vv_cat]
section GR
variable {K : GK} {M : MD} {d mc ms uc us pc : Nat} {L : List (Nat × Value)} {h : VH} {Qc : Array Value → State → Outcome → State → Prop} {XC : String → State → State → Prop}
theorem G_iconst {rest : List Value} {n : Int} {v : Int32} (hdg : decode M.2.1 pc = .ok (.iconst n, 1)) (hv : Int32.ofInt n = v) (k : G K M d mc ms uc us (pc + 1) L (.int v :: rest) h Qc XC) : G K M d mc ms uc us pc L (rest) h Qc XC := fun hK p e R s m args below meth c H locs ls F hS hP hl => lv_iconst F.1 F.2.1 hdg hv (k hK p e R s m args below meth c H locs ls F hS hP hl)
theorem G_bipush {rest : List Value} {n : Int} {v : Int32} (hdg : decode M.2.1 pc = .ok (.bipush n, 2)) (hv : (Int8.ofInt n).toInt32 = v) (k : G K M d mc ms uc us (pc + 2) L (.int v :: rest) h Qc XC) : G K M d mc ms uc us pc L (rest) h Qc XC := fun hK p e R s m args below meth c H locs ls F hS hP hl => lv_bipush F.1 F.2.1 hdg hv (k hK p e R s m args below meth c H locs ls F hS hP hl)
theorem G_sipush {rest : List Value} {n : Int} {v : Int32} (hdg : decode M.2.1 pc = .ok (.sipush n, 3)) (hv : (Int16.ofInt n).toInt32 = v) (k : G K M d mc ms uc us (pc + 3) L (.int v :: rest) h Qc XC) : G K M d mc ms uc us pc L (rest) h Qc XC := fun hK p e R s m args below meth c H locs ls F hS hP hl => lv_sipush F.1 F.2.1 hdg hv (k hK p e R s m args below meth c H locs ls F hS hP hl)
theorem G_null {rest : List Value} (hdg : decode M.2.1 pc = .ok (.aconst_null, 1)) (k : G K M d mc ms uc us (pc + 1) L (.null :: rest) h Qc XC) : G K M d mc ms uc us pc L (rest) h Qc XC := fun hK p e R s m args below meth c H locs ls F hS hP hl => lv_null F.1 F.2.1 hdg (k hK p e R s m args below meth c H locs ls F hS hP hl)
theorem G_iadd {rest : List Value} {x y : Int32} (hdg : decode M.2.1 pc = .ok (.iadd, 1)) (k : G K M d mc ms uc us (pc + 1) L (.int (x + y) :: rest) h Qc XC) : G K M d mc ms uc us pc L (.int y :: .int x :: rest) h Qc XC := fun hK p e R s m args below meth c H locs ls F hS hP hl => lv_iadd F.1 F.2.1 hdg (k hK p e R s m args below meth c H locs ls F hS hP hl)
theorem G_isub {rest : List Value} {x y : Int32} (hdg : decode M.2.1 pc = .ok (.isub, 1)) (k : G K M d mc ms uc us (pc + 1) L (.int (x - y) :: rest) h Qc XC) : G K M d mc ms uc us pc L (.int y :: .int x :: rest) h Qc XC := fun hK p e R s m args below meth c H locs ls F hS hP hl => lv_isub F.1 F.2.1 hdg (k hK p e R s m args below meth c H locs ls F hS hP hl)
theorem G_imul {rest : List Value} {x y : Int32} (hdg : decode M.2.1 pc = .ok (.imul, 1)) (k : G K M d mc ms uc us (pc + 1) L (.int (x * y) :: rest) h Qc XC) : G K M d mc ms uc us pc L (.int y :: .int x :: rest) h Qc XC := fun hK p e R s m args below meth c H locs ls F hS hP hl => lv_imul F.1 F.2.1 hdg (k hK p e R s m args below meth c H locs ls F hS hP hl)
theorem G_iand {rest : List Value} {x y : Int32} (hdg : decode M.2.1 pc = .ok (.iand, 1)) (k : G K M d mc ms uc us (pc + 1) L (.int (x &&& y) :: rest) h Qc XC) : G K M d mc ms uc us pc L (.int y :: .int x :: rest) h Qc XC := fun hK p e R s m args below meth c H locs ls F hS hP hl => lv_iand F.1 F.2.1 hdg (k hK p e R s m args below meth c H locs ls F hS hP hl)
theorem G_ishr {rest : List Value} {x y : Int32} (hdg : decode M.2.1 pc = .ok (.ishr, 1)) (k : G K M d mc ms uc us (pc + 1) L (.int (x >>> (y &&& 31)) :: rest) h Qc XC) : G K M d mc ms uc us pc L (.int y :: .int x :: rest) h Qc XC := fun hK p e R s m args below meth c H locs ls F hS hP hl => lv_ishr F.1 F.2.1 hdg (k hK p e R s m args below meth c H locs ls F hS hP hl)
theorem G_idiv {rest : List Value} {x y : Int32} (hdg : decode M.2.1 pc = .ok (.idiv, 1)) (hne : ¬ y = 0) (k : G K M d mc ms uc us (pc + 1) L (.int (x / y) :: rest) h Qc XC) : G K M d mc ms uc us pc L (.int y :: .int x :: rest) h Qc XC := fun hK p e R s m args below meth c H locs ls F hS hP hl => lv_idiv F.1 F.2.1 hdg hne (k hK p e R s m args below meth c H locs ls F hS hP hl)
theorem G_irem {rest : List Value} {x y : Int32} (hdg : decode M.2.1 pc = .ok (.irem, 1)) (hne : ¬ y = 0) (k : G K M d mc ms uc us (pc + 1) L (.int (x - x / y * y) :: rest) h Qc XC) : G K M d mc ms uc us pc L (.int y :: .int x :: rest) h Qc XC := fun hK p e R s m args below meth c H locs ls F hS hP hl => lv_irem F.1 F.2.1 hdg hne (k hK p e R s m args below meth c H locs ls F hS hP hl)
theorem G_ladd {rest : List Value} {x y : Int64} (hdg : decode M.2.1 pc = .ok (.ladd, 1)) (k : G K M d mc ms uc us (pc + 1) L (.long (x + y) :: rest) h Qc XC) : G K M d mc ms uc us pc L (.long y :: .long x :: rest) h Qc XC := fun hK p e R s m args below meth c H locs ls F hS hP hl => lv_ladd F.1 F.2.1 hdg (k hK p e R s m args below meth c H locs ls F hS hP hl)
theorem G_lmul {rest : List Value} {x y : Int64} (hdg : decode M.2.1 pc = .ok (.lmul, 1)) (k : G K M d mc ms uc us (pc + 1) L (.long (x * y) :: rest) h Qc XC) : G K M d mc ms uc us pc L (.long y :: .long x :: rest) h Qc XC := fun hK p e R s m args below meth c H locs ls F hS hP hl => lv_lmul F.1 F.2.1 hdg (k hK p e R s m args below meth c H locs ls F hS hP hl)
theorem G_i2l {rest : List Value} {x : Int32} (hdg : decode M.2.1 pc = .ok (.i2l, 1)) (k : G K M d mc ms uc us (pc + 1) L (.long x.toInt64 :: rest) h Qc XC) : G K M d mc ms uc us pc L (.int x :: rest) h Qc XC := fun hK p e R s m args below meth c H locs ls F hS hP hl => lv_i2l F.1 F.2.1 hdg rfl (k hK p e R s m args below meth c H locs ls F hS hP hl)
theorem G_lcmp {rest : List Value} {x y : Int64} (hdg : decode M.2.1 pc = .ok (.lcmp, 1)) (k : G K M d mc ms uc us (pc + 1) L (.int (lg_cmp x y) :: rest) h Qc XC) : G K M d mc ms uc us pc L (.long y :: .long x :: rest) h Qc XC := fun hK p e R s m args below meth c H locs ls F hS hP hl => W.lcmp F.1 F.2.1 hdg (k hK p e R s m args below meth c H locs ls F hS hP hl)
theorem G_pop {rest : List Value} {va : Value} (hdg : decode M.2.1 pc = .ok (.pop, 1)) (hva : va.category = 1) (k : G K M d mc ms uc us (pc + 1) L (rest) h Qc XC) : G K M d mc ms uc us pc L (va :: rest) h Qc XC := fun hK p e R s m args below meth c H locs ls F hS hP hl => lv_pop F.1 F.2.1 hdg ((vv_cat K va).trans hva) (k hK p e R s m args below meth c H locs ls F hS hP hl)
theorem G_dup {rest : List Value} {va : Value} (hdg : decode M.2.1 pc = .ok (.dup, 1)) (hva : va.category = 1) (k : G K M d mc ms uc us (pc + 1) L (va :: va :: rest) h Qc XC) : G K M d mc ms uc us pc L (va :: rest) h Qc XC := fun hK p e R s m args below meth c H locs ls F hS hP hl => lv_dup F.1 F.2.1 hdg ((vv_cat K va).trans hva) (k hK p e R s m args below meth c H locs ls F hS hP hl)
theorem G_dup2 {rest : List Value} {va vb : Value} (hdg : decode M.2.1 pc = .ok (.dup2, 1)) (hva : va.category = 1) (hvb : vb.category = 1) (k : G K M d mc ms uc us (pc + 1) L (va :: vb :: va :: vb :: rest) h Qc XC) : G K M d mc ms uc us pc L (va :: vb :: rest) h Qc XC := fun hK p e R s m args below meth c H locs ls F hS hP hl => lv_dup2_11 F.1 F.2.1 hdg ((vv_cat K va).trans hva) ((vv_cat K vb).trans hvb) (k hK p e R s m args below meth c H locs ls F hS hP hl)
theorem G_goto {rest : List Value} {off : Int} {tgt : Nat} (hdg : decode M.2.1 pc = .ok (.goto off, 3)) (ht : (pc : Int) + off = (tgt : Int)) (k : G K M d mc ms uc us tgt L (rest) h Qc XC) : G K M d mc ms uc us pc L (rest) h Qc XC := fun hK p e R s m args below meth c H locs ls F hS hP hl => lv_goto F.1 F.2.1 hdg ht (k hK p e R s m args below meth c H locs ls F hS hP hl)
theorem G_ifnonnull {rest : List Value} {x : Nat} {off : Int} {tgt : Nat} (hdg : decode M.2.1 pc = .ok (.ifnonnull off, 3)) (ht : (pc : Int) + off = (tgt : Int)) (k : G K M d mc ms uc us tgt L (rest) h Qc XC) : G K M d mc ms uc us pc L (.ref x :: rest) h Qc XC := fun hK p e R s m args below meth c H locs ls F hS hP hl => lv_ifnonnull F.1 F.2.1 hdg ht (k hK p e R s m args below meth c H locs ls F hS hP hl)
theorem G_ifnonnullN {rest : List Value} {off : Int} (hdg : decode M.2.1 pc = .ok (.ifnonnull off, 3)) (k : G K M d mc ms uc us (pc + 3) L (rest) h Qc XC) : G K M d mc ms uc us pc L (.null :: rest) h Qc XC := fun hK p e R s m args below meth c H locs ls F hS hP hl => lv_ifnonnullN F.1 F.2.1 hdg (k hK p e R s m args below meth c H locs ls F hS hP hl)
theorem G_icmp_eq {rest : List Value} {x y : Int32} {off : Int} {tgt : Nat} (hdg : decode M.2.1 pc = .ok (.if_icmp .eq off, 3)) (ht : (pc : Int) + off = (tgt : Int)) (kt : x = y → G K M d mc ms uc us tgt L rest h Qc XC) (kf : ¬ x = y → G K M d mc ms uc us (pc + 3) L rest h Qc XC) : G K M d mc ms uc us pc L (.int y :: .int x :: rest) h Qc XC := fun hK p e R s m args below meth c H locs ls F hS hP hl => lv_icmp_eq F.1 F.2.1 hdg ht (fun q => kt q hK p e R s m args below meth c H locs ls F hS hP hl) (fun q => kf q hK p e R s m args below meth c H locs ls F hS hP hl)
theorem G_if_eq {rest : List Value} {x : Int32} {off : Int} {tgt : Nat} (hdg : decode M.2.1 pc = .ok (.ifCond .eq off, 3)) (ht : (pc : Int) + off = (tgt : Int)) (kt : x = 0 → G K M d mc ms uc us tgt L rest h Qc XC) (kf : ¬ x = 0 → G K M d mc ms uc us (pc + 3) L rest h Qc XC) : G K M d mc ms uc us pc L (.int x :: rest) h Qc XC := fun hK p e R s m args below meth c H locs ls F hS hP hl => lv_if_eq F.1 F.2.1 hdg ht (fun q => kt q hK p e R s m args below meth c H locs ls F hS hP hl) (fun q => kf q hK p e R s m args below meth c H locs ls F hS hP hl)
theorem G_icmp_ne {rest : List Value} {x y : Int32} {off : Int} {tgt : Nat} (hdg : decode M.2.1 pc = .ok (.if_icmp .ne off, 3)) (ht : (pc : Int) + off = (tgt : Int)) (kt : ¬ x = y → G K M d mc ms uc us tgt L rest h Qc XC) (kf : x = y → G K M d mc ms uc us (pc + 3) L rest h Qc XC) : G K M d mc ms uc us pc L (.int y :: .int x :: rest) h Qc XC := fun hK p e R s m args below meth c H locs ls F hS hP hl => lv_icmp_ne F.1 F.2.1 hdg ht (fun q => kt q hK p e R s m args below meth c H locs ls F hS hP hl) (fun q => kf q hK p e R s m args below meth c H locs ls F hS hP hl)
theorem G_if_ne {rest : List Value} {x : Int32} {off : Int} {tgt : Nat} (hdg : decode M.2.1 pc = .ok (.ifCond .ne off, 3)) (ht : (pc : Int) + off = (tgt : Int)) (kt : ¬ x = 0 → G K M d mc ms uc us tgt L rest h Qc XC) (kf : x = 0 → G K M d mc ms uc us (pc + 3) L rest h Qc XC) : G K M d mc ms uc us pc L (.int x :: rest) h Qc XC := fun hK p e R s m args below meth c H locs ls F hS hP hl => lv_if_ne F.1 F.2.1 hdg ht (fun q => kt q hK p e R s m args below meth c H locs ls F hS hP hl) (fun q => kf q hK p e R s m args below meth c H locs ls F hS hP hl)
theorem G_icmp_lt {rest : List Value} {x y : Int32} {off : Int} {tgt : Nat} (hdg : decode M.2.1 pc = .ok (.if_icmp .lt off, 3)) (ht : (pc : Int) + off = (tgt : Int)) (kt : x < y → G K M d mc ms uc us tgt L rest h Qc XC) (kf : ¬ x < y → G K M d mc ms uc us (pc + 3) L rest h Qc XC) : G K M d mc ms uc us pc L (.int y :: .int x :: rest) h Qc XC := fun hK p e R s m args below meth c H locs ls F hS hP hl => lv_icmp_lt F.1 F.2.1 hdg ht (fun q => kt q hK p e R s m args below meth c H locs ls F hS hP hl) (fun q => kf q hK p e R s m args below meth c H locs ls F hS hP hl)
theorem G_if_lt {rest : List Value} {x : Int32} {off : Int} {tgt : Nat} (hdg : decode M.2.1 pc = .ok (.ifCond .lt off, 3)) (ht : (pc : Int) + off = (tgt : Int)) (kt : x < 0 → G K M d mc ms uc us tgt L rest h Qc XC) (kf : ¬ x < 0 → G K M d mc ms uc us (pc + 3) L rest h Qc XC) : G K M d mc ms uc us pc L (.int x :: rest) h Qc XC := fun hK p e R s m args below meth c H locs ls F hS hP hl => lv_if_lt F.1 F.2.1 hdg ht (fun q => kt q hK p e R s m args below meth c H locs ls F hS hP hl) (fun q => kf q hK p e R s m args below meth c H locs ls F hS hP hl)
theorem G_icmp_ge {rest : List Value} {x y : Int32} {off : Int} {tgt : Nat} (hdg : decode M.2.1 pc = .ok (.if_icmp .ge off, 3)) (ht : (pc : Int) + off = (tgt : Int)) (kt : y ≤ x → G K M d mc ms uc us tgt L rest h Qc XC) (kf : ¬ y ≤ x → G K M d mc ms uc us (pc + 3) L rest h Qc XC) : G K M d mc ms uc us pc L (.int y :: .int x :: rest) h Qc XC := fun hK p e R s m args below meth c H locs ls F hS hP hl => lv_icmp_ge F.1 F.2.1 hdg ht (fun q => kt q hK p e R s m args below meth c H locs ls F hS hP hl) (fun q => kf q hK p e R s m args below meth c H locs ls F hS hP hl)
theorem G_if_ge {rest : List Value} {x : Int32} {off : Int} {tgt : Nat} (hdg : decode M.2.1 pc = .ok (.ifCond .ge off, 3)) (ht : (pc : Int) + off = (tgt : Int)) (kt : 0 ≤ x → G K M d mc ms uc us tgt L rest h Qc XC) (kf : ¬ 0 ≤ x → G K M d mc ms uc us (pc + 3) L rest h Qc XC) : G K M d mc ms uc us pc L (.int x :: rest) h Qc XC := fun hK p e R s m args below meth c H locs ls F hS hP hl => lv_if_ge F.1 F.2.1 hdg ht (fun q => kt q hK p e R s m args below meth c H locs ls F hS hP hl) (fun q => kf q hK p e R s m args below meth c H locs ls F hS hP hl)
theorem G_icmp_gt {rest : List Value} {x y : Int32} {off : Int} {tgt : Nat} (hdg : decode M.2.1 pc = .ok (.if_icmp .gt off, 3)) (ht : (pc : Int) + off = (tgt : Int)) (kt : y < x → G K M d mc ms uc us tgt L rest h Qc XC) (kf : ¬ y < x → G K M d mc ms uc us (pc + 3) L rest h Qc XC) : G K M d mc ms uc us pc L (.int y :: .int x :: rest) h Qc XC := fun hK p e R s m args below meth c H locs ls F hS hP hl => lv_icmp_gt F.1 F.2.1 hdg ht (fun q => kt q hK p e R s m args below meth c H locs ls F hS hP hl) (fun q => kf q hK p e R s m args below meth c H locs ls F hS hP hl)
theorem G_if_gt {rest : List Value} {x : Int32} {off : Int} {tgt : Nat} (hdg : decode M.2.1 pc = .ok (.ifCond .gt off, 3)) (ht : (pc : Int) + off = (tgt : Int)) (kt : 0 < x → G K M d mc ms uc us tgt L rest h Qc XC) (kf : ¬ 0 < x → G K M d mc ms uc us (pc + 3) L rest h Qc XC) : G K M d mc ms uc us pc L (.int x :: rest) h Qc XC := fun hK p e R s m args below meth c H locs ls F hS hP hl => lv_if_gt F.1 F.2.1 hdg ht (fun q => kt q hK p e R s m args below meth c H locs ls F hS hP hl) (fun q => kf q hK p e R s m args below meth c H locs ls F hS hP hl)
theorem G_icmp_le {rest : List Value} {x y : Int32} {off : Int} {tgt : Nat} (hdg : decode M.2.1 pc = .ok (.if_icmp .le off, 3)) (ht : (pc : Int) + off = (tgt : Int)) (kt : x ≤ y → G K M d mc ms uc us tgt L rest h Qc XC) (kf : ¬ x ≤ y → G K M d mc ms uc us (pc + 3) L rest h Qc XC) : G K M d mc ms uc us pc L (.int y :: .int x :: rest) h Qc XC := fun hK p e R s m args below meth c H locs ls F hS hP hl => lv_icmp_le F.1 F.2.1 hdg ht (fun q => kt q hK p e R s m args below meth c H locs ls F hS hP hl) (fun q => kf q hK p e R s m args below meth c H locs ls F hS hP hl)
theorem G_if_le {rest : List Value} {x : Int32} {off : Int} {tgt : Nat} (hdg : decode M.2.1 pc = .ok (.ifCond .le off, 3)) (ht : (pc : Int) + off = (tgt : Int)) (kt : x ≤ 0 → G K M d mc ms uc us tgt L rest h Qc XC) (kf : ¬ x ≤ 0 → G K M d mc ms uc us (pc + 3) L rest h Qc XC) : G K M d mc ms uc us pc L (.int x :: rest) h Qc XC := fun hK p e R s m args below meth c H locs ls F hS hP hl => lv_if_le F.1 F.2.1 hdg ht (fun q => kt q hK p e R s m args below meth c H locs ls F hS hP hl) (fun q => kf q hK p e R s m args below meth c H locs ls F hS hP hl)
theorem G_iload_n {rest : List Value} {i : Fin 4} {x : Int32} (hdg : decode M.2.1 pc = .ok (.iload_n i, 1)) (hl0 : gl L i = some (.int x)) (k : G K M d mc ms uc us (pc + 1) L (.int x :: rest) h Qc XC) : G K M d mc ms uc us pc L rest h Qc XC := fun hK p e R s m args below meth c H locs ls F hS hP hl => lv_iload_n F.1 F.2.1 hdg rfl (gl_at hl hl0) (k hK p e R s m args below meth c H locs ls F hS hP hl)
theorem G_iload {rest : List Value} {i : Nat} {x : Int32} (hdg : decode M.2.1 pc = .ok (.iload i, 2)) (hl0 : gl L i = some (.int x)) (k : G K M d mc ms uc us (pc + 2) L (.int x :: rest) h Qc XC) : G K M d mc ms uc us pc L rest h Qc XC := fun hK p e R s m args below meth c H locs ls F hS hP hl => lv_iload F.1 F.2.1 hdg (gl_at hl hl0) (k hK p e R s m args below meth c H locs ls F hS hP hl)
theorem G_lload_n {rest : List Value} {i : Fin 4} {x : Int64} (hdg : decode M.2.1 pc = .ok (.lload_n i, 1)) (hl0 : gl L i = some (.long x)) (k : G K M d mc ms uc us (pc + 1) L (.long x :: rest) h Qc XC) : G K M d mc ms uc us pc L rest h Qc XC := fun hK p e R s m args below meth c H locs ls F hS hP hl => lv_lload_n F.1 F.2.1 hdg rfl (gl_at hl hl0) (k hK p e R s m args below meth c H locs ls F hS hP hl)
theorem G_aload_n {rest : List Value} {i : Fin 4} {x : Nat} (hdg : decode M.2.1 pc = .ok (.aload_n i, 1)) (hl0 : gl L i = some (.ref x)) (k : G K M d mc ms uc us (pc + 1) L (.ref x :: rest) h Qc XC) : G K M d mc ms uc us pc L rest h Qc XC := fun hK p e R s m args below meth c H locs ls F hS hP hl => lv_aload_n F.1 F.2.1 hdg rfl (gl_at hl hl0) (k hK p e R s m args below meth c H locs ls F hS hP hl)
theorem G_aload {rest : List Value} {i : Nat} {x : Nat} (hdg : decode M.2.1 pc = .ok (.aload i, 2)) (hl0 : gl L i = some (.ref x)) (k : G K M d mc ms uc us (pc + 2) L (.ref x :: rest) h Qc XC) : G K M d mc ms uc us pc L rest h Qc XC := fun hK p e R s m args below meth c H locs ls F hS hP hl => lv_aload F.1 F.2.1 hdg (gl_at hl hl0) (k hK p e R s m args below meth c H locs ls F hS hP hl)
theorem G_aloadS {rest : List Value} {i : Fin 4} {x : UInt32} (hdg : decode M.2.1 pc = .ok (.aload_n i, 1)) (hl0 : gl L i = some (.float x)) (k : G K M d mc ms uc us (pc + 1) L (.float x :: rest) h Qc XC) : G K M d mc ms uc us pc L rest h Qc XC := fun hK p e R s m args below meth c H locs ls F hS hP hl => lv_aload_n F.1 F.2.1 hdg rfl (gl_at hl hl0) (k hK p e R s m args below meth c H locs ls F hS hP hl)
theorem G_istore_n {rest : List Value} {i : Fin 4} {x : Int32} (hdg : decode M.2.1 pc = .ok (.istore_n i, 1)) (hi : (i : Nat) < M.2.2.1) (k : G K M d mc ms uc us (pc + 1) (gs L i (.int x)) rest h Qc XC) : G K M d mc ms uc us pc L (.int x :: rest) h Qc XC := fun hK p e R s m args below meth c H locs ls F hS hP hl => lv_istore_n F.1 F.2.1 hdg rfl hl hi (gs_map K L i (.int x)) (fun ls' hl' => k hK p e R s m args below meth c H locs ls' F hS hP hl')
theorem G_istore {rest : List Value} {i : Nat} {x : Int32} (hdg : decode M.2.1 pc = .ok (.istore i, 2)) (hi : (i : Nat) < M.2.2.1) (k : G K M d mc ms uc us (pc + 2) (gs L i (.int x)) rest h Qc XC) : G K M d mc ms uc us pc L (.int x :: rest) h Qc XC := fun hK p e R s m args below meth c H locs ls F hS hP hl => lv_istore F.1 F.2.1 hdg hl hi (gs_map K L i (.int x)) (fun ls' hl' => k hK p e R s m args below meth c H locs ls' F hS hP hl')
theorem G_lstore_n {rest : List Value} {i : Fin 4} {x : Int64} (hdg : decode M.2.1 pc = .ok (.lstore_n i, 1)) (hi : (i : Nat) + 1 < M.2.2.1) (k : G K M d mc ms uc us (pc + 1) (gs2 L i (.long x)) rest h Qc XC) : G K M d mc ms uc us pc L (.long x :: rest) h Qc XC := fun hK p e R s m args below meth c H locs ls F hS hP hl => lv_lstore_n F.1 F.2.1 hdg rfl hl hi (gs2_map K L i (.long x)) (fun ls' hl' => k hK p e R s m args below meth c H locs ls' F hS hP hl')
theorem G_astore_n {rest : List Value} {i : Fin 4} {x : Nat} (hdg : decode M.2.1 pc = .ok (.astore_n i, 1)) (hi : (i : Nat) < M.2.2.1) (k : G K M d mc ms uc us (pc + 1) (gs L i (.ref x)) rest h Qc XC) : G K M d mc ms uc us pc L (.ref x :: rest) h Qc XC := fun hK p e R s m args below meth c H locs ls F hS hP hl => lv_astore_n F.1 F.2.1 hdg rfl hl hi (gs_map K L i (.ref x)) (fun ls' hl' => k hK p e R s m args below meth c H locs ls' F hS hP hl')
theorem G_astore {rest : List Value} {i : Nat} {x : Nat} (hdg : decode M.2.1 pc = .ok (.astore i, 2)) (hi : (i : Nat) < M.2.2.1) (k : G K M d mc ms uc us (pc + 2) (gs L i (.ref x)) rest h Qc XC) : G K M d mc ms uc us pc L (.ref x :: rest) h Qc XC := fun hK p e R s m args below meth c H locs ls F hS hP hl => lv_astore F.1 F.2.1 hdg hl hi (gs_map K L i (.ref x)) (fun ls' hl' => k hK p e R s m args below meth c H locs ls' F hS hP hl')
theorem G_iinc {rest : List Value} {i : Nat} {n : Int} {x v : Int32} (hdg : decode M.2.1 pc = .ok (.iinc i n, 3)) (hl0 : gl L i = some (.int x)) (hv : Int32.ofInt n = v) (hi : i < M.2.2.1) (k : G K M d mc ms uc us (pc + 3) (gs L i (.int (x + v))) rest h Qc XC) : G K M d mc ms uc us pc L rest h Qc XC := by
  intro hK p e R s m args below meth c H locs ls F hS hP hl
  obtain ⟨j, hj⟩ := List.getElem?_of_mem (List.mem_map.mpr ⟨(i, .int x), gl_mem hl0, rfl⟩ : (i, vv K (.int x)) ∈ L.map (vl K))
  exact lv_iinc F.1 F.2.1 hdg hl hj (by rw [hv]) hi (gs_map K L i (.int (x + v))) (fun ls' hl' => k hK p e R s m args below meth c H locs ls' F hS hP hl')
theorem G_ldc {rest : List Value} {idx : Nat} {v : Int32} (hdg : decode M.2.1 pc = .ok (.ldc idx, 2)) (hw : Cond.constant M.1.cls idx v ∈ tbG) (k : G K M d mc ms uc us (pc + 2) L (.int v :: rest) h Qc XC) : G K M d mc ms uc us pc L rest h Qc XC := fun hK p e R s m args below meth c H locs ls F hS hP hl => lv_ldc F.1 F.2.1 F.2.2.2.1 (F.2.2.2.2.1 _ hw) hdg (k hK p e R s m args below meth c H locs ls F hS hP hl)
theorem G_ldcw {rest : List Value} {idx : Nat} {v : Int32} (hdg : decode M.2.1 pc = .ok (.ldc_w idx, 3)) (hw : Cond.constant M.1.cls idx v ∈ tbG) (k : G K M d mc ms uc us (pc + 3) L (.int v :: rest) h Qc XC) : G K M d mc ms uc us pc L rest h Qc XC := fun hK p e R s m args below meth c H locs ls F hS hP hl => lv_ldcw F.1 F.2.1 F.2.2.2.1 (F.2.2.2.2.1 _ hw) hdg (k hK p e R s m args below meth c H locs ls F hS hP hl)
theorem G_ldc2 {rest : List Value} {idx : Nat} {v : Int64} (hdg : decode M.2.1 pc = .ok (.ldc2_w idx, 3)) (hw : Cond.constantLong M.1.cls idx v ∈ tbG) (k : G K M d mc ms uc us (pc + 3) L (.long v :: rest) h Qc XC) : G K M d mc ms uc us pc L rest h Qc XC := fun hK p e R s m args below meth c H locs ls F hS hP hl => lv_ldc2 F.1 F.2.1 F.2.2.2.1 (F.2.2.2.2.1 _ hw) hdg (k hK p e R s m args below meth c H locs ls F hS hP hl)
theorem G_table {rest : List Value} {dflt lo hi : Int} {offs : Array Int} {len : Nat} {x : Int32} {off : Int} {tgt : Nat} (hdg : decode M.2.1 pc = .ok (.tableswitch dflt lo hi offs, len)) (h1 : ¬ x.toInt < lo) (h2 : ¬ hi < x.toInt) (ho : offs[(x.toInt - lo).toNat]? = some off) (ht : (pc : Int) + off = (tgt : Int)) (k : G K M d mc ms uc us tgt L rest h Qc XC) : G K M d mc ms uc us pc L (.int x :: rest) h Qc XC := fun hK p e R s m args below meth c H locs ls F hS hP hl => lv_tableIn F.1 F.2.1 hdg h1 h2 ho ht (k hK p e R s m args below meth c H locs ls F hS hP hl)
end GR
end
section
section GH
variable {K : GK} {M : MD} {d mc ms uc us pc : Nat} {L : List (Nat × Value)} {h : VH} {Qc : Array Value → State → Outcome → State → Prop} {XC : String → State → State → Prop}
theorem fs_at {K : GK} {fs : List Value} {k : Nat} {v : Value} (h : fs[k]? = some v) : (fs.map (vv K))[k]? = some (vv K v) := by
  rw [List.getElem?_map, h]; rfl
/-- a field is read -/
theorem G_get {rest : List Value} {a ci idx N k : Nat} {C : String} {T : u_T} {fs : List Value} {v : Value} (hdg : decode M.2.1 pc = .ok (.getfield idx, 3)) (hc : h.2[a]? = some (.inr (ci, fs))) (hr : gcl[ci]? = some (C, T, N)) (hlink : Cond.fieldLink M.1.cls idx (T k).1 (T k).2.1 (T k).2.2.1 ∈ tbG) (hk : k < N) (hv : fs[k]? = some v)
    (kk : G K M d mc ms uc us (pc + 3) L (v :: rest) h Qc XC) : G K M d mc ms uc us pc L (.ref a :: rest) h Qc XC := fun hK p e R s m args below meth c H locs ls F hS hP hl =>
  va_get F.1 F.2.1 F.2.2.2.2.1 (gcl_ok ci _ hr).1 F.2.2.2.1 F.2.2.2.2.2.2.2.2.2.2.2.2.2.1 hP.1 a (vW_at hc) hr k hk (F.2.2.2.2.1 _ hlink) (fun _ q => q) (fs_at hv) hdg (kk hK p e R s m args below meth c H locs ls F hS hP hl)
theorem G_getN {rest : List Value} {a ci idx N k : Nat} {C host : String} {T : u_T} {fs : List Value} {v : Value} (hdg : decode M.2.1 pc = .ok (.getfield idx, 3)) (hc : h.2[a]? = some (.inr (ci, fs))) (hr : gcl[ci]? = some (C, T, N)) (hlink : Cond.fieldLinkNest M.1.cls idx (T k).1 (T k).2.1 (T k).2.2.1 host ∈ tbN) (hk : k < N) (hv : fs[k]? = some v)
    (kk : G K M d mc ms uc us (pc + 3) L (v :: rest) h Qc XC) : G K M d mc ms uc us pc L (.ref a :: rest) h Qc XC := fun hK p e R s m args below meth c H locs ls F hS hP hl =>
  va_getN F.1 F.2.1 F.2.2.2.2.1 (gcl_ok ci _ hr).1 F.2.2.2.1 F.2.2.2.2.2.2.2.2.2.2.2.2.2.1 hP.1 a (vW_at hc) hr k hk (va_Nw.use rfl (F.2.2.2.2.2.2.2.2.2.2.2.2.1 _ hlink)) (fun _ q => q) (fs_at hv) hdg (kk hK p e R s m args below meth c H locs ls F hS hP hl)
/-- the cells behind a write -/
theorem Ph_set {K : GK} (hK : Kok K) {h : VH} {H H' : Heap} {a : Nat} {e0 e : VE} (hP : Ph K h H) (h0 : h.2[a]? = some e0) (he : va_at (kD K) gcl (kA K a, ve K e) H') (z : H'.size = H.size) (o : ∀ q : Nat, q ≠ kA K a → H'[q]? = H[q]?) : Ph K (h.1, h.2.set a e) H' := by
  refine ⟨?_, fun q j => ?_, by rw [z]; exact hP.2.2⟩
  · rw [vW_set K h.1 h.1 h.2 a e]
    exact va_P.set (h := hP.1) (va_D_vW hK h) (vW_at h0) he o
  · show kA K ((h.2.set a e).length + j) = _
    rw [List.length_set, z]
    exact hP.2.1 q j
theorem Ph_push {K : GK} {h : VH} {H H' : Heap} {e : VE} (hb : h.1 = true) (hP : Ph K h H) (he : va_at (kD K) gcl (H.size, ve K e) H') (z : H'.size = H.size + 1) (o : ∀ q : Nat, q < H.size → H'[q]? = H[q]?) : Ph K (true, h.2 ++ [e]) H' := by
  have e0 : kA K h.2.length = H.size := hP.2.1 hb 0
  refine ⟨?_, fun _ j => ?_, by rw [z]; exact Nat.le_succ_of_le hP.2.2⟩
  · rw [vW_push K true h.1 h.2 e]
    refine va_P.app (hP.1.kept fun k q hq => o q.1 ((hP.1 k q hq).lt)) ?_
    intro k q hk
    have hz : k < 1 := (List.getElem?_eq_some_iff.mp hk).1
    rw [show k = 0 by omega] at hk
    cases hk
    show va_at (kD K) gcl (kA K h.2.length, ve K e) H'
    rw [e0]
    exact he
  · show kA K ((h.2 ++ [e]).length + j) = _
    rw [List.length_append, z, List.length_singleton, Nat.add_assoc, Nat.add_assoc]
    exact hP.2.1 hb (1 + j)
theorem obj_set {K : GK} {H' : Heap} {a ci k N : Nat} {C : String} {T : u_T} {fs : List Value} {v : Value} {cell' : Cell} (hc : gcl[ci]? = some (C, T, N)) (hl : k < fs.length) (e1 : H'[kA K a]? = some cell') (q2 : cell'.cls = (kD K).1 ci) (q3 : cell'.vm = .none) (ht : ∀ j, j < N → cell'.slots[(kD K).2 ci j]? = some (updV (vp_V (fs.map (vv K))) k (vv K v) j)) :
    va_at (kD K) gcl (kA K a, ve K (.inr (ci, fs.set k v))) H' := by
  refine ⟨(C, T, N), hc, t_OB.to (V := updV (vp_V (fs.map (vv K))) k (vv K v)) ⟨cell', e1, q2, q3, ht⟩ (fun j _ => ?_)⟩
  show _ = vp_V ((fs.set k v).map (vv K)) j
  rw [List.map_set]
  exact vp_updV_set (by rw [List.length_map]; exact hl) (vv K v) j
theorem G_put {rest : List Value} {a ci idx N k : Nat} {C : String} {T : u_T} {fs : List Value} {v : Value} (hdg : decode M.2.1 pc = .ok (.putfield idx, 3)) (h0 : h.2[a]? = some (.inr (ci, fs))) (hc : gcl[ci]? = some (C, T, N)) (hlink : Cond.fieldLink M.1.cls idx (T k).1 (T k).2.1 (T k).2.2.1 ∈ tbG) (hk : k < N) (hfin : (T k).2.2.2 = false) (hn : narrow (gty ci k) (vv K v) = vv K v) (hfit : fits (gty ci k) (vv K v) = true) (hl0 : k < fs.length)
    (kk : G K M d mc ms uc us (pc + 3) L rest (h.1, h.2.set a (.inr (ci, fs.set k v))) Qc XC) : G K M d mc ms uc us pc L (v :: .ref a :: rest) h Qc XC := by
  intro hK p e R s m args below meth c H locs ls F hS hP hl
  have hKa := F.2.2.2.2.2.2.2.2.2.2.2.2.2.1
  have hap := va_apart (own := M.1.cls) F.2.2.2.2.1 (gcl_ok ci _ hc).1 (gty ci) (gcl_ok ci _ hc).2.1 (gcl_ok ci _ hc).2.2 hKa hc
  obtain ⟨r, h1, cell, q1, q2, q3, q4⟩ := hP.1 a _ (vW_at h0)
  have hr : r = (C, T, N) := Option.some.inj (h1.symm.trans hc)
  subst hr
  obtain ⟨hSl, hfc, kC9, hkC, hkind⟩ := hKa.1 ci _ hc
  obtain ⟨cf, kf, fi, f, hi, hsl⟩ := hSl k hk
  have hlay := F.2.2.2.2.1 _ ((gcl_ok ci _ hc).1 _ (u_in_lay hk))
  unfold u_lay at hlay
  rw [if_neg (by rw [hfin]; decide)] at hlay
  have hst := (u_facts hfc hkC (u_lays F.2.2.2.2.1 (gcl_ok ci _ hc).1 hk) hi).1
  have h6 := u_store hfc hkC hkind hlay hi ((gcl_ok ci _ hc).2.1 k hk) hn hfit
  refine W.putK F.1 F.2.1 (f := f) ⟨F.2.2.2.1, F.2.2.2.2.1 _ hlink, ⟨_, _, _, hi⟩, hst⟩ (by rw [q2]; exact h6) q1 q3 (by rw [hsl]; exact k2_hasslot (q4 k hk)) rfl rfl hdg fun H' e1 e2 e3 => ?_
  rw [hsl] at e1 ⊢
  exact kk hK p e R s m args below meth c H' _ ls F (hS.put e2 e3 (hK.2.1 a)) (Ph_set hK hP h0 (obj_set hc hl0 e1 q2 q3 (t_set q4 hap hk (vv K v))) e2 e3) hl
theorem G_putN {rest : List Value} {a ci idx N k : Nat} {C host : String} {T : u_T} {fs : List Value} {v : Value} (hdg : decode M.2.1 pc = .ok (.putfield idx, 3)) (h0 : h.2[a]? = some (.inr (ci, fs))) (hc : gcl[ci]? = some (C, T, N)) (hlink : Cond.fieldLinkNest M.1.cls idx (T k).1 (T k).2.1 (T k).2.2.1 host ∈ tbN) (hk : k < N) (hfin : (T k).2.2.2 = false) (hn : narrow (gty ci k) (vv K v) = vv K v) (hfit : fits (gty ci k) (vv K v) = true) (hl0 : k < fs.length)
    (kk : G K M d mc ms uc us (pc + 3) L rest (h.1, h.2.set a (.inr (ci, fs.set k v))) Qc XC) : G K M d mc ms uc us pc L (v :: .ref a :: rest) h Qc XC := by
  intro hK p e R s m args below meth c H locs ls F hS hP hl
  have hKa := F.2.2.2.2.2.2.2.2.2.2.2.2.2.1
  have hap := va_apart (own := M.1.cls) F.2.2.2.2.1 (gcl_ok ci _ hc).1 (gty ci) (gcl_ok ci _ hc).2.1 (gcl_ok ci _ hc).2.2 hKa hc
  obtain ⟨r, h1, cell, q1, q2, q3, q4⟩ := hP.1 a _ (vW_at h0)
  have hr : r = (C, T, N) := Option.some.inj (h1.symm.trans hc)
  subst hr
  obtain ⟨hSl, hfc, kC9, hkC, hkind⟩ := hKa.1 ci _ hc
  obtain ⟨cf, kf, fi, f, hi, hsl⟩ := hSl k hk
  have hlay := F.2.2.2.2.1 _ ((gcl_ok ci _ hc).1 _ (u_in_lay hk))
  unfold u_lay at hlay
  rw [if_neg (by rw [hfin]; decide)] at hlay
  have hst := (u_facts hfc hkC (u_lays F.2.2.2.2.1 (gcl_ok ci _ hc).1 hk) hi).1
  have h6 := u_store hfc hkC hkind hlay hi ((gcl_ok ci _ hc).2.1 k hk) hn hfit
  refine va_WputK F.1 F.2.1 (f := f) F.2.2.2.1 (va_Nw.use rfl (F.2.2.2.2.2.2.2.2.2.2.2.2.1 _ hlink)) hi hst (by rw [q2]; exact h6) q1 q3 (by rw [hsl]; exact k2_hasslot (q4 k hk)) rfl rfl hdg fun H' e1 e2 e3 => ?_
  rw [hsl] at e1 ⊢
  exact kk hK p e R s m args below meth c H' _ ls F (hS.put e2 e3 (hK.2.1 a)) (Ph_set hK hP h0 (obj_set hc hl0 e1 q2 q3 (t_set q4 hap hk (vv K v))) e2 e3) hl
/-- a final field, in the constructor -/
theorem G_putF {rest : List Value} {a ci idx N k : Nat} {C : String} {T : u_T} {fs : List Value} {v : Value} (hdg : decode M.2.1 pc = .ok (.putfield idx, 3)) (h0 : h.2[a]? = some (.inr (ci, fs))) (hc : gcl[ci]? = some (C, T, N)) (hlink : Cond.fieldLink M.1.cls idx (T k).1 (T k).2.1 (T k).2.2.1 ∈ tbG) (hk : k < N) (hfin : (T k).2.2.2 = true) (hin2 : M.1.name = "<init>") (hdecl : (T k).1 = M.1.cls) (hn : narrow (gty ci k) (vv K v) = vv K v) (hfit : fits (gty ci k) (vv K v) = true) (hl0 : k < fs.length)
    (kk : G K M d mc ms uc us (pc + 3) L rest (h.1, h.2.set a (.inr (ci, fs.set k v))) Qc XC) : G K M d mc ms uc us pc L (v :: .ref a :: rest) h Qc XC := by
  intro hK p e R s m args below meth c H locs ls F hS hP hl
  have hKa := F.2.2.2.2.2.2.2.2.2.2.2.2.2.1
  have hap := va_apart (own := M.1.cls) F.2.2.2.2.1 (gcl_ok ci _ hc).1 (gty ci) (gcl_ok ci _ hc).2.1 (gcl_ok ci _ hc).2.2 hKa hc
  obtain ⟨r, h1, cell, q1, q2, q3, q4⟩ := hP.1 a _ (vW_at h0)
  have hr : r = (C, T, N) := Option.some.inj (h1.symm.trans hc)
  subst hr
  obtain ⟨hSl, hfc, kC9, hkC, hkind⟩ := hKa.1 ci _ hc
  obtain ⟨cf, kf, fi, f, hi, hsl⟩ := hSl k hk
  have hlay := F.2.2.2.2.1 _ ((gcl_ok ci _ hc).1 _ (u_in_lay hk))
  unfold u_lay at hlay
  rw [if_pos hfin] at hlay
  have hst := (u_facts hfc hkC (u_lays F.2.2.2.2.1 (gcl_ok ci _ hc).1 hk) hi).1
  have hcf : m.cls = cf := by
    obtain ⟨_, _, c', _, _, _, -, -, hf', -, -, -, hown2, -⟩ := Cond.laysFinal_spec hlay
    have e1 : c' = cf := by have := hi.symm.trans hf'; simp at this; exact this.1.symm
    rw [hdecl] at hown2
    rw [← e1]; exact Option.some.inj (F.2.2.2.1.symm.trans hown2)
  have h6 := u_fits hfc hkC hkind (Or.inr hlay) hi ((gcl_ok ci _ hc).2.1 k hk) hn hfit
  refine W.putFinK F.1 F.2.1 F.2.2.2.1 (F.2.2.2.2.1 _ hlink) hi hst hcf (F.2.2.2.2.2.2.2.1.trans hin2) (by rw [q2]; exact h6) q1 q3 (by rw [hsl]; exact k2_hasslot (q4 k hk)) rfl rfl hdg fun H' e1 e2 e3 => ?_
  rw [hsl] at e1 ⊢
  exact kk hK p e R s m args below meth c H' _ ls F (hS.put e2 e3 (hK.2.1 a)) (Ph_set hK hP h0 (obj_set hc hl0 e1 q2 q3 (t_set q4 hap hk (vv K v))) e2 e3) hl
/-- an int array's element -/
theorem G_iald {rest : List Value} {a n : Nat} {f : Nat → Int32} {i : Int32} (hdg : decode M.2.1 pc = .ok (.iaload, 1)) (h0 : h.2[a]? = some (.inl (0, n, .inl f))) (hin : vp_in i n)
    (kk : G K M d mc ms uc us (pc + 1) L (.int (f i.toNatClampNeg) :: rest) h Qc XC) : G K M d mc ms uc us pc L (.int i :: .ref a :: rest) h Qc XC := fun hK p e R s m args below meth c H locs ls F hS hP hl =>
  va_iald F.1 F.2.1 F.2.2.2.2.2.2.2.2.2.2.2.2.2.1 hP.1 a 0 (vW_at h0) (ktys_at rfl) hin hdg (kk hK p e R s m args below meth c H locs ls F hS hP hl)
theorem G_iast {rest : List Value} {a n : Nat} {f : Nat → Int32} {i x : Int32} (hdg : decode M.2.1 pc = .ok (.iastore, 1)) (h0 : h.2[a]? = some (.inl (0, n, .inl f))) (hin : vp_in i n)
    (kk : G K M d mc ms uc us (pc + 1) L rest (h.1, h.2.set a (.inl (0, n, .inl (upd f i.toNatClampNeg x)))) Qc XC) : G K M d mc ms uc us pc L (.int x :: .int i :: .ref a :: rest) h Qc XC := by
  intro hK p e R s m args below meth c H locs ls F hS hP hl
  have hKa := F.2.2.2.2.2.2.2.2.2.2.2.2.2.1
  refine W.iast F.1 F.2.1 (hP.1 a _ (vW_at h0)) ((hKa.2 0 _ (ktys_at rfl)).1 n (fun j => .int (f j))) (fun q => by cases q) (by show ¬ (i < 0 ∨ (arrV _ _ _).slots.size ≤ _); rw [arrV_size]; exact hin) rfl rfl hdg fun H1 e1 z oq => ?_
  refine kk hK p e R s m args below meth c H1 _ ls F (hS.put z oq (hK.2.1 a)) (Ph_set hK hP h0 ?_ z oq) hl
  show H1[kA K a]? = some (vp_cell _ _)
  rw [e1]
  show _ = some (vp_cell (kC K 0) (n, .inl (upd f i.toNatClampNeg x)))
  rw [show vp_cell (kC K 0) (va2 K (n, .inl f)) = vp_cell (kC K 0) (n, .inl f) from rfl, vp_cell_i, vp_cell_i, arrV_store]
  congr 2
  funext q
  by_cases hq : q = i.toNatClampNeg
  · subst hq
    simp [updV, upd]
  · simp [updV, upd, hq]
theorem G_alen {rest : List Value} {a t n : Nat} {y : (Nat → Int32) ⊕ (Nat → Int64) ⊕ (Nat → UInt32) ⊕ (Nat → UInt64) ⊕ (Nat → Option Nat)} {ty : FieldType} (hdg : decode M.2.1 pc = .ok (.arraylength, 1)) (h0 : h.2[a]? = some (.inl (t, n, y))) (ht : gtys[t]? = some ty)
    (kk : G K M d mc ms uc us (pc + 1) L (.int (nI n) :: rest) h Qc XC) : G K M d mc ms uc us pc L (.ref a :: rest) h Qc XC := fun hK p e R s m args below meth c H locs ls F hS hP hl =>
  va_alen F.1 F.2.1 F.2.2.2.2.2.2.2.2.2.2.2.2.2.1 hP.1 a t (vW_at h0) (ktys_at ht) (v := nI n) (by rcases y with f | f | f | f | f <;> rfl) hdg (kk hK p e R s m args below meth c H locs ls F hS hP hl)
/-- the script -/
theorem G_slen {rest : List Value} {z : UInt32} (hdg : decode M.2.1 pc = .ok (.arraylength, 1))
    (kk : G K M d mc ms uc us (pc + 1) L (.int (Int32.ofNat (kS K).2.1) :: rest) h Qc XC) : G K M d mc ms uc us pc L (.float z :: rest) h Qc XC := fun hK p e R s m args below meth c H locs ls F hS hP hl =>
  va_slen F.1 F.2.1 F.2.2.2.2.2.2.2.2.2.2.2.2.2.2.2.2 (Nat.lt_of_lt_of_le hK.2.2.2.1 F.2.2.2.2.2.2.2.2.2.2.2.2.2.2.1) (Nat.not_le.mpr hK.2.2.2.1) hS hdg (kk hK p e R s m args below meth c H locs ls F hS hP hl)
theorem G_sld {rest : List Value} {z : UInt32} {i : Int32} (hdg : decode M.2.1 pc = .ok (.iaload, 1)) (hin : vp_in i (kS K).2.1)
    (kk : G K M d mc ms uc us (pc + 1) L (.int ((kS K).2.2 i.toNatClampNeg) :: rest) h Qc XC) : G K M d mc ms uc us pc L (.int i :: .float z :: rest) h Qc XC := fun hK p e R s m args below meth c H locs ls F hS hP hl =>
  va_sld F.1 F.2.1 F.2.2.2.2.2.2.2.2.2.2.2.2.2.2.2.2 (Nat.lt_of_lt_of_le hK.2.2.2.1 F.2.2.2.2.2.2.2.2.2.2.2.2.2.2.1) (Nat.not_le.mpr hK.2.2.2.1) hS hin hdg (kk hK p e R s m args below meth c H locs ls F hS hP hl)
/-- an element of an array of references -/
theorem G_aald {rest : List Value} {a n : Nat} {f : Nat → Option Nat} {i : Int32} (hdg : decode M.2.1 pc = .ok (.aaload, 1)) (h0 : h.2[a]? = some (.inl (1, n, .inr (.inr (.inr (.inr f)))))) (hin : vp_in i n)
    (kk : G K M d mc ms uc us (pc + 1) L (va_rf (f i.toNatClampNeg) :: rest) h Qc XC) : G K M d mc ms uc us pc L (.int i :: .ref a :: rest) h Qc XC := fun hK p e R s m args below meth c H locs ls F hS hP hl =>
  va_aldq F.1 F.2.1 F.2.2.2.2.2.2.2.2.2.2.2.2.2.1 hP.1 a 1 (vW_at h0) (ktys_at rfl) hin hdg (by
    have q := kk hK p e R s m args below meth c H locs ls F hS hP hl
    rw [show va_rf ((f i.toNatClampNeg).map (kA K)) = vv K (va_rf (f i.toNatClampNeg)) by cases f i.toNatClampNeg <;> rfl]
    exact q)
end GH
end
section
section GN
variable {K : GK} {M : MD} {d mc ms uc us pc : Nat} {L : List (Nat × Value)} {h : VH} {Qc : Array Value → State → Outcome → State → Prop} {XC : String → State → State → Prop}
/-- a new object: the next cell -/
theorem G_new {rest : List Value} {ci idx N : Nat} {C : String} {T : u_T} {fs : List Value} (hdg : decode M.2.1 pc = .ok (.new idx, 3)) (hb : h.1 = true) (hc : gcl[ci]? = some (C, T, N)) (hlink : Cond.classLink M.1.cls idx C ∈ tbG) (hinst : Cond.instantiable C N ∈ tbG) (hini : Cond.initialized C ∈ tbG) (hfs : ∀ j, j < N → defaultValue (gty ci j) = vp_V (fs.map (vv K)) j) (hcs : uc + 1 ≤ mc ∧ us + N ≤ ms)
    (kk : G K M d mc ms (uc + 1) (us + N) (pc + 3) L (.ref h.2.length :: rest) (true, h.2 ++ [.inr (ci, fs)]) Qc XC) : G K M d mc ms uc us pc L rest h Qc XC := by
  intro hK p e R s m args below meth c H locs ls F hS hP hl
  have hKa := F.2.2.2.2.2.2.2.2.2.2.2.2.2.1
  have hKn := hKa.1 ci _ hc
  refine W.newcK F.1 F.2.1 F.2.2.2.1 (F.2.2.2.2.1 _ hlink) (F.2.2.2.2.1 _ hinst) (F.2.2.2.2.1 _ hini) rfl hdg (Nat.le_trans hcs.1 F.2.2.2.2.2.2.2.2.2.2.1) (Nat.le_trans hcs.2 F.2.2.2.2.2.2.2.2.2.2.2.1) hKn.2.1 rfl fun H1 kC9 hkC e1 z1 o1 => ?_
  have e0 : kA K h.2.length = H.size := hP.2.1 hb 0
  have hS1 : va_S (kF K) s.heap H1 locs := ⟨Nat.le_trans hS.1 (by omega), fun x h1 h2 => (o1 x (Nat.lt_of_lt_of_le h1 hS.1)).trans (hS.2.1 x h1 h2), hS.2.2⟩
  have q := kk hK p e R s m args below meth c H1 locs ls F hS1 (Ph_push hb hP (e := .inr (ci, fs)) ⟨_, hc, (u_born (gty ci) F.2.2.2.2.1 (gcl_ok ci _ hc).1 hKn hkC e1 (gcl_ok ci _ hc).2.1).to hfs⟩ z1 o1) hl
  rw [← e0]
  exact q
theorem G_newa {rest : List Value} {n : Int32} {N : Nat} (hdg : decode M.2.1 pc = .ok (.newarray .int, 2)) (hb : h.1 = true) (harr : Cond.arrayClass FieldType.int ∈ tbG) (hn : ¬ n < 0) (hN : n.toNatClampNeg = N) (hbytes : N * 4 ≤ 536870912) (hcs : uc + 1 ≤ mc ∧ us + N ≤ ms)
    (kk : G K M d mc ms (uc + 1) (us + N) (pc + 2) L (.ref h.2.length :: rest) (true, h.2 ++ [.inl (0, N, .inl (fun _ => 0))]) Qc XC) : G K M d mc ms uc us pc L (.int n :: rest) h Qc XC := by
  intro hK p e R s m args below meth c H locs ls F hS hP hl
  have hKa := F.2.2.2.2.2.2.2.2.2.2.2.2.2.1
  refine va_newaK (atype := .int) F.1 F.2.1 (F.2.2.2.2.1 _ harr) rfl hdg rfl hn hN hbytes (Nat.le_trans hcs.1 F.2.2.2.2.2.2.2.2.2.2.1) (Nat.le_trans hcs.2 F.2.2.2.2.2.2.2.2.2.2.2.1) rfl fun H1 cA e1 z1 o1 hAr hNm => ?_
  have e0 : kA K h.2.length = H.size := hP.2.1 hb 0
  have ec : cA = kC K 0 := Option.some.inj (hNm.symm.trans (hKa.2 0 _ (ktys_at rfl)).2)
  have hS1 : va_S (kF K) s.heap H1 locs := ⟨Nat.le_trans hS.1 (by omega), fun x h1 h2 => (o1 x (Nat.lt_of_lt_of_le h1 hS.1)).trans (hS.2.1 x h1 h2), hS.2.2⟩
  have q := kk hK p e R s m args below meth c H1 locs ls F hS1 (Ph_push hb hP (e := .inl (0, N, .inl (fun _ => 0))) (by
    show H1[H.size]? = some (vp_cell (kC K 0) (N, .inl (fun _ => 0)))
    rw [e1, vp_cell_i, ec]; rfl) z1 o1) hl
  rw [← e0]
  exact q
/-- Object's constructor -/
theorem G_objInit {rest : List Value} {a idx : Nat} (hdg : decode M.2.1 pc = .ok (.invokespecial idx, 3)) (hlink : Cond.methodLink M.1.cls idx objectInit ∈ tbG) (hinst : Cond.instanceMethod objectInit ∈ tbG) (hcode : Cond.code objectInit ⟨#[0xb1]⟩ 1 none ∈ tbG) (hd : 1 ≤ d) (hw : (rest.map fun v => v.category).sum ≤ 8)
    (kk : G K M d mc ms uc us (pc + 3) L rest h Qc XC) : G K M d mc ms uc us pc L (.ref a :: rest) h Qc XC := by
  intro hK p e R s m args below meth c H locs ls F hS hP hl
  have hR := F.2.2.2.2.2.2.2.2.1
  have hRl := F.2.2.2.2.2.2.2.2.2.1
  refine W.objInit F.1 F.2.1 F.2.2.2.1 (F.2.2.2.2.1 _ hlink) (F.2.2.2.2.1 _ hinst) (F.2.2.2.2.1 _ hcode) (g := F0 m pc ls _) rfl (by rw [F.2.2.1]; exact hl.1) rfl hdg (by omega) ?_ ?_
  · have h8 : ((rest.map (vv K)).map fun v => v.category).sum ≤ 8 := by rw [vv_sum]; exact hw
    have hm : 2 * (F0 m pc ls ((Value.ref a :: rest).map (vv K))).monitorRoom + ((rest.map (vv K)).map fun v => v.category).sum ≤ 8 := lv_room h8
    omega
  · exact W.eq rfl (kk hK p e R s m args below meth c H locs ls F hS hP hl)
theorem G_max {rest : List Value} {idx : Nat} {x y : Int32} (hdg : decode M.2.1 pc = .ok (.invokestatic idx, 3)) (hlink : Cond.methodLink M.1.cls idx Lib.Math.max.name ∈ tbG) (hd : 1 ≤ d) (hcs : uc ≤ mc ∧ us ≤ ms) (hw : (rest.map fun v => v.category).sum ≤ 8)
    (kk : G K M d mc ms uc us (pc + 3) L (.int (if x < y then y else x) :: rest) h Qc XC) : G K M d mc ms uc us pc L (.int y :: .int x :: rest) h Qc XC := by
  intro hK p e R s m args below meth c H locs ls F hS hP hl
  have hR := F.2.2.2.2.2.2.2.2.1
  have hRl := F.2.2.2.2.2.2.2.2.2.1
  exact va_mmax F.1 F.2.1 (by rw [F.2.2.1]; exact hl.1.symm) F.2.2.2.1 (F.2.2.2.2.1 _ hlink) (F.2.2.2.2.1 _ wst_J9_max_7cf53) (F.2.2.2.2.1 _ wii_J9) (F.2.2.2.2.1 _ wco_J9_max_7cf53) (by omega) (by rw [vv_sum]; omega) (Nat.le_trans hcs.1 F.2.2.2.2.2.2.2.2.2.2.1) (Nat.le_trans hcs.2 F.2.2.2.2.2.2.2.2.2.2.2.1) hdg (kk hK p e R s m args below meth c H locs ls F hS hP hl)
theorem G_min {rest : List Value} {idx : Nat} {x y : Int32} (hdg : decode M.2.1 pc = .ok (.invokestatic idx, 3)) (hlink : Cond.methodLink M.1.cls idx Lib.Math.min.name ∈ tbG) (hd : 1 ≤ d) (hcs : uc ≤ mc ∧ us ≤ ms) (hw : (rest.map fun v => v.category).sum ≤ 8)
    (kk : G K M d mc ms uc us (pc + 3) L (.int (if y < x then y else x) :: rest) h Qc XC) : G K M d mc ms uc us pc L (.int y :: .int x :: rest) h Qc XC := by
  intro hK p e R s m args below meth c H locs ls F hS hP hl
  have hR := F.2.2.2.2.2.2.2.2.1
  have hRl := F.2.2.2.2.2.2.2.2.2.1
  exact va_mmin F.1 F.2.1 (by rw [F.2.2.1]; exact hl.1.symm) F.2.2.2.1 (F.2.2.2.2.1 _ hlink) (F.2.2.2.2.1 _ wst_J9_min_7cf53) (F.2.2.2.2.1 _ wii_J9) (F.2.2.2.2.1 _ wco_J9_min_7cf53) (by omega) (by rw [vv_sum]; omega) (Nat.le_trans hcs.1 F.2.2.2.2.2.2.2.2.2.2.1) (Nat.le_trans hcs.2 F.2.2.2.2.2.2.2.2.2.2.2.1) hdg (kk hK p e R s m args below meth c H locs ls F hS hP hl)
/-! calls -/
/-- the facts of a method that is called: its words, how many arguments -/
def CV (M : MD) (n : Nat) : Prop := Cond.instanceMethod M.1 ∈ tbG ∧ Cond.selects M.1.cls M.1 M.1 ∈ tbG ∧ Cond.initialized M.1.cls ∈ tbG ∧ Cond.code M.1 M.2.1 M.2.2.1 M.2.2.2 ∈ tbG ∧ (M.1.cls ≠ "java/lang/invoke/MethodHandle" ∧ M.1.cls ≠ "java/lang/invoke/VarHandle" ∧ (parseMethodDescriptor M.1.desc).map (fun d => d.parameters.length) = some n) ∧ M.2.2.1 ≤ 45
def CT (M : MD) (n : Nat) : Prop := Cond.static M.1 ∈ tbG ∧ Cond.initialized M.1.cls ∈ tbG ∧ Cond.code M.1 M.2.1 M.2.2.1 M.2.2.2 ∈ tbG ∧ (M.1.cls ≠ "java/lang/invoke/MethodHandle" ∧ M.1.cls ≠ "java/lang/invoke/VarHandle" ∧ (parseMethodDescriptor M.1.desc).map (fun d => d.parameters.length) = some n) ∧ M.2.2.1 ≤ 45
def CI (M : MD) (n : Nat) : Prop := M.1.name = "<init>" ∧ M.2.2.2 = none ∧ Cond.instanceMethod M.1 ∈ tbG ∧ Cond.initialized M.1.cls ∈ tbG ∧ Cond.code M.1 M.2.1 M.2.2.1 M.2.2.2 ∈ tbG ∧ (M.1.cls ≠ "java/lang/invoke/MethodHandle" ∧ M.1.cls ≠ "java/lang/invoke/VarHandle" ∧ (parseMethodDescriptor M.1.desc).map (fun d => d.parameters.length) = some n) ∧ M.2.2.1 ≤ 45
theorem Kst_call {K : GK} (hK : Kok K) {s U : State} {H : Heap} {locs : List Loc} (h : Kst K s) (hS : va_S (kF K) s.heap H locs) (hU : U.heap = H) (hW : s.WarmedH U.vm) : Kst K U := by
  have hk : ∀ q : Nat, q < s.heap.size → ¬ kB K ≤ q → U.heap[q]? = s.heap[q]? := fun q h1 h2 => by rw [hU]; exact hS.2.1 q h1 h2
  have hz : s.heap.size ≤ U.heap.size := by rw [hU]; exact hS.1
  refine ⟨fun w hw => ?_, h.2.1.moved hW.alike, Nat.le_trans h.2.2.1 hz, hK.2.2.2.2.2 s U hW hz hk h.2.2.2.1, ?_⟩
  · have h1 := h.1 w hw
    have h2 := (List.mem_filter.mp hw).2
    cases w <;> first | exact va_Nw.warmF hW h1 | exact va_Nw.warmM hW h1 | exact va_Nw.warmC hW h1 | (exact absurd h2 (by decide)) | (cases h2)
  · refine va_X.kept (va_X.moved hW.alike h.2.2.2.2) (hk _ (Nat.lt_of_lt_of_le hK.2.2.2.1 h.2.2.1) (Nat.not_le.mpr hK.2.2.2.1))
theorem Kst_blind {K : GK} (hK : Kok K) {U : State} {g : JFrame} {mk : MethodId} {a : Array Value} (h : Kst K U) : Kst K (U.calling g mk a) :=
  Kst_call hK (H := U.heap) (locs := []) h va_S.rf rfl (State.WarmedH.refl U)
theorem blind {K : GK} (hK : Kok K) {as : List Value} {h : VH} : FrameBlind (Pc0 K as h) := fun _ _ _ _ q => ⟨q.1, q.2.1, Kst_blind hK q.2.2⟩
theorem gi_tbG : GoodIn tbG tbG := tb_good (fun _ h => h)
theorem code_in {w : Cond} (h : w ∈ tbG) : GoodIn tbG (w :: tbG) := tb_good (fun z hz => by rcases List.mem_cons.mp hz with e | e; exact e ▸ h; exact e)
/-- what comes back from a call -/
theorem G_back {p : Program} {e : Env} {R : Room} {s : State} {m : MethodId} {args a : Array Value} {below : List Frame} {meth : Method} {c : Code} {H : Heap} {locs : List Loc} {ls : Array Slot} {st0 : List Value} {rest : List Value} {mc' ms' : Nat} {P : Option Value → VH → Prop} {X : String → VH → Prop}
    (hK : Kok K) (hr : vx_Run p (kL K) e R s m args below meth c H locs uc us mc' ms' (F0 m pc ls st0) (rest.map (vv K)) (QcP K P a) (XcP K X) (kF K)) (F : Fr K M d mc ms p R s m args meth c) (hS : va_S (kF K) s.heap H locs) (hl : lv_has ls M.2.2.1 (L.map (vl K)))
    (kk : ∀ v u, P v u → G K M d mc ms (uc + mc') (us + ms') (pc + 3) L (v.toList ++ rest) u Qc XC) (kx : ∀ E u, X E u → GX K M d mc ms (uc + mc') (us + ms') pc L rest u E Qc XC) :
    W p (kL K) e R s m args below meth c H locs uc us (vx_MQ below Qc XC args s mc ms (kF K)) (F0 m pc ls st0) := by
  intro T hT X9
  rcases hr T hT X9 with ⟨v, st₀, t, T', Lc, h0, X', hLc, e1, e2, ⟨⟨v', u, hv, hp, hu⟩, hF⟩, st⟩ | ⟨q, st₀, t, T', Lc, E, ce, h0, X', hLc, e1, e2, ⟨⟨u, hx, hu⟩, hF⟩, hce, hcv, hcl, st⟩
  · cases hv
    obtain ⟨-, -, k3⟩ := vx_keep h0 e1 hS (fun _ _ h => h) (fun _ h => h) hLc hF
    obtain ⟨t2, a1, b1⟩ := kk v' u hp hK p e R s m args below meth c T'.heap (locs ++ Lc) ls F k3 (by rw [e1]; exact hu) hl T' rfl X'
    refine ⟨t2, st t2 ?_, b1⟩
    rw [show (v'.map (vv K)).toList ++ rest.map (vv K) = (v'.toList ++ rest).map (vv K) by cases v' <;> rfl]
    exact a1
  · obtain ⟨-, -, k3⟩ := vx_keep h0 e1 hS (fun _ _ h => h) (fun _ h => h) hLc hF
    obtain ⟨t2, a1, b1⟩ := kx E u hx hK p e R s m args below meth c T'.heap (locs ++ Lc) ls q ce F k3 (by rw [e1]; exact hu) hl (by rw [e1]; exact hce) hcv hcl T' rfl X'
    exact ⟨t2, st.trans a1, b1⟩
theorem G_callV {M' : MD} {n d' mc' ms' a ci idx : Nat} {r : vw_C} {fs As rest st : List Value} {P : Option Value → VH → Prop} {X : String → VH → Prop} (hdg : decode M.2.1 pc = .ok (.invokevirtual idx, 3)) (hcv : CV M' n) (hlink : Cond.methodLink M.1.cls idx M'.1 ∈ tbG) (hSp : Sp K M' d' mc' ms' (.ref a :: As) h P X) (hst : st = As.reverse ++ .ref a :: rest)
    (hc : h.2[a]? = some (.inr (ci, fs))) (hr : gcl[ci]? = some r) (hrc : r.1 = M'.1.cls) (hn : As.length = n) (hd : d' + 1 ≤ d) (hcs : uc + mc' ≤ mc ∧ us + ms' ≤ ms) (hw : (rest.map fun v => v.category).sum ≤ 8)
    (kk : ∀ v u, P v u → G K M d mc ms (uc + mc') (us + ms') (pc + 3) L (v.toList ++ rest) u Qc XC) (kx : ∀ E u, X E u → GX K M d mc ms (uc + mc') (us + ms') pc L rest u E Qc XC) : G K M d mc ms uc us pc L st h Qc XC := by
  intro hK p e R s m args below meth c H locs ls F hS hP hl
  subst hst
  obtain ⟨hci, hcsl, hcin, hcco, hcd, hcm⟩ := hcv
  have hR := F.2.2.2.2.2.2.2.2.1
  have hRl := F.2.2.2.2.2.2.2.2.2.1
  have hRc := F.2.2.2.2.2.2.2.2.2.2.1
  have hRs := F.2.2.2.2.2.2.2.2.2.2.2.1
  have hKs := F.2.2.2.2.2.2.2.2.2.2.2.2
  have hts := F.2.2.2.2.1
  have hB : CallB R s args M.1.cls idx M'.1 M'.2.1 M'.2.2.1 M'.2.2.2 (Cond.code M'.1 M'.2.1 M'.2.2.1 M'.2.2.2 :: tbG) (Rm d' mc' ms') mc' ms' n :=
    callB_of n hts (code_in hcco) rfl rfl rfl (hts _ hcin) (hts _ hlink) hcd ⟨Nat.le_trans hd hR, by show 8 + (M'.2.2.1 + 11) + (64 * d' + 40) ≤ R.locals; omega⟩
  obtain ⟨cellB, hB1, hB2, hB3⟩ := va_recv hKs.2.1 hP.1 hr (vW_at hc)
  have hrun := vx_runV (l := kL K) (e := e) (below := below) (meth := meth) (locs := locs) (As := As.map (vv K)) (rest := rest.map (vv K)) (b := kA K a) (C := M'.1.cls) (g := F0 m pc ls _) ⟨F.1, F.2.1, F.2.2.1, F.2.2.2.1, hts⟩ (hSp hK) ⟨hB, hts _ hci, hts _ hcsl⟩
    ⟨blind hK, ⟨cellB, hB1, hB2, by rw [← hrc]; exact hB3⟩, fun U hU hW => ⟨rfl, by rw [hU]; exact hP, Kst_call hK hKs hS hU hW⟩⟩ rfl ((List.length_map _).trans hn) hl.1 rfl (lv_room (by rw [vv_sum]; exact hw)) hdg ⟨Nat.le_trans hcs.1 hRc, Nat.le_trans hcs.2 hRs⟩
  rw [List.map_append, List.map_reverse]
  exact G_back hK hrun F hS hl kk kx
theorem G_callS {M' : MD} {n d' mc' ms' idx : Nat} {As rest st : List Value} {P : Option Value → VH → Prop} {X : String → VH → Prop} (hdg : decode M.2.1 pc = .ok (.invokestatic idx, 3)) (hcv : CT M' n) (hlink : Cond.methodLink M.1.cls idx M'.1 ∈ tbG) (hSp : Sp K M' d' mc' ms' As h P X) (hst : st = As.reverse ++ rest)
    (hn : As.length = n) (hd : d' + 1 ≤ d) (hcs : uc + mc' ≤ mc ∧ us + ms' ≤ ms) (hw : (rest.map fun v => v.category).sum ≤ 8)
    (kk : ∀ v u, P v u → G K M d mc ms (uc + mc') (us + ms') (pc + 3) L (v.toList ++ rest) u Qc XC) (kx : ∀ E u, X E u → GX K M d mc ms (uc + mc') (us + ms') pc L rest u E Qc XC) : G K M d mc ms uc us pc L st h Qc XC := by
  intro hK p e R s m args below meth c H locs ls F hS hP hl
  subst hst
  obtain ⟨hci, hcin, hcco, hcd, hcm⟩ := hcv
  have hR := F.2.2.2.2.2.2.2.2.1
  have hRl := F.2.2.2.2.2.2.2.2.2.1
  have hRc := F.2.2.2.2.2.2.2.2.2.2.1
  have hRs := F.2.2.2.2.2.2.2.2.2.2.2.1
  have hKs := F.2.2.2.2.2.2.2.2.2.2.2.2
  have hts := F.2.2.2.2.1
  have hB : CallB R s args M.1.cls idx M'.1 M'.2.1 M'.2.2.1 M'.2.2.2 (Cond.code M'.1 M'.2.1 M'.2.2.1 M'.2.2.2 :: tbG) (Rm d' mc' ms') mc' ms' n :=
    callB_of n hts (code_in hcco) rfl rfl rfl (hts _ hcin) (hts _ hlink) hcd ⟨Nat.le_trans hd hR, by show 8 + (M'.2.2.1 + 11) + (64 * d' + 40) ≤ R.locals; omega⟩
  have hrun := vx_runS (l := kL K) (e := e) (below := below) (meth := meth) (locs := locs) (As := As.map (vv K)) (rest := rest.map (vv K)) (g := F0 m pc ls _) ⟨F.1, F.2.1, F.2.2.1, F.2.2.2.1, hts⟩ (hSp hK) ⟨hB, hts _ hci⟩
    ⟨blind hK, fun U hU hW => ⟨rfl, by rw [hU]; exact hP, Kst_call hK hKs hS hU hW⟩⟩ rfl ((List.length_map _).trans hn) hl.1 rfl (lv_room (by rw [vv_sum]; exact hw)) hdg ⟨Nat.le_trans hcs.1 hRc, Nat.le_trans hcs.2 hRs⟩
  rw [List.map_append, List.map_reverse]
  exact G_back hK hrun F hS hl kk kx
theorem G_callI {M' : MD} {n d' mc' ms' a idx : Nat} {As rest st : List Value} {P : Option Value → VH → Prop} {X : String → VH → Prop} (hdg : decode M.2.1 pc = .ok (.invokespecial idx, 3)) (hcv : CI M' n) (hlink : Cond.methodLink M.1.cls idx M'.1 ∈ tbG) (hSp : Sp K M' d' mc' ms' (.ref a :: As) h P X) (hst : st = As.reverse ++ .ref a :: rest)
    (hn : As.length = n) (hd : d' + 1 ≤ d) (hcs : uc + mc' ≤ mc ∧ us + ms' ≤ ms) (hw : (rest.map fun v => v.category).sum ≤ 8)
    (kk : ∀ v u, P v u → G K M d mc ms (uc + mc') (us + ms') (pc + 3) L (v.toList ++ rest) u Qc XC) (kx : ∀ E u, X E u → GX K M d mc ms (uc + mc') (us + ms') pc L rest u E Qc XC) : G K M d mc ms uc us pc L st h Qc XC := by
  intro hK p e R s m args below meth c H locs ls F hS hP hl
  subst hst
  obtain ⟨hnm, hrt, hci, hcin, hcco, hcd, hcm⟩ := hcv
  have hR := F.2.2.2.2.2.2.2.2.1
  have hRl := F.2.2.2.2.2.2.2.2.2.1
  have hRc := F.2.2.2.2.2.2.2.2.2.2.1
  have hRs := F.2.2.2.2.2.2.2.2.2.2.2.1
  have hKs := F.2.2.2.2.2.2.2.2.2.2.2.2
  have hts := F.2.2.2.2.1
  have hSp9 := hSp hK
  rw [hrt] at hSp9 hcco
  have hB : CallB R s args M.1.cls idx M'.1 M'.2.1 M'.2.2.1 none (Cond.code M'.1 M'.2.1 M'.2.2.1 none :: tbG) (Rm d' mc' ms') mc' ms' n :=
    callB_of n hts (code_in hcco) rfl rfl rfl (hts _ hcin) (hts _ hlink) hcd ⟨Nat.le_trans hd hR, by show 8 + (M'.2.2.1 + 11) + (64 * d' + 40) ≤ R.locals; omega⟩
  have hrun := vx_runI (l := kL K) (e := e) (below := below) (meth := meth) (locs := locs) (As := As.map (vv K)) (rest := rest.map (vv K)) (b := kA K a) (g := F0 m pc ls _) ⟨F.1, F.2.1, F.2.2.1, F.2.2.2.1, hts⟩ hSp9 ⟨hB, hnm, hts _ hci⟩
    ⟨blind hK, fun U hU hW => ⟨rfl, by rw [hU]; exact hP, Kst_call hK hKs hS hU hW⟩⟩ rfl ((List.length_map _).trans hn) hl.1 rfl (lv_room (by rw [vv_sum]; exact hw)) hdg ⟨Nat.le_trans hcs.1 hRc, Nat.le_trans hcs.2 hRs⟩
  rw [List.map_append, List.map_reverse]
  exact G_back hK hrun F hS hl kk kx
theorem G_callIN {M' : MD} {n d' mc' ms' a idx : Nat} {host : String} {As rest st : List Value} {P : Option Value → VH → Prop} {X : String → VH → Prop} (hdg : decode M.2.1 pc = .ok (.invokespecial idx, 3)) (hcv : CI M' n) (hlink : Cond.methodLinkNest M.1.cls idx M'.1 host ∈ tbN) (hSp : Sp K M' d' mc' ms' (.ref a :: As) h P X) (hst : st = As.reverse ++ .ref a :: rest)
    (hn : As.length = n) (hd : d' + 1 ≤ d) (hcs : uc + mc' ≤ mc ∧ us + ms' ≤ ms) (hw : (rest.map fun v => v.category).sum ≤ 8)
    (kk : ∀ v u, P v u → G K M d mc ms (uc + mc') (us + ms') (pc + 3) L (v.toList ++ rest) u Qc XC) (kx : ∀ E u, X E u → GX K M d mc ms (uc + mc') (us + ms') pc L rest u E Qc XC) : G K M d mc ms uc us pc L st h Qc XC := by
  intro hK p e R s m args below meth c H locs ls F hS hP hl
  subst hst
  obtain ⟨hnm, hrt, hci, hcin, hcco, hcd, hcm⟩ := hcv
  have hR := F.2.2.2.2.2.2.2.2.1
  have hRl := F.2.2.2.2.2.2.2.2.2.1
  have hRc := F.2.2.2.2.2.2.2.2.2.2.1
  have hRs := F.2.2.2.2.2.2.2.2.2.2.2.1
  have hKs := F.2.2.2.2.2.2.2.2.2.2.2.2
  have hts := F.2.2.2.2.1
  have hSp9 := hSp hK
  rw [hrt] at hSp9 hcco
  have hB : va_CN R s args M.1.cls idx M'.1 host M'.2.1 M'.2.2.1 none (Cond.code M'.1 M'.2.1 M'.2.2.1 none :: tbG) (Rm d' mc' ms') mc' ms' n :=
    va_cnB n hts (code_in hcco) rfl rfl rfl (hKs.1 _ hlink) (hts _ hcin) hcd ⟨Nat.le_trans hd hR, by show 8 + (M'.2.2.1 + 11) + (64 * d' + 40) ≤ R.locals; omega⟩
  have hrun := vx_runIN (l := kL K) (e := e) (below := below) (meth := meth) (locs := locs) (As := As.map (vv K)) (rest := rest.map (vv K)) (b := kA K a) (g := F0 m pc ls _) ⟨F.1, F.2.1, F.2.2.1, F.2.2.2.1, hts⟩ hSp9 ⟨hB, hnm, hts _ hci⟩
    ⟨blind hK, fun U hU hW => ⟨rfl, by rw [hU]; exact hP, Kst_call hK hKs hS hU hW⟩⟩ rfl ((List.length_map _).trans hn) hl.1 rfl (lv_room (by rw [vv_sum]; exact hw)) hdg ⟨Nat.le_trans hcs.1 hRc, Nat.le_trans hcs.2 hRs⟩
  rw [List.map_append, List.map_reverse]
  exact G_back hK hrun F hS hl kk kx
/-! ends -/
theorem Q_of {K : GK} {P : Option Value → VH → Prop} {s t : State} {a : Array Value} {H : Heap} {locs : List Loc} {v : Option Value} (hS : va_S (kF K) s.heap H locs) (hP : Ph K h H) (hp : P v h) (ht : t.heap = H) : QcP K P a s (.returned (v.map (vv K))) t :=
  ⟨⟨v, h, rfl, hp, by rw [ht]; exact hP⟩, hS.F ht⟩
theorem G_iret {P : Option Value → VH → Prop} {v : Int32} {ty : FieldType} (hdg : decode M.2.1 pc = .ok (.ireturn, 1)) (hr : M.2.2.2 = some ty) (hn : narrow ty (.int v) = .int v) (hcs : uc ≤ mc ∧ us ≤ ms) (hp : P (some (.int v)) h) : G K M d mc ms uc us pc L [.int v] h (QcP K P) XC := by
  intro hK p e R s m args below meth c H locs ls F hS hP hl
  refine vx_ret (W.widen hcs.1 hcs.2 ?_)
  exact W.zret (ty := ty) F.1 F.2.1 (F.2.2.2.2.2.1.trans hr) hn (fun t ht hW => Q_of (v := some (.int v)) hS hP hp ht) hS.2.2 hdg F.2.2.2.2.2.2.1
theorem G_lret {P : Option Value → VH → Prop} {v : Int64} (hdg : decode M.2.1 pc = .ok (.lreturn, 1)) (hr : M.2.2.2 = some .long) (hcs : uc ≤ mc ∧ us ≤ ms) (hp : P (some (.long v)) h) : G K M d mc ms uc us pc L [.long v] h (QcP K P) XC := by
  intro hK p e R s m args below meth c H locs ls F hS hP hl
  refine vx_ret (W.widen hcs.1 hcs.2 ?_)
  exact W.lret F.1 F.2.1 (F.2.2.2.2.2.1.trans hr) (fun t ht hW => Q_of (v := some (.long v)) hS hP hp ht) hS.2.2 hdg F.2.2.2.2.2.2.1
theorem G_vret {P : Option Value → VH → Prop} (hdg : decode M.2.1 pc = .ok (.return_, 1)) (hr : M.2.2.2 = none) (hcs : uc ≤ mc ∧ us ≤ ms) (hp : P none h) : G K M d mc ms uc us pc L [] h (QcP K P) XC := by
  intro hK p e R s m args below meth c H locs ls F hS hP hl
  refine vx_ret (W.widen hcs.1 hcs.2 ?_)
  exact W.vret F.1 F.2.1 (F.2.2.2.2.2.1.trans hr) (fun t ht hW => Q_of (v := none) hS hP hp ht) hS.2.2 hdg F.2.2.2.2.2.2.1
theorem G_aret {P : Option Value → VH → Prop} {a : Nat} {C : String} (hdg : decode M.2.1 pc = .ok (.areturn, 1)) (hr : M.2.2.2 = some (.object C)) (hcs : uc ≤ mc ∧ us ≤ ms) (hp : P (some (.ref a)) h) : G K M d mc ms uc us pc L [.ref a] h (QcP K P) XC := by
  intro hK p e R s m args below meth c H locs ls F hS hP hl
  refine vx_ret (W.widen hcs.1 hcs.2 ?_)
  exact W.aret (v := .ref (kA K a)) F.1 F.2.1 (F.2.2.2.2.2.1.trans hr) (Or.inl ⟨_, rfl⟩) (Or.inr ⟨_, rfl⟩) (fun t ht hW => Q_of (v := some (.ref a)) hS hP hp ht) hS.2.2 hdg F.2.2.2.2.2.2.1
end GN
/-- the locals with which a method begins -/
theorem lv_args_map (K : GK) (as : List Value) : ∀ i : Nat, lv_args i (as.map (vv K)) = (lv_args i as).map (vl K) := by
  induction as with
  | nil => intro i; rfl
  | cons a as ih =>
    intro i
    show (i, vv K a) :: lv_args (if (vv K a).category = 2 then i + 2 else i + 1) (as.map (vv K)) = (i, vv K a) :: (lv_args (if a.category = 2 then i + 2 else i + 1) as).map (vl K)
    rw [vv_cat, ih]
/-- A CONTRACT, from the walk of the body -/
theorem Sp_of {K : GK} {M : MD} {d mc ms : Nat} {as : List Value} {h : VH} {P : Option Value → VH → Prop} {X : String → VH → Prop} (hy : plainName M.1.cls = true) (hn : ((as.map fun v => v.category).sum) ≤ M.2.2.1) (hG : G K M d mc ms 0 0 0 (lv_args 0 as) [] h (QcP K P) (XcP K X)) : Sp K M d mc ms as h P X := by
  intro hK
  refine vx_ofW (cc := M.2.1) (maxL := M.2.2.1) (ret := M.2.2.2) hy rfl ?_
  intro p e s m args below meth c s₁ B hml hno hv
  obtain ⟨rfl, hP, hKs⟩ := hv
  have hts9 := atoms_spec (ws := Cond.code M.1 M.2.1 M.2.2.1 M.2.2.2 :: tbG) B.pre
  have hts : ∀ w ∈ tbG, w.before (as.map (vv K)).toArray s = true := fun w hw => hts9 w (List.mem_cons_of_mem _ hw)
  have hlen : (lg_sl (as.map (vv K))).length ≤ M.2.2.1 := by
    refine Nat.le_trans (Nat.le_of_eq ?_) hn
    clear hn hG hP hKs hts9 hts B
    induction as with
    | nil => rfl
    | cons a as ih =>
      simp only [List.map_cons, List.sum_cons]
      rw [← ih]
      unfold lg_sl
      rw [List.flatMap_cons, List.length_append]
      congr 1
      cases a <;> rfl
  have hl := lv_entry (as.map (vv K)) (n := M.2.2.1) hlen
  rw [lv_args_map] at hl
  rw [lg_entry_eq]
  exact hG hK p e (Rm d mc ms) s m _ below meth c s.heap [] _ ⟨B.exec, B.bytes, hml, findClass_of_methodNamed B.named, hts, B.returns, B.notSynchronized, (name_of_methodNamed B.named B.method).1, Nat.le_refl _, Nat.le_refl _, Nat.le_refl _, Nat.le_refl _, hKs⟩ va_S.rf hP hl
end
section
/-! WHERE EVERYTHING LIES. 0 the index, 1 the things (boxes 2, rows 3 .. 18), 19 the layers, 20 the fence, 25 the planned tree; layer j at 49 + 25 j, its tree behind it. A tree at t: t + 1 its boxes, then a row and its array by turns. -/
/-- contents of arrays (by where they lie), int fields (by where their object lies), nothing else made -/
abbrev St : Type := (Nat → Nat → Int32) × (Nat → Nat → Int32) × Bool
def skTree (t j : Nat) : Nat ⊕ (Nat × List (Option Value)) := match j with
  | 0 => .inr (5, [some (.ref (t + 1)), some (.ref (t + 10)), some (.ref (t + 12)), some (.ref (t + 14)), some (.ref (t + 16)), some (.ref (t + 18)), some (.ref (t + 20)), some (.ref (t + 22)), none, none])
  | 1 => .inr (0, [some (.ref (t + 2)), some (.ref (t + 4)), some (.ref (t + 6)), some (.ref (t + 8))])
  | 2 => .inr (3, [some (.ref (t + 3))])
  | 4 => .inr (3, [some (.ref (t + 5))])
  | 6 => .inr (3, [some (.ref (t + 7))])
  | 8 => .inr (3, [some (.ref (t + 9))])
  | 10 => .inr (3, [some (.ref (t + 11))])
  | 12 => .inr (3, [some (.ref (t + 13))])
  | 14 => .inr (3, [some (.ref (t + 15))])
  | 16 => .inr (3, [some (.ref (t + 17))])
  | 18 => .inr (3, [some (.ref (t + 19))])
  | 20 => .inr (3, [some (.ref (t + 21))])
  | 22 => .inr (3, [some (.ref (t + 23))])
  | 21 => .inl 80
  | 23 => .inl 80
  | _ => .inl 1205
def skB (k : Nat) : Nat ⊕ (Nat × List (Option Value)) := match k with
  | 0 => .inr (6, [some (.ref 1), some (.ref 19), some (.ref 20), some (.ref 25), none])
  | 1 => .inr (4, [some (.ref 2), some (.ref 11), some (.ref 13), some (.ref 15), some (.ref 17), none])
  | 2 => .inr (0, [some (.ref 3), some (.ref 5), some (.ref 7), some (.ref 9)])
  | 3 => .inr (3, [some (.ref 4)])
  | 5 => .inr (3, [some (.ref 6)])
  | 7 => .inr (3, [some (.ref 8)])
  | 9 => .inr (3, [some (.ref 10)])
  | 11 => .inr (3, [some (.ref 12)])
  | 13 => .inr (3, [some (.ref 14)])
  | 15 => .inr (3, [some (.ref 16)])
  | 17 => .inr (3, [some (.ref 18)])
  | 20 => .inr (1, [some (.ref 21), some (.ref 23), none])
  | 21 => .inr (3, [some (.ref 22)])
  | 23 => .inr (3, [some (.ref 24)])
  | 22 => .inl 8
  | 24 => .inl 8
  | _ => .inl 80
def skel (k : Nat) : Nat ⊕ (Nat × List (Option Value)) :=
  if k < 25 then skB k else if k < 49 then skTree 25 (k - 25) else if k = 49 then .inr (2, [some (.int 0), some (.int 1), some (.ref 50), none]) else if k < 74 then skTree 50 (k - 50) else if k = 74 then .inr (2, [some (.int 1), some (.int 0), some (.ref 75), none]) else skTree 75 (k - 75)
/-- an object's fields -/
def fl (I : Nat → Nat → Int32) (a : Nat) (fs : List (Option Value)) : List Value := fs.mapIdx (fun i o => match o with
  | some v => v
  | none => .int (I a i))
def cellOf (ly : Nat) (S : St) (k : Nat) : VE := if k = 19 then .inl (1, 4, .inr (.inr (.inr (.inr (fun j => if j < ly then some (49 + 25 * j) else none))))) else match skel k with
  | .inl n => .inl (0, n, .inl (S.1 k))
  | .inr (c, fs) => .inr (c, fl S.2.1 k fs)
def hp (ly : Nat) (S : St) : VH := (S.2.2, (List.range (49 + 25 * ly)).map (cellOf ly S))
def setR (S : St) (a : Nat) (f : Nat → Int32) : St := (va_up S.1 a f, S.2)
def setI (S : St) (a i : Nat) (x : Int32) : St := (S.1, va_up S.2.1 a (va_up (S.2.1 a) i x), S.2.2)
theorem hp_at {ly : Nat} {S : St} {a : Nat} (ha : a < 49 + 25 * ly) : (hp ly S).2[a]? = some (cellOf ly S a) := by
  show ((List.range (49 + 25 * ly)).map (cellOf ly S))[a]? = _
  rw [List.getElem?_map, List.getElem?_range ha]
  rfl
theorem map_set_eq {α β : Type} (f g : α → β) (l : List α) (a : Nat) (e : β) (h1 : ∀ k x, l[k]? = some x → k ≠ a → g x = f x) (h2 : ∀ x, l[a]? = some x → g x = e) : (l.map f).set a e = l.map g := by
  apply List.ext_getElem?
  intro k
  rw [List.getElem?_set, List.length_map, List.getElem?_map]
  by_cases hk : a = k
  · subst hk
    rw [if_pos rfl]
    cases hx : l[a]? with
    | none => rw [if_neg (by have := List.getElem?_eq_none_iff.mp hx; omega)]; rw [List.getElem?_map, hx]; rfl
    | some x => rw [if_pos (List.getElem?_eq_some_iff.mp hx).1, List.getElem?_map, hx]; show some e = some (g x); rw [h2 x hx]
  · rw [if_neg hk, List.getElem?_map]
    cases hx : l[k]? with
    | none => rfl
    | some x => show some (f x) = some (g x); rw [h1 k x hx (fun q => hk q.symm)]
theorem range_at {n k x : Nat} (h : (List.range n)[k]? = some x) : x = k := by
  have hk : k < n := by have := (List.getElem?_eq_some_iff.mp h).1; simpa using this
  rw [List.getElem?_range hk] at h
  exact (Option.some.inj h).symm
theorem hp_setR {ly : Nat} {S : St} {a n : Nat} {f : Nat → Int32} (hk : skel a = .inl n) (h19 : a ≠ 19) : ((hp ly S).1, (hp ly S).2.set a (.inl (0, n, .inl f))) = hp ly (setR S a f) := by
  refine Prod.ext rfl ?_
  refine map_set_eq _ _ _ _ _ (fun k x hx hka => ?_) (fun x hx => ?_)
  · cases range_at hx
    unfold cellOf
    split
    · rfl
    · have e : (setR S a f).1 k = S.1 k := if_neg hka
      cases skel k with
      | inl m => show Sum.inl (0, m, Sum.inl ((setR S a f).1 k)) = Sum.inl (0, m, Sum.inl (S.1 k)); rw [e]
      | inr q => rfl
  · cases range_at hx
    unfold cellOf
    rw [if_neg h19, hk]
    show Sum.inl (0, n, Sum.inl ((setR S a f).1 a)) = _
    rw [show (setR S a f).1 a = f from if_pos rfl]
theorem fl_set {I I' : Nat → Nat → Int32} {a i : Nat} {x : Int32} {fs : List (Option Value)} (hi : fs[i]? = some none) (h1 : I' a i = x) (h2 : ∀ j, j ≠ i → I' a j = I a j) : (fl I a fs).set i (.int x) = fl I' a fs := by
  apply List.ext_getElem?
  intro k
  unfold fl
  rw [List.getElem?_set, List.getElem?_mapIdx, List.getElem?_mapIdx, List.length_mapIdx]
  by_cases hk : i = k
  · subst hk
    rw [if_pos rfl, if_pos (List.getElem?_eq_some_iff.mp hi).1, hi]
    show some (Value.int x) = some (Value.int (I' a i))
    rw [h1]
  · rw [if_neg hk]
    cases fs[k]? with
    | none => rfl
    | some o =>
      cases o with
      | none => show some (Value.int (I a k)) = some (Value.int (I' a k)); rw [h2 k (fun q => hk q.symm)]
      | some v => rfl
theorem hp_setI {ly : Nat} {S : St} {a c i : Nat} {x : Int32} {fs : List (Option Value)} (hk : skel a = .inr (c, fs)) (h19 : a ≠ 19) (hi : fs[i]? = some none) : ((hp ly S).1, (hp ly S).2.set a (.inr (c, (fl S.2.1 a fs).set i (.int x)))) = hp ly (setI S a i x) := by
  refine Prod.ext rfl ?_
  refine map_set_eq _ _ _ _ _ (fun k x9 hx hka => ?_) (fun x9 hx => ?_)
  · cases range_at hx
    unfold cellOf
    split
    · rfl
    · cases skel k with
      | inl m => rfl
      | inr q =>
        show Sum.inr (q.1, fl (setI S a i x).2.1 k q.2) = Sum.inr (q.1, fl S.2.1 k q.2)
        have e : (setI S a i x).2.1 k = S.2.1 k := if_neg hka
        unfold fl
        rw [e]
  · cases range_at hx
    unfold cellOf
    rw [if_neg h19, hk]
    show Sum.inr (c, fl (setI S a i x).2.1 a fs) = Sum.inr (c, _)
    have e : (setI S a i x).2.1 a = va_up (S.2.1 a) i x := if_pos rfl
    rw [fl_set (I' := (setI S a i x).2.1) hi (by rw [e]; exact if_pos rfl) (fun j hj => by rw [e]; exact if_neg hj)]
/-! the kinds -/
def isRow (ly r n : Nat) : Prop := skel r = .inr (3, [some (.ref (r + 1))]) ∧ skel (r + 1) = .inl n ∧ r ≠ 19 ∧ r + 1 ≠ 19 ∧ r + 1 < 49 + 25 * ly ∧ n < 2 ^ 31
def isBoxes (ly b n : Nat) : Prop := skel b = .inr (0, [some (.ref (b + 1)), some (.ref (b + 3)), some (.ref (b + 5)), some (.ref (b + 7))]) ∧ b ≠ 19 ∧ b < 49 + 25 * ly ∧ isRow ly (b + 1) n ∧ isRow ly (b + 3) n ∧ isRow ly (b + 5) n ∧ isRow ly (b + 7) n
def isTree (ly t : Nat) : Prop := t = 25 ∨ (t = 50 ∧ 1 ≤ ly) ∨ (t = 75 ∧ 2 ≤ ly)
theorem cRow {ly : Nat} {S : St} {r n : Nat} (h : isRow ly r n) : (hp ly S).2[r]? = some (.inr (3, [.ref (r + 1)])) := by
  rw [hp_at (by have := h.2.2.2.2.1; omega)]
  unfold cellOf
  rw [if_neg h.2.2.1, h.1]
  rfl
theorem cArr {ly : Nat} {S : St} {r n : Nat} (h : isRow ly r n) : (hp ly S).2[r + 1]? = some (.inl (0, n, .inl (S.1 (r + 1)))) := by
  rw [hp_at h.2.2.2.2.1]
  unfold cellOf
  rw [if_neg h.2.2.2.1, h.2.1]
theorem cBox {ly : Nat} {S : St} {b n : Nat} (h : isBoxes ly b n) : (hp ly S).2[b]? = some (.inr (0, [.ref (b + 1), .ref (b + 3), .ref (b + 5), .ref (b + 7)])) := by
  rw [hp_at h.2.2.1]
  unfold cellOf
  rw [if_neg h.2.1, h.1]
  rfl
theorem cTree {ly : Nat} {S : St} {t : Nat} (h : isTree ly t) : (hp ly S).2[t]? = some (.inr (5, [.ref (t + 1), .ref (t + 10), .ref (t + 12), .ref (t + 14), .ref (t + 16), .ref (t + 18), .ref (t + 20), .ref (t + 22), .int (S.2.1 t 8), .int (S.2.1 t 9)])) := by
  rcases h with rfl | ⟨rfl, h⟩ | ⟨rfl, h⟩ <;> (rw [hp_at (by omega)]; rfl)
theorem cIdx {ly : Nat} {S : St} : (hp ly S).2[0]? = some (.inr (6, [.ref 1, .ref 19, .ref 20, .ref 25, .int (S.2.1 0 4)])) := by
  rw [hp_at (by omega)]; rfl
theorem cThings {ly : Nat} {S : St} : (hp ly S).2[1]? = some (.inr (4, [.ref 2, .ref 11, .ref 13, .ref 15, .ref 17, .int (S.2.1 1 5)])) := by
  rw [hp_at (by omega)]; rfl
theorem cFence {ly : Nat} {S : St} : (hp ly S).2[20]? = some (.inr (1, [.ref 21, .ref 23, .int (S.2.1 20 2)])) := by
  rw [hp_at (by omega)]; rfl
theorem cLayers {ly : Nat} {S : St} : (hp ly S).2[19]? = some (.inl (1, 4, .inr (.inr (.inr (.inr (fun j => if j < ly then some (49 + 25 * j) else none)))))) := by
  rw [hp_at (by omega)]; rfl
theorem cLayer0 {ly : Nat} {S : St} (h : 1 ≤ ly) : (hp ly S).2[49]? = some (.inr (2, [.int 0, .int 1, .ref 50, .int (S.2.1 49 3)])) := by
  rw [hp_at (by omega)]; rfl
theorem cLayer1 {ly : Nat} {S : St} (h : 2 ≤ ly) : (hp ly S).2[74]? = some (.inr (2, [.int 1, .int 0, .ref 75, .int (S.2.1 74 3)])) := by
  rw [hp_at (by omega)]; rfl
theorem bTree {ly t : Nat} (h : isTree ly t) : isBoxes ly (t + 1) 1205 := by
  rcases h with rfl | ⟨rfl, h⟩ | ⟨rfl, h⟩ <;> exact ⟨rfl, by decide, by omega, ⟨rfl, rfl, by decide, by decide, by omega, by decide⟩, ⟨rfl, rfl, by decide, by decide, by omega, by decide⟩, ⟨rfl, rfl, by decide, by decide, by omega, by decide⟩, ⟨rfl, rfl, by decide, by decide, by omega, by decide⟩⟩
theorem bThings {ly : Nat} : isBoxes ly 2 80 := ⟨rfl, by decide, by omega, ⟨rfl, rfl, by decide, by decide, by omega, by decide⟩, ⟨rfl, rfl, by decide, by decide, by omega, by decide⟩, ⟨rfl, rfl, by decide, by decide, by omega, by decide⟩, ⟨rfl, rfl, by decide, by decide, by omega, by decide⟩⟩
theorem rLayerOf {ly : Nat} : isRow ly 11 80 := ⟨rfl, rfl, by decide, by decide, by omega, by decide⟩
theorem rTags {ly : Nat} : isRow ly 13 80 := ⟨rfl, rfl, by decide, by decide, by omega, by decide⟩
theorem rKeys {ly : Nat} : isRow ly 15 80 := ⟨rfl, rfl, by decide, by decide, by omega, by decide⟩
theorem rClus {ly : Nat} : isRow ly 17 80 := ⟨rfl, rfl, by decide, by decide, by omega, by decide⟩
theorem rFx {ly : Nat} : isRow ly 21 8 := ⟨rfl, rfl, by decide, by decide, by omega, by decide⟩
theorem rFy {ly : Nat} : isRow ly 23 8 := ⟨rfl, rfl, by decide, by decide, by omega, by decide⟩
theorem tLevel {ly t : Nat} (h : isTree ly t) : isRow ly (t + 10) 1205 := by
  rcases h with rfl | ⟨rfl, h⟩ | ⟨rfl, h⟩ <;> exact ⟨rfl, rfl, by decide, by decide, by omega, by decide⟩
theorem tHeld {ly t : Nat} (h : isTree ly t) : isRow ly (t + 12) 1205 := by
  rcases h with rfl | ⟨rfl, h⟩ | ⟨rfl, h⟩ <;> exact ⟨rfl, rfl, by decide, by decide, by omega, by decide⟩
theorem tFrom {ly t : Nat} (h : isTree ly t) : isRow ly (t + 14) 1205 := by
  rcases h with rfl | ⟨rfl, h⟩ | ⟨rfl, h⟩ <;> exact ⟨rfl, rfl, by decide, by decide, by omega, by decide⟩
theorem tCount {ly t : Nat} (h : isTree ly t) : isRow ly (t + 16) 1205 := by
  rcases h with rfl | ⟨rfl, h⟩ | ⟨rfl, h⟩ <;> exact ⟨rfl, rfl, by decide, by decide, by omega, by decide⟩
theorem tBelow {ly t : Nat} (h : isTree ly t) : isRow ly (t + 18) 1205 := by
  rcases h with rfl | ⟨rfl, h⟩ | ⟨rfl, h⟩ <;> exact ⟨rfl, rfl, by decide, by decide, by omega, by decide⟩
theorem tHome {ly t : Nat} (h : isTree ly t) : isRow ly (t + 20) 80 := by
  rcases h with rfl | ⟨rfl, h⟩ | ⟨rfl, h⟩ <;> exact ⟨rfl, rfl, by decide, by decide, by omega, by decide⟩
theorem tKeys {ly t : Nat} (h : isTree ly t) : isRow ly (t + 22) 80 := by
  rcases h with rfl | ⟨rfl, h⟩ | ⟨rfl, h⟩ <;> exact ⟨rfl, rfl, by decide, by decide, by omega, by decide⟩
section GS
variable {K : GK} {M : MD} {d mc ms uc us pc : Nat} {L : List (Nat × Value)} {ly : Nat} {S : St} {Qc : Array Value → State → Outcome → State → Prop} {XC : String → State → State → Prop}
/-- an int field of the shape is written -/
theorem G_setI {rest : List Value} {a ci idx N k : Nat} {C : String} {T : u_T} {fs : List (Option Value)} {x : Int32} (hdg : decode M.2.1 pc = .ok (.putfield idx, 3)) (hs : skel a = .inr (ci, fs)) (h19 : a ≠ 19) (ha : a < 49 + 25 * ly) (hi : fs[k]? = some none) (hc : gcl[ci]? = some (C, T, N)) (hlink : Cond.fieldLink M.1.cls idx (T k).1 (T k).2.1 (T k).2.2.1 ∈ tbG) (hk : k < N) (hfin : (T k).2.2.2 = false) (hty : gty ci k = .int)
    (kk : G K M d mc ms uc us (pc + 3) L rest (hp ly (setI S a k x)) Qc XC) : G K M d mc ms uc us pc L (.int x :: .ref a :: rest) (hp ly S) Qc XC := by
  have h0 : (hp ly S).2[a]? = some (.inr (ci, fl S.2.1 a fs)) := by
    rw [hp_at ha]
    unfold cellOf
    rw [if_neg h19, hs]
  refine G_put hdg h0 hc hlink hk hfin (by rw [hty]; rfl) (by rw [hty]; rfl) ?_ ?_
  · unfold fl
    rw [List.length_mapIdx]
    exact (List.getElem?_eq_some_iff.mp hi).1
  · rw [hp_setI hs h19 hi]
    exact kk
theorem G_setIN {rest : List Value} {a ci idx N k : Nat} {C host : String} {T : u_T} {fs : List (Option Value)} {x : Int32} (hdg : decode M.2.1 pc = .ok (.putfield idx, 3)) (hs : skel a = .inr (ci, fs)) (h19 : a ≠ 19) (ha : a < 49 + 25 * ly) (hi : fs[k]? = some none) (hc : gcl[ci]? = some (C, T, N)) (hlink : Cond.fieldLinkNest M.1.cls idx (T k).1 (T k).2.1 (T k).2.2.1 host ∈ tbN) (hk : k < N) (hfin : (T k).2.2.2 = false) (hty : gty ci k = .int)
    (kk : G K M d mc ms uc us (pc + 3) L rest (hp ly (setI S a k x)) Qc XC) : G K M d mc ms uc us pc L (.int x :: .ref a :: rest) (hp ly S) Qc XC := by
  have h0 : (hp ly S).2[a]? = some (.inr (ci, fl S.2.1 a fs)) := by
    rw [hp_at ha]
    unfold cellOf
    rw [if_neg h19, hs]
  refine G_putN hdg h0 hc hlink hk hfin (by rw [hty]; rfl) (by rw [hty]; rfl) ?_ ?_
  · unfold fl
    rw [List.length_mapIdx]
    exact (List.getElem?_eq_some_iff.mp hi).1
  · rw [hp_setI hs h19 hi]
    exact kk
/-- fewer locals, in another order -/
theorem G_sub {st : List Value} {h : VH} {L' : List (Nat × Value)} (ks : List Nat) (hL : lv_pick L ks = L') (kk : G K M d mc ms uc us pc L' st h Qc XC) : G K M d mc ms uc us pc L st h Qc XC := by
  intro hK p e R s m args below meth c H locs ls F hS hP hl
  refine kk hK p e R s m args below meth c H locs ls F hS hP ?_
  refine lv_sub hl ks ?_
  rw [← hL]
  unfold lv_pick
  rw [List.map_filterMap]
  congr 1
  funext k
  rw [List.getElem?_map]
end GS
section GS2
variable {K : GK} {M : MD} {d mc ms uc us pc : Nat} {L L' : List (Nat × Value)} {h : VH} {Qc : Array Value → State → Outcome → State → Prop} {XC : String → State → State → Prop} {rest : List Value}
theorem GS_istore_n {i : Fin 4} {x : Int32} (hdg : decode M.2.1 pc = .ok (.istore_n i, 1)) (hi : (i : Nat) < M.2.2.1) (hL : gs L i (.int x) = L') (k : G K M d mc ms uc us (pc + 1) L' rest h Qc XC) : G K M d mc ms uc us pc L (.int x :: rest) h Qc XC := G_istore_n hdg hi (hL ▸ k)
theorem GS_istore {i : Nat} {x : Int32} (hdg : decode M.2.1 pc = .ok (.istore i, 2)) (hi : (i : Nat) < M.2.2.1) (hL : gs L i (.int x) = L') (k : G K M d mc ms uc us (pc + 2) L' rest h Qc XC) : G K M d mc ms uc us pc L (.int x :: rest) h Qc XC := G_istore hdg hi (hL ▸ k)
theorem GS_lstore_n {i : Fin 4} {x : Int64} (hdg : decode M.2.1 pc = .ok (.lstore_n i, 1)) (hi : (i : Nat) + 1 < M.2.2.1) (hL : gs2 L i (.long x) = L') (k : G K M d mc ms uc us (pc + 1) L' rest h Qc XC) : G K M d mc ms uc us pc L (.long x :: rest) h Qc XC := G_lstore_n hdg hi (hL ▸ k)
theorem GS_astore_n {i : Fin 4} {x : Nat} (hdg : decode M.2.1 pc = .ok (.astore_n i, 1)) (hi : (i : Nat) < M.2.2.1) (hL : gs L i (.ref x) = L') (k : G K M d mc ms uc us (pc + 1) L' rest h Qc XC) : G K M d mc ms uc us pc L (.ref x :: rest) h Qc XC := G_astore_n hdg hi (hL ▸ k)
theorem GS_astore {i : Nat} {x : Nat} (hdg : decode M.2.1 pc = .ok (.astore i, 2)) (hi : (i : Nat) < M.2.2.1) (hL : gs L i (.ref x) = L') (k : G K M d mc ms uc us (pc + 2) L' rest h Qc XC) : G K M d mc ms uc us pc L (.ref x :: rest) h Qc XC := G_astore hdg hi (hL ▸ k)
theorem GS_iinc {i : Nat} {n : Int} {x v : Int32} (hdg : decode M.2.1 pc = .ok (.iinc i n, 3)) (hl0 : gl L i = some (.int x)) (hv : Int32.ofInt n = v) (hi : i < M.2.2.1) (hL : gs L i (.int (x + v)) = L') (k : G K M d mc ms uc us (pc + 3) L' rest h Qc XC) : G K M d mc ms uc us pc L rest h Qc XC := G_iinc hdg hl0 hv hi (hL ▸ k)
end GS2
theorem sTree {ly t : Nat} (h : isTree ly t) : skel t = .inr (5, [some (.ref (t + 1)), some (.ref (t + 10)), some (.ref (t + 12)), some (.ref (t + 14)), some (.ref (t + 16)), some (.ref (t + 18)), some (.ref (t + 20)), some (.ref (t + 22)), none, none]) ∧ t ≠ 19 ∧ t < 49 + 25 * ly := by
  rcases h with rfl | ⟨rfl, h⟩ | ⟨rfl, h⟩ <;> exact ⟨rfl, by decide, by omega⟩
theorem sThings {ly : Nat} : skel 1 = .inr (4, [some (.ref 2), some (.ref 11), some (.ref 13), some (.ref 15), some (.ref 17), none]) ∧ 1 ≠ 19 ∧ 1 < 49 + 25 * ly := ⟨rfl, by decide, by omega⟩
theorem sIdx {ly : Nat} : skel 0 = .inr (6, [some (.ref 1), some (.ref 19), some (.ref 20), some (.ref 25), none]) ∧ 0 ≠ 19 ∧ 0 < 49 + 25 * ly := ⟨rfl, by decide, by omega⟩
theorem sLayer0 {ly : Nat} (h : 1 ≤ ly) : skel 49 = .inr (2, [some (.int 0), some (.int 1), some (.ref 50), none]) ∧ 49 ≠ 19 ∧ 49 < 49 + 25 * ly := ⟨rfl, by decide, by omega⟩
theorem sLayer1 {ly : Nat} (h : 2 ≤ ly) : skel 74 = .inr (2, [some (.int 1), some (.int 0), some (.ref 75), none]) ∧ 74 ≠ 19 ∧ 74 < 49 + 25 * ly := ⟨rfl, by decide, by omega⟩
end
section
theorem kI_X6_init : CI MX6_init 0 := ⟨rfl, rfl, win_X6_init, wii_X6, wco_X6_init, ⟨by decide +kernel, by decide +kernel, by decide +kernel⟩, by decide⟩
theorem kI_X4_init : CI MX4_init 0 := ⟨rfl, rfl, win_X4_init, wii_X4, wco_X4_init, ⟨by decide +kernel, by decide +kernel, by decide +kernel⟩, by decide⟩
theorem kI_X0_init : CI MX0_init 1 := ⟨rfl, rfl, win_X0_init, wii_X0, wco_X0_init, ⟨by decide +kernel, by decide +kernel, by decide +kernel⟩, by decide⟩
theorem kI_X3_init : CI MX3_init 1 := ⟨rfl, rfl, win_X3_init, wii_X3, wco_X3_init, ⟨by decide +kernel, by decide +kernel, by decide +kernel⟩, by decide⟩
theorem kI_X1_init : CI MX1_init 0 := ⟨rfl, rfl, win_X1_init, wii_X1, wco_X1_init, ⟨by decide +kernel, by decide +kernel, by decide +kernel⟩, by decide⟩
theorem kI_X5_init : CI MX5_init 0 := ⟨rfl, rfl, win_X5_init, wii_X5, wco_X5_init, ⟨by decide +kernel, by decide +kernel, by decide +kernel⟩, by decide⟩
theorem kV_X3_fill : CV MX3_fill 1 := ⟨win_X3_fill, wse_X3_fill, wii_X3, wco_X3_fill, ⟨by decide +kernel, by decide +kernel, by decide +kernel⟩, by decide⟩
theorem kV_X6_addLayer : CV MX6_addLayer 1 := ⟨win_X6_addLayer, wse_X6_addLayer, wii_X6, wco_X6_addLayer, ⟨by decide +kernel, by decide +kernel, by decide +kernel⟩, by decide⟩
theorem kI_X2_init : CI MX2_init 2 := ⟨rfl, rfl, win_X2_init, wii_X2, wco_X2_init, ⟨by decide +kernel, by decide +kernel, by decide +kernel⟩, by decide⟩
theorem kV_X2_regrow : CV MX2_regrow 1 := ⟨win_X2_regrow, wse_X2_regrow, wii_X2, wco_X2_regrow, ⟨by decide +kernel, by decide +kernel, by decide +kernel⟩, by decide⟩
theorem kV_X5_growQuarters : CV MX5_growQuarters 3 := ⟨win_X5_growQuarters, wse_X5_growQuarters, wii_X5, wco_X5_growQuarters, ⟨by decide +kernel, by decide +kernel, by decide +kernel⟩, by decide⟩
theorem kV_X5_fell : CV MX5_fell 0 := ⟨win_X5_fell, wse_X5_fell, wii_X5, wco_X5_fell, ⟨by decide +kernel, by decide +kernel, by decide +kernel⟩, by decide⟩
theorem kV_X5_addNode : CV MX5_addNode 1 := ⟨win_X5_addNode, wse_X5_addNode, wii_X5, wco_X5_addNode, ⟨by decide +kernel, by decide +kernel, by decide +kernel⟩, by decide⟩
theorem kV_X3_put : CV MX3_put 2 := ⟨win_X3_put, wse_X3_put, wii_X3, wco_X3_put, ⟨by decide +kernel, by decide +kernel, by decide +kernel⟩, by decide⟩
theorem kV_X0_put : CV MX0_put 5 := ⟨win_X0_put, wse_X0_put, wii_X0, wco_X0_put, ⟨by decide +kernel, by decide +kernel, by decide +kernel⟩, by decide⟩
theorem kV_X4_isIn : CV MX4_isIn 2 := ⟨win_X4_isIn, wse_X4_isIn, wii_X4, wco_X4_isIn, ⟨by decide +kernel, by decide +kernel, by decide +kernel⟩, by decide⟩
theorem kV_X3_at : CV MX3_at 1 := ⟨win_X3_at, wse_X3_at, wii_X3, wco_X3_at, ⟨by decide +kernel, by decide +kernel, by decide +kernel⟩, by decide⟩
theorem kV_X5_settle : CV MX5_settle 2 := ⟨win_X5_settle, wse_X5_settle, wii_X5, wco_X5_settle, ⟨by decide +kernel, by decide +kernel, by decide +kernel⟩, by decide⟩
theorem kV_X3_addTo : CV MX3_addTo 2 := ⟨win_X3_addTo, wse_X3_addTo, wii_X3, wco_X3_addTo, ⟨by decide +kernel, by decide +kernel, by decide +kernel⟩, by decide⟩
theorem kV_X5_halfSide : CV MX5_halfSide 1 := ⟨win_X5_halfSide, wse_X5_halfSide, wii_X5, wco_X5_halfSide, ⟨by decide +kernel, by decide +kernel, by decide +kernel⟩, by decide⟩
theorem kV_X5_split : CV MX5_split 2 := ⟨win_X5_split, wse_X5_split, wii_X5, wco_X5_split, ⟨by decide +kernel, by decide +kernel, by decide +kernel⟩, by decide⟩
theorem kV_X5_quarterOf : CV MX5_quarterOf 3 := ⟨win_X5_quarterOf, wse_X5_quarterOf, wii_X5, wco_X5_quarterOf, ⟨by decide +kernel, by decide +kernel, by decide +kernel⟩, by decide⟩
theorem kV_X6_setSize : CV MX6_setSize 2 := ⟨win_X6_setSize, wse_X6_setSize, wii_X6, wco_X6_setSize, ⟨by decide +kernel, by decide +kernel, by decide +kernel⟩, by decide⟩
theorem kV_X6_layerAt : CV MX6_layerAt 1 := ⟨win_X6_layerAt, wse_X6_layerAt, wii_X6, wco_X6_layerAt, ⟨by decide +kernel, by decide +kernel, by decide +kernel⟩, by decide⟩
theorem kT_X6_checkSize : CT MX6_checkSize 2 := ⟨wst_X6_checkSize, wii_X6, wco_X6_checkSize, ⟨by decide +kernel, by decide +kernel, by decide +kernel⟩, by decide⟩
theorem kV_X6_addPoint : CV MX6_addPoint 4 := ⟨win_X6_addPoint, wse_X6_addPoint, wii_X6, wco_X6_addPoint, ⟨by decide +kernel, by decide +kernel, by decide +kernel⟩, by decide⟩
theorem kT_X6_checkIsOfPoints : CT MX6_checkIsOfPoints 1 := ⟨wst_X6_checkIsOfPoints, wii_X6, wco_X6_checkIsOfPoints, ⟨by decide +kernel, by decide +kernel, by decide +kernel⟩, by decide⟩
theorem kT_X6_checkWithinMap : CT MX6_checkWithinMap 2 := ⟨wst_X6_checkWithinMap, wii_X6, wco_X6_checkWithinMap, ⟨by decide +kernel, by decide +kernel, by decide +kernel⟩, by decide⟩
theorem kV_X6_checkRoomFor : CV MX6_checkRoomFor 1 := ⟨win_X6_checkRoomFor, wse_X6_checkRoomFor, wii_X6, wco_X6_checkRoomFor, ⟨by decide +kernel, by decide +kernel, by decide +kernel⟩, by decide⟩
theorem kV_X4_add : CV MX4_add 2 := ⟨win_X4_add, wse_X4_add, wii_X4, wco_X4_add, ⟨by decide +kernel, by decide +kernel, by decide +kernel⟩, by decide⟩
theorem kV_X6_addBox : CV MX6_addBox 6 := ⟨win_X6_addBox, wse_X6_addBox, wii_X6, wco_X6_addBox, ⟨by decide +kernel, by decide +kernel, by decide +kernel⟩, by decide⟩
theorem kT_X6_checkIsOfBoxes : CT MX6_checkIsOfBoxes 1 := ⟨wst_X6_checkIsOfBoxes, wii_X6, wco_X6_checkIsOfBoxes, ⟨by decide +kernel, by decide +kernel, by decide +kernel⟩, by decide⟩
theorem kV_X6_move : CV MX6_move 3 := ⟨win_X6_move, wse_X6_move, wii_X6, wco_X6_move, ⟨by decide +kernel, by decide +kernel, by decide +kernel⟩, by decide⟩
theorem kV_X6_layerOfThing : CV MX6_layerOfThing 1 := ⟨win_X6_layerOfThing, wse_X6_layerOfThing, wii_X6, wco_X6_layerOfThing, ⟨by decide +kernel, by decide +kernel, by decide +kernel⟩, by decide⟩
theorem kV_X0_farFrom : CV MX0_farFrom 5 := ⟨win_X0_farFrom, wse_X0_farFrom, wii_X0, wco_X0_farFrom, ⟨by decide +kernel, by decide +kernel, by decide +kernel⟩, by decide⟩
theorem kT_X0_gap : CT MX0_gap 4 := ⟨wst_X0_gap, wii_X0, wco_X0_gap, ⟨by decide +kernel, by decide +kernel, by decide +kernel⟩, by decide⟩
theorem kV_X2_letGo : CV MX2_letGo 1 := ⟨win_X2_letGo, wse_X2_letGo, wii_X2, wco_X2_letGo, ⟨by decide +kernel, by decide +kernel, by decide +kernel⟩, by decide⟩
theorem kV_X6_remove : CV MX6_remove 1 := ⟨win_X6_remove, wse_X6_remove, wii_X6, wco_X6_remove, ⟨by decide +kernel, by decide +kernel, by decide +kernel⟩, by decide⟩
theorem kV_X4_countIn : CV MX4_countIn 1 := ⟨win_X4_countIn, wse_X4_countIn, wii_X4, wco_X4_countIn, ⟨by decide +kernel, by decide +kernel, by decide +kernel⟩, by decide⟩
theorem kV_X6_pack : CV MX6_pack 1 := ⟨win_X6_pack, wse_X6_pack, wii_X6, wco_X6_pack, ⟨by decide +kernel, by decide +kernel, by decide +kernel⟩, by decide⟩
theorem kV_X5_growPacked : CV MX5_growPacked 3 := ⟨win_X5_growPacked, wse_X5_growPacked, wii_X5, wco_X5_growPacked, ⟨by decide +kernel, by decide +kernel, by decide +kernel⟩, by decide⟩
theorem kV_X5_orderToPack : CV MX5_orderToPack 3 := ⟨win_X5_orderToPack, wse_X5_orderToPack, wii_X5, wco_X5_orderToPack, ⟨by decide +kernel, by decide +kernel, by decide +kernel⟩, by decide⟩
theorem kV_X0_twiceMiddleX : CV MX0_twiceMiddleX 1 := ⟨win_X0_twiceMiddleX, wse_X0_twiceMiddleX, wii_X0, wco_X0_twiceMiddleX, ⟨by decide +kernel, by decide +kernel, by decide +kernel⟩, by decide⟩
theorem kV_X3_sortPart : CV MX3_sortPart 2 := ⟨win_X3_sortPart, wse_X3_sortPart, wii_X3, wco_X3_sortPart, ⟨by decide +kernel, by decide +kernel, by decide +kernel⟩, by decide⟩
theorem kV_X0_twiceMiddleY : CV MX0_twiceMiddleY 1 := ⟨win_X0_twiceMiddleY, wse_X0_twiceMiddleY, wii_X0, wco_X0_twiceMiddleY, ⟨by decide +kernel, by decide +kernel, by decide +kernel⟩, by decide⟩
theorem kT_X5_sliceLength : CT MX5_sliceLength 2 := ⟨wst_X5_sliceLength, wii_X5, wco_X5_sliceLength, ⟨by decide +kernel, by decide +kernel, by decide +kernel⟩, by decide⟩
theorem kV_X5_cutLeaves : CV MX5_cutLeaves 3 := ⟨win_X5_cutLeaves, wse_X5_cutLeaves, wii_X5, wco_X5_cutLeaves, ⟨by decide +kernel, by decide +kernel, by decide +kernel⟩, by decide⟩
theorem kV_X5_copyBox : CV MX5_copyBox 3 := ⟨win_X5_copyBox, wse_X5_copyBox, wii_X5, wco_X5_copyBox, ⟨by decide +kernel, by decide +kernel, by decide +kernel⟩, by decide⟩
theorem kV_X0_stretchOver : CV MX0_stretchOver 3 := ⟨win_X0_stretchOver, wse_X0_stretchOver, wii_X0, wco_X0_stretchOver, ⟨by decide +kernel, by decide +kernel, by decide +kernel⟩, by decide⟩
theorem kV_X5_cutNodes : CV MX5_cutNodes 4 := ⟨win_X5_cutNodes, wse_X5_cutNodes, wii_X5, wco_X5_cutNodes, ⟨by decide +kernel, by decide +kernel, by decide +kernel⟩, by decide⟩
theorem kV_X6_things : CV MX6_things 0 := ⟨win_X6_things, wse_X6_things, wii_X6, wco_X6_things, ⟨by decide +kernel, by decide +kernel, by decide +kernel⟩, by decide⟩
theorem kV_X6_size : CV MX6_size 1 := ⟨win_X6_size, wse_X6_size, wii_X6, wco_X6_size, ⟨by decide +kernel, by decide +kernel, by decide +kernel⟩, by decide⟩
theorem kV_X6_of : CV MX6_of 2 := ⟨win_X6_of, wse_X6_of, wii_X6, wco_X6_of, ⟨by decide +kernel, by decide +kernel, by decide +kernel⟩, by decide⟩
theorem kV_X2_isLoose : CV MX2_isLoose 1 := ⟨win_X2_isLoose, wse_X2_isLoose, wii_X2, wco_X2_isLoose, ⟨by decide +kernel, by decide +kernel, by decide +kernel⟩, by decide⟩
theorem kV_X6_nodes : CV MX6_nodes 1 := ⟨win_X6_nodes, wse_X6_nodes, wii_X6, wco_X6_nodes, ⟨by decide +kernel, by decide +kernel, by decide +kernel⟩, by decide⟩
theorem kV_X6_leaf : CV MX6_leaf 4 := ⟨win_X6_leaf, wse_X6_leaf, wii_X6, wco_X6_leaf, ⟨by decide +kernel, by decide +kernel, by decide +kernel⟩, by decide⟩
theorem kV_X5_leafAt : CV MX5_leafAt 2 := ⟨win_X5_leafAt, wse_X5_leafAt, wii_X5, wco_X5_leafAt, ⟨by decide +kernel, by decide +kernel, by decide +kernel⟩, by decide⟩
theorem kV_X5_isLeaf : CV MX5_isLeaf 1 := ⟨win_X5_isLeaf, wse_X5_isLeaf, wii_X5, wco_X5_isLeaf, ⟨by decide +kernel, by decide +kernel, by decide +kernel⟩, by decide⟩
theorem kV_X5_belowAt : CV MX5_belowAt 2 := ⟨win_X5_belowAt, wse_X5_belowAt, wii_X5, wco_X5_belowAt, ⟨by decide +kernel, by decide +kernel, by decide +kernel⟩, by decide⟩
theorem kV_X6_level : CV MX6_level 2 := ⟨win_X6_level, wse_X6_level, wii_X6, wco_X6_level, ⟨by decide +kernel, by decide +kernel, by decide +kernel⟩, by decide⟩
theorem kV_X5_countOnLevel : CV MX5_countOnLevel 1 := ⟨win_X5_countOnLevel, wse_X5_countOnLevel, wii_X5, wco_X5_countOnLevel, ⟨by decide +kernel, by decide +kernel, by decide +kernel⟩, by decide⟩
theorem kV_X6_node : CV MX6_node 4 := ⟨win_X6_node, wse_X6_node, wii_X6, wco_X6_node, ⟨by decide +kernel, by decide +kernel, by decide +kernel⟩, by decide⟩
theorem kV_X5_firstOnLevel : CV MX5_firstOnLevel 1 := ⟨win_X5_firstOnLevel, wse_X5_firstOnLevel, wii_X5, wco_X5_firstOnLevel, ⟨by decide +kernel, by decide +kernel, by decide +kernel⟩, by decide⟩
theorem kV_X6_inBox : CV MX6_inBox 5 := ⟨win_X6_inBox, wse_X6_inBox, wii_X6, wco_X6_inBox, ⟨by decide +kernel, by decide +kernel, by decide +kernel⟩, by decide⟩
theorem kV_X4_countMeeting : CV MX4_countMeeting 5 := ⟨win_X4_countMeeting, wse_X4_countMeeting, wii_X4, wco_X4_countMeeting, ⟨by decide +kernel, by decide +kernel, by decide +kernel⟩, by decide⟩
theorem kV_X6_visited : CV MX6_visited 5 := ⟨win_X6_visited, wse_X6_visited, wii_X6, wco_X6_visited, ⟨by decide +kernel, by decide +kernel, by decide +kernel⟩, by decide⟩
theorem kV_X5_countVisited : CV MX5_countVisited 5 := ⟨win_X5_countVisited, wse_X5_countVisited, wii_X5, wco_X5_countVisited, ⟨by decide +kernel, by decide +kernel, by decide +kernel⟩, by decide⟩
theorem kV_X6_nearest : CV MX6_nearest 4 := ⟨win_X6_nearest, wse_X6_nearest, wii_X6, wco_X6_nearest, ⟨by decide +kernel, by decide +kernel, by decide +kernel⟩, by decide⟩
theorem kV_X6_keyOfNearest : CV MX6_keyOfNearest 4 := ⟨win_X6_keyOfNearest, wse_X6_keyOfNearest, wii_X6, wco_X6_keyOfNearest, ⟨by decide +kernel, by decide +kernel, by decide +kernel⟩, by decide⟩
theorem kV_X4_sortByFar : CV MX4_sortByFar 3 := ⟨win_X4_sortByFar, wse_X4_sortByFar, wii_X4, wco_X4_sortByFar, ⟨by decide +kernel, by decide +kernel, by decide +kernel⟩, by decide⟩
theorem kV_X6_far : CV MX6_far 4 := ⟨win_X6_far, wse_X6_far, wii_X6, wco_X6_far, ⟨by decide +kernel, by decide +kernel, by decide +kernel⟩, by decide⟩
theorem kV_X6_visitedFor : CV MX6_visitedFor 4 := ⟨win_X6_visitedFor, wse_X6_visitedFor, wii_X6, wco_X6_visitedFor, ⟨by decide +kernel, by decide +kernel, by decide +kernel⟩, by decide⟩
theorem kV_X6_pairs : CV MX6_pairs 3 := ⟨win_X6_pairs, wse_X6_pairs, wii_X6, wco_X6_pairs, ⟨by decide +kernel, by decide +kernel, by decide +kernel⟩, by decide⟩
theorem kT_X6_checkFar : CT MX6_checkFar 1 := ⟨wst_X6_checkFar, wii_X6, wco_X6_checkFar, ⟨by decide +kernel, by decide +kernel, by decide +kernel⟩, by decide⟩
theorem kV_X4_countPairs : CV MX4_countPairs 3 := ⟨win_X4_countPairs, wse_X4_countPairs, wii_X4, wco_X4_countPairs, ⟨by decide +kernel, by decide +kernel, by decide +kernel⟩, by decide⟩
theorem kV_X4_countNear : CV MX4_countNear 4 := ⟨win_X4_countNear, wse_X4_countNear, wii_X4, wco_X4_countNear, ⟨by decide +kernel, by decide +kernel, by decide +kernel⟩, by decide⟩
theorem kV_X0_farBetween : CV MX0_farBetween 3 := ⟨win_X0_farBetween, wse_X0_farBetween, wii_X0, wco_X0_farBetween, ⟨by decide +kernel, by decide +kernel, by decide +kernel⟩, by decide⟩
theorem kV_X6_visitedPairs : CV MX6_visitedPairs 3 := ⟨win_X6_visitedPairs, wse_X6_visitedPairs, wii_X6, wco_X6_visitedPairs, ⟨by decide +kernel, by decide +kernel, by decide +kernel⟩, by decide⟩
theorem kT_X6_countVisitedPairs : CT MX6_countVisitedPairs 6 := ⟨wst_X6_countVisitedPairs, wii_X6, wco_X6_countVisitedPairs, ⟨by decide +kernel, by decide +kernel, by decide +kernel⟩, by decide⟩
theorem kV_X6_clusters : CV MX6_clusters 2 := ⟨win_X6_clusters, wse_X6_clusters, wii_X6, wco_X6_clusters, ⟨by decide +kernel, by decide +kernel, by decide +kernel⟩, by decide⟩
theorem kV_X4_gatherClusters : CV MX4_gatherClusters 2 := ⟨win_X4_gatherClusters, wse_X4_gatherClusters, wii_X4, wco_X4_gatherClusters, ⟨by decide +kernel, by decide +kernel, by decide +kernel⟩, by decide⟩
theorem kV_X4_joinClusters : CV MX4_joinClusters 2 := ⟨win_X4_joinClusters, wse_X4_joinClusters, wii_X4, wco_X4_joinClusters, ⟨by decide +kernel, by decide +kernel, by decide +kernel⟩, by decide⟩
theorem kV_X4_countClusters : CV MX4_countClusters 1 := ⟨win_X4_countClusters, wse_X4_countClusters, wii_X4, wco_X4_countClusters, ⟨by decide +kernel, by decide +kernel, by decide +kernel⟩, by decide⟩
theorem kV_X6_greatest : CV MX6_greatest 2 := ⟨win_X6_greatest, wse_X6_greatest, wii_X6, wco_X6_greatest, ⟨by decide +kernel, by decide +kernel, by decide +kernel⟩, by decide⟩
theorem kV_X4_greatestCluster : CV MX4_greatestCluster 1 := ⟨win_X4_greatestCluster, wse_X4_greatestCluster, wii_X4, wco_X4_greatestCluster, ⟨by decide +kernel, by decide +kernel, by decide +kernel⟩, by decide⟩
theorem kV_X6_nodesWith : CV MX6_nodesWith 2 := ⟨win_X6_nodesWith, wse_X6_nodesWith, wii_X6, wco_X6_nodesWith, ⟨by decide +kernel, by decide +kernel, by decide +kernel⟩, by decide⟩
theorem kV_X6_digest : CV MX6_digest 0 := ⟨win_X6_digest, wse_X6_digest, wii_X6, wco_X6_digest, ⟨by decide +kernel, by decide +kernel, by decide +kernel⟩, by decide⟩
theorem kV_X6_depth : CV MX6_depth 1 := ⟨win_X6_depth, wse_X6_depth, wii_X6, wco_X6_depth, ⟨by decide +kernel, by decide +kernel, by decide +kernel⟩, by decide⟩
theorem kV_X5_countLevels : CV MX5_countLevels 0 := ⟨win_X5_countLevels, wse_X5_countLevels, wii_X5, wco_X5_countLevels, ⟨by decide +kernel, by decide +kernel, by decide +kernel⟩, by decide⟩
theorem kV_X6_area : CV MX6_area 0 := ⟨win_X6_area, wse_X6_area, wii_X6, wco_X6_area, ⟨by decide +kernel, by decide +kernel, by decide +kernel⟩, by decide⟩
theorem kV_X1_twiceItsArea : CV MX1_twiceItsArea 0 := ⟨win_X1_twiceItsArea, wse_X1_twiceItsArea, wii_X1, wco_X1_twiceItsArea, ⟨by decide +kernel, by decide +kernel, by decide +kernel⟩, by decide⟩
theorem kV_X1_next : CV MX1_next 1 := ⟨win_X1_next, wse_X1_next, wii_X1, wco_X1_next, ⟨by decide +kernel, by decide +kernel, by decide +kernel⟩, by decide⟩
theorem kT_L_below : CT ML_below 2 := ⟨wst_L_below, wii_L, wco_L_below, ⟨by decide +kernel, by decide +kernel, by decide +kernel⟩, by decide⟩
theorem kT_L_cell : CT ML_cell 2 := ⟨wst_L_cell, wii_L, wco_L_cell, ⟨by decide +kernel, by decide +kernel, by decide +kernel⟩, by decide⟩
theorem Sp.mono {K : GK} {M : MD} {d mc ms : Nat} {as : List Value} {h : VH} {P P' : Option Value → VH → Prop} {X : String → VH → Prop} (q : Sp K M d mc ms as h P X) (hp : ∀ v u, P v u → P' v u) : Sp K M d mc ms as h P' X := by
  intro hK p e ha hc hk s m args below hf happ hpre hT
  obtain ⟨n, o, h1, h2, h3, h4⟩ := q hK p e ha hc hk s m args below hf happ hpre hT
  refine ⟨n, o, h1, h2, h3, ?_⟩
  rcases h4 with ⟨⟨⟨v, u, e1, e2, e3⟩, e4⟩, e5⟩ | h4
  · exact Or.inl ⟨⟨⟨v, u, e1, hp v u e2, e3⟩, e4⟩, e5⟩
  · exact Or.inr h4
/-! a row's methods, over any cells -/
def rat (f : Nat → Int32) (n : Nat) (i : Int32) : Int32 := if i < 0 then 0 else if nI n ≤ i then 0 else f i.toNatClampNeg
def rput (f : Nat → Int32) (n : Nat) (i x : Int32) : Nat → Int32 := if i < 0 then f else if nI n ≤ i then f else upd f i.toNatClampNeg x
def rfil (f : Nat → Int32) (n : Nat) (x : Int32) (j : Nat) : Nat → Int32 := fun k => if j ≤ k ∧ k < n then x else f k
/-- the hole goes down, then the key is put -/
def insA (f : Nat → Int32) (start : Nat) (key : Int32) (hole : Nat) : Nat → Int32 := match hole with
  | 0 => upd f 0 key
  | h + 1 => if start < h + 1 ∧ key < f h then insA (upd f (h + 1) (f h)) start key h else upd f (h + 1) key
/-- c keys from the i-th on are put in order among those from start on -/
def srtA (f : Nat → Int32) (start i c : Nat) : Nat → Int32 := match c with
  | 0 => f
  | c + 1 => srtA (insA f start (f i) i) start (i + 1) c
theorem set_same {h : VH} {a : Nat} {e : VE} (he : h.2[a]? = some e) : (h.1, h.2.set a e) = h := by
  refine Prod.ext rfl ?_
  apply List.ext_getElem?
  intro k
  show (h.2.set a e)[k]? = _
  rw [List.getElem?_set]
  by_cases hk : a = k
  · subst hk
    rw [if_pos rfl, if_pos (List.getElem?_eq_some_iff.mp he).1, he]
  · rw [if_neg hk]
theorem set_ne {h : VH} {a r : Nat} {e : VE} {x : Option VE} (hr : h.2[r]? = x) (hra : a ≠ r) : ((h.1, h.2.set a e) : VH).2[r]? = x := by
  show (h.2.set a e)[r]? = _
  rw [List.getElem?_set, if_neg hra]
  exact hr
theorem set_at {h : VH} {a : Nat} {e e0 : VE} (ha : h.2[a]? = some e0) : ((h.1, h.2.set a e) : VH).2[a]? = some e := by
  show (h.2.set a e)[a]? = _
  rw [List.getElem?_set, if_pos rfl, if_pos (List.getElem?_eq_some_iff.mp ha).1]
theorem vin_of {n : Nat} {i : Int32} (hn : n < 2 ^ 31) (h1 : ¬ i < 0) (h2 : ¬ nI n ≤ i) : vp_in i n := by
  rcases pk_ix i hn with h | h | ⟨j, hj, rfl⟩
  · exact absurd h h1
  · exact absurd h h2
  · exact vp_in_nI hj hn
section RW
variable {K : GK} {h : VH} {r a n : Nat} {f : Nat → Int32}

theorem sp_X3_at0 (hr : h.2[r]? = some (.inr (3, [.ref a]))) (ha : h.2[a]? = some (.inl (0, n, .inl f))) (hn : n < 2 ^ 31) (i : Int32) : Sp K MX3_at 2 0 0 [.ref r, .int i] h (fun v u => v = some (.int (rat f n i)) ∧ u = h) noX := by
  refine Sp_of (by decide) (Nat.le_of_ble_eq_true rfl) ?_
  refine G_iload_n dX3_at_0 rfl ?_
  refine G_if_lt (tgt := 22) dX3_at_1 (by decide) (fun c_1 => ?_) (fun c_1 => ?_)
  · refine G_iconst (v := 0) dX3_at_22 (by decide) ?_
    exact G_iret dX3_at_23 rfl rfl ⟨Nat.le_refl 0, Nat.le_refl 0⟩ ⟨by first | (rw [rat, if_neg c_1, if_neg c_10]) | (rw [rat, if_pos c_1]) | (rw [rat, if_neg c_1, if_pos c_10]), rfl⟩
  · refine G_iload_n dX3_at_4 rfl ?_
    refine G_aload_n dX3_at_5 rfl ?_
    refine G_get (k := 0) dX3_at_6 hr rfl wfl_X3_13 (by decide) rfl ?_
    refine G_alen (t := 0) dX3_at_9 ha rfl ?_
    refine G_icmp_ge (tgt := 22) dX3_at_10 (by decide) (fun c_10 => ?_) (fun c_10 => ?_)
    · refine G_iconst (v := 0) dX3_at_22 (by decide) ?_
      exact G_iret dX3_at_23 rfl rfl ⟨Nat.le_refl 0, Nat.le_refl 0⟩ ⟨by first | (rw [rat, if_neg c_1, if_neg c_10]) | (rw [rat, if_pos c_1]) | (rw [rat, if_neg c_1, if_pos c_10]), rfl⟩
    · refine G_aload_n dX3_at_13 rfl ?_
      refine G_get (k := 0) dX3_at_14 hr rfl wfl_X3_13 (by decide) rfl ?_
      refine G_iload_n dX3_at_17 rfl ?_
      refine G_iald dX3_at_18 ha (vin_of hn c_1 c_10) ?_
      refine G_goto (tgt := 23) dX3_at_19 (by decide) ?_
      exact G_iret dX3_at_23 rfl rfl ⟨Nat.le_refl 0, Nat.le_refl 0⟩ ⟨by first | (rw [rat, if_neg c_1, if_neg c_10]) | (rw [rat, if_pos c_1]) | (rw [rat, if_neg c_1, if_pos c_10]), rfl⟩
theorem sp_X3_put0 (hr : h.2[r]? = some (.inr (3, [.ref a]))) (ha : h.2[a]? = some (.inl (0, n, .inl f))) (hn : n < 2 ^ 31) (i x : Int32) : Sp K MX3_put 2 0 0 [.ref r, .int i, .int x] h (fun v u => v = none ∧ u = (h.1, h.2.set a (.inl (0, n, .inl (rput f n i x))))) noX := by
  refine Sp_of (by decide) (Nat.le_of_ble_eq_true rfl) ?_
  refine G_iload_n dX3_put_0 rfl ?_
  refine G_if_lt (tgt := 20) dX3_put_1 (by decide) (fun c_1 => ?_) (fun c_1 => ?_)
  · exact G_vret dX3_put_20 rfl ⟨Nat.le_refl 0, Nat.le_refl 0⟩ ⟨rfl, by first | (rw [rput, if_neg c_1, if_neg c_10]) | (rw [rput, if_pos c_1]; exact (set_same ha).symm) | (rw [rput, if_neg c_1, if_pos c_10]; exact (set_same ha).symm)⟩
  · refine G_iload_n dX3_put_4 rfl ?_
    refine G_aload_n dX3_put_5 rfl ?_
    refine G_get (k := 0) dX3_put_6 hr rfl wfl_X3_13 (by decide) rfl ?_
    refine G_alen (t := 0) dX3_put_9 ha rfl ?_
    refine G_icmp_ge (tgt := 20) dX3_put_10 (by decide) (fun c_10 => ?_) (fun c_10 => ?_)
    · exact G_vret dX3_put_20 rfl ⟨Nat.le_refl 0, Nat.le_refl 0⟩ ⟨rfl, by first | (rw [rput, if_neg c_1, if_neg c_10]) | (rw [rput, if_pos c_1]; exact (set_same ha).symm) | (rw [rput, if_neg c_1, if_pos c_10]; exact (set_same ha).symm)⟩
    · refine G_aload_n dX3_put_13 rfl ?_
      refine G_get (k := 0) dX3_put_14 hr rfl wfl_X3_13 (by decide) rfl ?_
      refine G_iload_n dX3_put_17 rfl ?_
      refine G_iload_n dX3_put_18 rfl ?_
      refine G_iast dX3_put_19 ha (vin_of hn c_1 c_10) ?_
      exact G_vret dX3_put_20 rfl ⟨Nat.le_refl 0, Nat.le_refl 0⟩ ⟨rfl, by first | (rw [rput, if_neg c_1, if_neg c_10]) | (rw [rput, if_pos c_1]; exact (set_same ha).symm) | (rw [rput, if_neg c_1, if_pos c_10]; exact (set_same ha).symm)⟩
theorem sp_X3_addTo0 (hr : h.2[r]? = some (.inr (3, [.ref a]))) (ha : h.2[a]? = some (.inl (0, n, .inl f))) (hn : n < 2 ^ 31) (i x : Int32) : Sp K MX3_addTo 2 0 0 [.ref r, .int i, .int x] h (fun v u => v = none ∧ u = (h.1, h.2.set a (.inl (0, n, .inl (rput f n i (f i.toNatClampNeg + x)))))) noX := by
  refine Sp_of (by decide) (Nat.le_of_ble_eq_true rfl) ?_
  refine G_iload_n dX3_addTo_0 rfl ?_
  refine G_if_lt (tgt := 23) dX3_addTo_1 (by decide) (fun c_1 => ?_) (fun c_1 => ?_)
  · exact G_vret dX3_addTo_23 rfl ⟨Nat.le_refl 0, Nat.le_refl 0⟩ ⟨rfl, by first | (rw [rput, if_neg c_1, if_neg c_10]) | (rw [rput, if_pos c_1]; exact (set_same ha).symm) | (rw [rput, if_neg c_1, if_pos c_10]; exact (set_same ha).symm)⟩
  · refine G_iload_n dX3_addTo_4 rfl ?_
    refine G_aload_n dX3_addTo_5 rfl ?_
    refine G_get (k := 0) dX3_addTo_6 hr rfl wfl_X3_13 (by decide) rfl ?_
    refine G_alen (t := 0) dX3_addTo_9 ha rfl ?_
    refine G_icmp_ge (tgt := 23) dX3_addTo_10 (by decide) (fun c_10 => ?_) (fun c_10 => ?_)
    · exact G_vret dX3_addTo_23 rfl ⟨Nat.le_refl 0, Nat.le_refl 0⟩ ⟨rfl, by first | (rw [rput, if_neg c_1, if_neg c_10]) | (rw [rput, if_pos c_1]; exact (set_same ha).symm) | (rw [rput, if_neg c_1, if_pos c_10]; exact (set_same ha).symm)⟩
    · refine G_aload_n dX3_addTo_13 rfl ?_
      refine G_get (k := 0) dX3_addTo_14 hr rfl wfl_X3_13 (by decide) rfl ?_
      refine G_iload_n dX3_addTo_17 rfl ?_
      refine G_dup2 dX3_addTo_18 rfl rfl ?_
      refine G_iald dX3_addTo_19 ha (vin_of hn c_1 c_10) ?_
      refine G_iload_n dX3_addTo_20 rfl ?_
      refine G_iadd dX3_addTo_21 ?_
      refine G_iast dX3_addTo_22 ha (vin_of hn c_1 c_10) ?_
      exact G_vret dX3_addTo_23 rfl ⟨Nat.le_refl 0, Nat.le_refl 0⟩ ⟨rfl, by first | (rw [rput, if_neg c_1, if_neg c_10]) | (rw [rput, if_pos c_1]; exact (set_same ha).symm) | (rw [rput, if_neg c_1, if_pos c_10]; exact (set_same ha).symm)⟩
theorem rfil_step {f : Nat → Int32} {n j : Nat} {x : Int32} (hj : j < n) : rfil (upd f j x) n x (j + 1) = rfil f n x j := by
  funext k
  unfold rfil upd
  by_cases h1 : k = j
  · subst h1
    rw [if_neg (by omega), if_pos rfl, if_pos ⟨Nat.le_refl _, hj⟩]
  · by_cases h2 : j ≤ k ∧ k < n
    · rw [if_pos (by omega), if_pos h2]
    · rw [if_neg (by omega), if_neg h1, if_neg h2]
theorem rfil_end {f : Nat → Int32} {n j : Nat} {x : Int32} (hj : n ≤ j) : rfil f n x j = f := by
  funext k
  unfold rfil
  rw [if_neg (by omega)]
theorem lp_X3_fill (x : Int32) (P : Option Value → VH → Prop) (hra : a ≠ r) (hn : n < 2 ^ 31) : ∀ (m j : Nat) (h : VH) (f : Nat → Int32), n - j = m → j ≤ n → h.2[r]? = some (.inr (3, [.ref a])) → h.2[a]? = some (.inl (0, n, .inl f)) → P none (h.1, h.2.set a (.inl (0, n, .inl (rfil f n x j)))) →
    G K MX3_fill 2 0 0 0 0 2 [(2, .int (nI j)), (0, .ref r), (1, .int x)] [] h (QcP K P) (XcP K noX) := by
  intro m
  induction m with
  | zero =>
    intro j h f hm hjn hr ha hp
    refine G_iload_n dX3_fill_2 rfl ?_
    refine G_aload_n dX3_fill_3 rfl ?_
    refine G_get (k := 0) dX3_fill_4 hr rfl wfl_X3_13 (by decide) rfl ?_
    refine G_alen (t := 0) dX3_fill_7 ha rfl ?_
    refine G_icmp_ge (tgt := 24) dX3_fill_8 (by decide) (fun c_8 => ?_) (fun c_8 => ?_)
    · exact G_vret dX3_fill_24 rfl ⟨Nat.le_refl 0, Nat.le_refl 0⟩ (by rw [rfil_end (by omega)] at hp; rw [set_same ha] at hp; exact hp)
    · exact absurd (nI_le (show n ≤ j by omega) (show j < 2 ^ 31 by omega)) c_8
  | succ m ih =>
    intro j h f hm hjn hr ha hp
    have hj : j < n := by omega
    refine G_iload_n dX3_fill_2 rfl ?_
    refine G_aload_n dX3_fill_3 rfl ?_
    refine G_get (k := 0) dX3_fill_4 hr rfl wfl_X3_13 (by decide) rfl ?_
    refine G_alen (t := 0) dX3_fill_7 ha rfl ?_
    refine G_icmp_ge (tgt := 24) dX3_fill_8 (by decide) (fun c_8 => ?_) (fun c_8 => ?_)
    · exact absurd c_8 (nI_ge hj hn)
    · refine G_aload_n dX3_fill_11 rfl ?_
      refine G_get (k := 0) dX3_fill_12 hr rfl wfl_X3_13 (by decide) rfl ?_
      refine G_iload_n dX3_fill_15 rfl ?_
      refine G_iload_n dX3_fill_16 rfl ?_
      refine G_iast dX3_fill_17 ha (vp_in_nI hj hn) ?_
      refine GS_iinc (v := 1) (L' := [(2, _), (0, _), (1, _)]) dX3_fill_18 rfl (by decide) (by decide) rfl ?_
      refine G_goto (tgt := 2) dX3_fill_21 (by decide) ?_
      refine G_sub [0, 1, 2] rfl ?_
      rw [nI_clamp (show j < 2 ^ 31 by omega)]
      rw [nI_1 j]
      refine ih (j + 1) _ _ (by omega) (by omega) (set_ne hr hra) (set_at ha) ?_
      show P none (h.1, (h.2.set a _).set a _)
      rw [List.set_set, rfil_step hj]
      exact hp
theorem sp_X3_fill0 (hr : h.2[r]? = some (.inr (3, [.ref a]))) (ha : h.2[a]? = some (.inl (0, n, .inl f))) (hn : n < 2 ^ 31) (hra : a ≠ r) (x : Int32) : Sp K MX3_fill 2 0 0 [.ref r, .int x] h (fun v u => v = none ∧ u = (h.1, h.2.set a (.inl (0, n, .inl (rfil f n x 0))))) noX := by
  refine Sp_of (by decide) (Nat.le_of_ble_eq_true rfl) ?_
  refine G_iconst (v := 0) dX3_fill_0 (by decide) ?_
  refine GS_istore_n (L' := [(2, _), (0, _), (1, _)]) dX3_fill_1 (by decide) rfl ?_
  refine G_sub [0, 1, 2] rfl ?_
  exact lp_X3_fill x _ hra hn _ 0 h f rfl (Nat.zero_le n) hr ha ⟨rfl, rfl⟩
end RW
end
section
section RS
variable {K : GK} {r a n : Nat}
theorem i32_nle {x y : Int32} (h : ¬ x ≤ y) : y < x := by
  rw [Int32.lt_iff_toInt_lt]; rw [Int32.le_iff_toInt_le] at h; omega
theorem i32_nlt {x y : Int32} (h : ¬ x < y) : y ≤ x := by
  rw [Int32.le_iff_toInt_le]; rw [Int32.lt_iff_toInt_lt] at h; omega
theorem lp_sortIn (hra : a ≠ r) (hn : n < 2 ^ 30) (a0 i b0 : Nat) (key : Int32) (ha0 : a0 < 2 ^ 30) {Qc : Array Value → State → Outcome → State → Prop} {XC : String → State → State → Prop} : ∀ (hole : Nat) (h : VH) (f : Nat → Int32), hole < n → h.2[r]? = some (.inr (3, [.ref a])) → h.2[a]? = some (.inl (0, n, .inl f)) →
    G K MX3_sortPart 2 0 0 0 0 91 [(5, .int (nI i)), (3, .int (nI a0)), (4, .int (nI b0)), (0, .ref r)] [] (h.1, h.2.set a (.inl (0, n, .inl (insA f a0 key hole)))) Qc XC →
    G K MX3_sortPart 2 0 0 0 0 40 [(7, .int (nI hole)), (6, .int key), (5, .int (nI i)), (3, .int (nI a0)), (4, .int (nI b0)), (0, .ref r)] [] h Qc XC := by
  intro hole
  induction hole with
  | zero =>
    intro h f hh hr ha hp
    refine G_iload dX3_sortPart_40 rfl ?_
    refine G_iload_n dX3_sortPart_42 rfl ?_
    refine G_icmp_le (tgt := 82) dX3_sortPart_43 (by decide) (fun c_43 => ?_) (fun c_43 => ?_)
    · refine G_aload_n dX3_sortPart_82 rfl ?_
      refine G_get (k := 0) dX3_sortPart_83 hr rfl wfl_X3_13 (by decide) rfl ?_
      refine G_iload dX3_sortPart_86 rfl ?_
      refine G_iload dX3_sortPart_88 rfl ?_
      refine G_iast dX3_sortPart_90 ha (vp_in_nI hh (by omega)) ?_
      refine G_sub [2, 3, 4, 5] rfl ?_
      rw [nI_clamp (show 0 < 2 ^ 31 by omega)]
      exact hp
    · exact absurd (nI_le (Nat.zero_le a0) (by omega)) c_43
  | succ hole ih =>
    intro h f hh hr ha hp
    rcases Nat.lt_or_ge a0 (hole + 1) with hlt | hge
    · refine G_iload dX3_sortPart_40 rfl ?_
      refine G_iload_n dX3_sortPart_42 rfl ?_
      refine G_icmp_le (tgt := 82) dX3_sortPart_43 (by decide) (fun c_43 => ?_) (fun c_43 => ?_)
      · exact absurd c_43 (nI_ge hlt (by omega))
      · refine G_aload_n dX3_sortPart_46 rfl ?_
        refine G_get (k := 0) dX3_sortPart_47 hr rfl wfl_X3_13 (by decide) rfl ?_
        refine G_iload dX3_sortPart_50 rfl ?_
        refine G_iconst (v := 1) dX3_sortPart_52 (by decide) ?_
        refine G_isub dX3_sortPart_53 ?_
        rw [nI_pred hole]
        refine G_iald dX3_sortPart_54 ha (vp_in_nI (show hole < n by omega) (by omega)) ?_
        refine G_iload dX3_sortPart_55 rfl ?_
        refine G_icmp_le (tgt := 82) dX3_sortPart_57 (by decide) (fun c_57 => ?_) (fun c_57 => ?_)
        · refine G_aload_n dX3_sortPart_82 rfl ?_
          refine G_get (k := 0) dX3_sortPart_83 hr rfl wfl_X3_13 (by decide) rfl ?_
          refine G_iload dX3_sortPart_86 rfl ?_
          refine G_iload dX3_sortPart_88 rfl ?_
          refine G_iast dX3_sortPart_90 ha (vp_in_nI hh (by omega)) ?_
          refine G_sub [2, 3, 4, 5] rfl ?_
          rw [nI_clamp (show hole + 1 < 2 ^ 31 by omega)]
          rw [nI_clamp (show hole < 2 ^ 31 by omega)] at c_57
          rw [insA, if_neg (fun q => absurd c_57 (fun z => absurd (Int32.lt_of_lt_of_le q.2 z) (Int32.lt_irrefl)))] at hp
          exact hp
        · refine G_aload_n dX3_sortPart_60 rfl ?_
          refine G_get (k := 0) dX3_sortPart_61 hr rfl wfl_X3_13 (by decide) rfl ?_
          refine G_iload dX3_sortPart_64 rfl ?_
          refine G_aload_n dX3_sortPart_66 rfl ?_
          refine G_get (k := 0) dX3_sortPart_67 hr rfl wfl_X3_13 (by decide) rfl ?_
          refine G_iload dX3_sortPart_70 rfl ?_
          refine G_iconst (v := 1) dX3_sortPart_72 (by decide) ?_
          refine G_isub dX3_sortPart_73 ?_
          rw [nI_pred hole]
          refine G_iald dX3_sortPart_74 ha (vp_in_nI (show hole < n by omega) (by omega)) ?_
          refine G_iast dX3_sortPart_75 ha (vp_in_nI hh (by omega)) ?_
          refine GS_iinc (v := (-1)) (L' := [(7, _), (6, _), (5, _), (3, _), (4, _), (0, _)]) dX3_sortPart_76 rfl (by decide) (by decide) rfl ?_
          refine G_goto (tgt := 40) dX3_sortPart_79 (by decide) ?_
          refine G_sub [0, 1, 2, 3, 4, 5] rfl ?_
          rw [pk_m1 hole, nI_clamp (show hole + 1 < 2 ^ 31 by omega), nI_clamp (show hole < 2 ^ 31 by omega)]
          rw [nI_clamp (show hole < 2 ^ 31 by omega)] at c_57
          refine ih _ _ (by omega) (set_ne hr hra) (set_at ha) ?_
          rw [insA, if_pos ⟨hlt, i32_nle c_57⟩] at hp
          show G K MX3_sortPart 2 0 0 0 0 91 _ [] (h.1, (h.2.set a _).set a _) Qc XC
          rw [List.set_set]
          exact hp
    · refine G_iload dX3_sortPart_40 rfl ?_
      refine G_iload_n dX3_sortPart_42 rfl ?_
      refine G_icmp_le (tgt := 82) dX3_sortPart_43 (by decide) (fun c_43 => ?_) (fun c_43 => ?_)
      · refine G_aload_n dX3_sortPart_82 rfl ?_
        refine G_get (k := 0) dX3_sortPart_83 hr rfl wfl_X3_13 (by decide) rfl ?_
        refine G_iload dX3_sortPart_86 rfl ?_
        refine G_iload dX3_sortPart_88 rfl ?_
        refine G_iast dX3_sortPart_90 ha (vp_in_nI hh (by omega)) ?_
        refine G_sub [2, 3, 4, 5] rfl ?_
        rw [nI_clamp (show hole + 1 < 2 ^ 31 by omega)]
        rw [insA, if_neg (fun q => by omega)] at hp
        exact hp
      · exact absurd (nI_le hge (by omega)) c_43
theorem lp_sortOut (hra : a ≠ r) (hn : n < 2 ^ 30) (a0 b0 : Nat) (ha0 : a0 < 2 ^ 30) (hb0 : b0 ≤ n) (P : Option Value → VH → Prop) : ∀ (c i : Nat) (h : VH) (f : Nat → Int32), i + c = b0 → h.2[r]? = some (.inr (3, [.ref a])) → h.2[a]? = some (.inl (0, n, .inl f)) →
    P none (h.1, h.2.set a (.inl (0, n, .inl (srtA f a0 i c)))) →
    G K MX3_sortPart 2 0 0 0 0 20 [(5, .int (nI i)), (3, .int (nI a0)), (4, .int (nI b0)), (0, .ref r)] [] h (QcP K P) (XcP K noX) := by
  intro c
  induction c with
  | zero =>
    intro i h f hi hr ha hp
    refine G_iload dX3_sortPart_20 rfl ?_
    refine G_iload dX3_sortPart_22 rfl ?_
    refine G_icmp_ge (tgt := 97) dX3_sortPart_24 (by decide) (fun c_24 => ?_) (fun c_24 => ?_)
    · exact G_vret dX3_sortPart_97 rfl ⟨Nat.le_refl 0, Nat.le_refl 0⟩ (by rw [srtA, set_same ha] at hp; exact hp)
    · exact absurd (nI_le (show b0 ≤ i by omega) (by omega)) c_24
  | succ c ih =>
    intro i h f hi hr ha hp
    refine G_iload dX3_sortPart_20 rfl ?_
    refine G_iload dX3_sortPart_22 rfl ?_
    refine G_icmp_ge (tgt := 97) dX3_sortPart_24 (by decide) (fun c_24 => ?_) (fun c_24 => ?_)
    · exact absurd c_24 (nI_ge (show i < b0 by omega) (by omega))
    · refine G_aload_n dX3_sortPart_27 rfl ?_
      refine G_get (k := 0) dX3_sortPart_28 hr rfl wfl_X3_13 (by decide) rfl ?_
      refine G_iload dX3_sortPart_31 rfl ?_
      refine G_iald dX3_sortPart_33 ha (vp_in_nI (show i < n by omega) (by omega)) ?_
      refine GS_istore (L' := [(6, _), (5, _), (3, _), (4, _), (0, _)]) dX3_sortPart_34 (by decide) rfl ?_
      refine G_iload dX3_sortPart_36 rfl ?_
      refine GS_istore (L' := [(7, _), (6, _), (5, _), (3, _), (4, _), (0, _)]) dX3_sortPart_38 (by decide) rfl ?_
      refine G_sub [0, 1, 2, 3, 4, 5] rfl ?_
      rw [nI_clamp (show i < 2 ^ 31 by omega)]
      refine lp_sortIn hra hn a0 i b0 (f i) ha0 i h f (by omega) hr ha ?_
      refine GS_iinc (v := 1) (L' := [(5, _), (3, _), (4, _), (0, _)]) dX3_sortPart_91 rfl (by decide) (by decide) rfl ?_
      refine G_goto (tgt := 20) dX3_sortPart_94 (by decide) ?_
      refine G_sub [0, 1, 2, 3] rfl ?_
      rw [nI_1 i]
      refine ih (i + 1) _ _ (by omega) (set_ne hr hra) (set_at ha) ?_
      show P none (h.1, (h.2.set a _).set a _)
      rw [List.set_set]
      exact hp
theorem sp_X3_sortPart0 {h : VH} {f : Nat → Int32} (hr : h.2[r]? = some (.inr (3, [.ref a]))) (ha : h.2[a]? = some (.inl (0, n, .inl f))) (hra : a ≠ r) (hn : n < 2 ^ 30) (a0 b0 : Nat) (ha0 : a0 ≤ b0) (hb0 : b0 ≤ n) : Sp K MX3_sortPart 2 0 0 [.ref r, .int (nI a0), .int (nI b0)] h (fun v u => v = none ∧ u = (h.1, h.2.set a (.inl (0, n, .inl (srtA f a0 a0 (b0 - a0)))))) noX := by
  refine Sp_of (by decide) (Nat.le_of_ble_eq_true rfl) ?_
  refine G_iload_n dX3_sortPart_0 rfl ?_
  refine G_iconst (v := 0) dX3_sortPart_1 (by decide) ?_
  refine G_max dX3_sortPart_2 wml_X3_7 (by decide) ⟨Nat.le_refl 0, Nat.le_refl 0⟩ (Nat.le_of_ble_eq_true rfl) ?_
  rw [if_neg (nI_pos (show a0 < 2 ^ 31 by omega))]
  refine GS_istore_n (L' := [(3, _), (0, _), (1, _), (2, _)]) dX3_sortPart_5 (by decide) rfl ?_
  refine G_iload_n dX3_sortPart_6 rfl ?_
  refine G_aload_n dX3_sortPart_7 rfl ?_
  refine G_get (k := 0) dX3_sortPart_8 hr rfl wfl_X3_13 (by decide) rfl ?_
  refine G_alen (t := 0) dX3_sortPart_11 ha rfl ?_
  refine G_min dX3_sortPart_12 wml_X3_19 (by decide) ⟨Nat.le_refl 0, Nat.le_refl 0⟩ (Nat.le_of_ble_eq_true rfl) ?_
  rw [if_neg (nI_nlt hb0 (by omega))]
  refine GS_istore (L' := [(4, _), (3, _), (0, _), (1, _), (2, _)]) dX3_sortPart_15 (by decide) rfl ?_
  refine G_iload_n dX3_sortPart_17 rfl ?_
  refine GS_istore (L' := [(5, _), (4, _), (3, _), (0, _), (1, _), (2, _)]) dX3_sortPart_18 (by decide) rfl ?_
  refine G_sub [0, 2, 1, 3] rfl ?_
  exact lp_sortOut hra hn a0 b0 (by omega) hb0 _ (b0 - a0) a0 h f (by omega) hr ha ⟨rfl, rfl⟩
end RS
section CR
variable {K : GK} {M : MD} {d mc ms uc us pc : Nat} {L : List (Nat × Value)} {h h' : VH} {Qc : Array Value → State → Outcome → State → Prop} {XC : String → State → State → Prop}
/-! calls whose answer and cells are told exactly, that make nothing and throw nothing -/
theorem G_cVi {M' : MD} {n d' a ci idx : Nat} {r : vw_C} {fs As rest st : List Value} {z : Int32} (hdg : decode M.2.1 pc = .ok (.invokevirtual idx, 3)) (hcv : CV M' n) (hlink : Cond.methodLink M.1.cls idx M'.1 ∈ tbG) (hSp : Sp K M' d' 0 0 (.ref a :: As) h (fun v u => v = some (.int z) ∧ u = h') noX) (hst : st = As.reverse ++ .ref a :: rest)
    (hc : h.2[a]? = some (.inr (ci, fs))) (hr : gcl[ci]? = some r) (hrc : r.1 = M'.1.cls) (hn : As.length = n) (hd : d' + 1 ≤ d) (hcs : uc ≤ mc ∧ us ≤ ms) (hw : (rest.map fun v => v.category).sum ≤ 8)
    (kk : G K M d mc ms uc us (pc + 3) L (.int z :: rest) h' Qc XC) : G K M d mc ms uc us pc L st h Qc XC :=
  G_callV hdg hcv hlink hSp hst hc hr hrc hn hd hcs hw (fun v u q => by obtain ⟨rfl, rfl⟩ := q; exact kk) (fun _ _ q => q.elim)
theorem G_cVl {M' : MD} {n d' a ci idx : Nat} {r : vw_C} {fs As rest st : List Value} {z : Int64} (hdg : decode M.2.1 pc = .ok (.invokevirtual idx, 3)) (hcv : CV M' n) (hlink : Cond.methodLink M.1.cls idx M'.1 ∈ tbG) (hSp : Sp K M' d' 0 0 (.ref a :: As) h (fun v u => v = some (.long z) ∧ u = h') noX) (hst : st = As.reverse ++ .ref a :: rest)
    (hc : h.2[a]? = some (.inr (ci, fs))) (hr : gcl[ci]? = some r) (hrc : r.1 = M'.1.cls) (hn : As.length = n) (hd : d' + 1 ≤ d) (hcs : uc ≤ mc ∧ us ≤ ms) (hw : (rest.map fun v => v.category).sum ≤ 8)
    (kk : G K M d mc ms uc us (pc + 3) L (.long z :: rest) h' Qc XC) : G K M d mc ms uc us pc L st h Qc XC :=
  G_callV hdg hcv hlink hSp hst hc hr hrc hn hd hcs hw (fun v u q => by obtain ⟨rfl, rfl⟩ := q; exact kk) (fun _ _ q => q.elim)
theorem G_cVr {M' : MD} {n d' a ci idx : Nat} {r : vw_C} {fs As rest st : List Value} {z : Nat} (hdg : decode M.2.1 pc = .ok (.invokevirtual idx, 3)) (hcv : CV M' n) (hlink : Cond.methodLink M.1.cls idx M'.1 ∈ tbG) (hSp : Sp K M' d' 0 0 (.ref a :: As) h (fun v u => v = some (.ref z) ∧ u = h') noX) (hst : st = As.reverse ++ .ref a :: rest)
    (hc : h.2[a]? = some (.inr (ci, fs))) (hr : gcl[ci]? = some r) (hrc : r.1 = M'.1.cls) (hn : As.length = n) (hd : d' + 1 ≤ d) (hcs : uc ≤ mc ∧ us ≤ ms) (hw : (rest.map fun v => v.category).sum ≤ 8)
    (kk : G K M d mc ms uc us (pc + 3) L (.ref z :: rest) h' Qc XC) : G K M d mc ms uc us pc L st h Qc XC :=
  G_callV hdg hcv hlink hSp hst hc hr hrc hn hd hcs hw (fun v u q => by obtain ⟨rfl, rfl⟩ := q; exact kk) (fun _ _ q => q.elim)
theorem G_cVv {M' : MD} {n d' a ci idx : Nat} {r : vw_C} {fs As rest st : List Value} (hdg : decode M.2.1 pc = .ok (.invokevirtual idx, 3)) (hcv : CV M' n) (hlink : Cond.methodLink M.1.cls idx M'.1 ∈ tbG) (hSp : Sp K M' d' 0 0 (.ref a :: As) h (fun v u => v = none ∧ u = h') noX) (hst : st = As.reverse ++ .ref a :: rest)
    (hc : h.2[a]? = some (.inr (ci, fs))) (hr : gcl[ci]? = some r) (hrc : r.1 = M'.1.cls) (hn : As.length = n) (hd : d' + 1 ≤ d) (hcs : uc ≤ mc ∧ us ≤ ms) (hw : (rest.map fun v => v.category).sum ≤ 8)
    (kk : G K M d mc ms uc us (pc + 3) L rest h' Qc XC) : G K M d mc ms uc us pc L st h Qc XC :=
  G_callV hdg hcv hlink hSp hst hc hr hrc hn hd hcs hw (fun v u q => by obtain ⟨rfl, rfl⟩ := q; exact kk) (fun _ _ q => q.elim)
theorem G_cSi {M' : MD} {n d' idx : Nat} {As rest st : List Value} {z : Int32} (hdg : decode M.2.1 pc = .ok (.invokestatic idx, 3)) (hcv : CT M' n) (hlink : Cond.methodLink M.1.cls idx M'.1 ∈ tbG) (hSp : Sp K M' d' 0 0 As h (fun v u => v = some (.int z) ∧ u = h') noX) (hst : st = As.reverse ++ rest)
    (hn : As.length = n) (hd : d' + 1 ≤ d) (hcs : uc ≤ mc ∧ us ≤ ms) (hw : (rest.map fun v => v.category).sum ≤ 8)
    (kk : G K M d mc ms uc us (pc + 3) L (.int z :: rest) h' Qc XC) : G K M d mc ms uc us pc L st h Qc XC :=
  G_callS hdg hcv hlink hSp hst hn hd hcs hw (fun v u q => by obtain ⟨rfl, rfl⟩ := q; exact kk) (fun _ _ q => q.elim)
theorem G_cSv {M' : MD} {n d' idx : Nat} {As rest st : List Value} (hdg : decode M.2.1 pc = .ok (.invokestatic idx, 3)) (hcv : CT M' n) (hlink : Cond.methodLink M.1.cls idx M'.1 ∈ tbG) (hSp : Sp K M' d' 0 0 As h (fun v u => v = none ∧ u = h') noX) (hst : st = As.reverse ++ rest)
    (hn : As.length = n) (hd : d' + 1 ≤ d) (hcs : uc ≤ mc ∧ us ≤ ms) (hw : (rest.map fun v => v.category).sum ≤ 8)
    (kk : G K M d mc ms uc us (pc + 3) L rest h' Qc XC) : G K M d mc ms uc us pc L st h Qc XC :=
  G_callS hdg hcv hlink hSp hst hn hd hcs hw (fun v u q => by obtain ⟨rfl, rfl⟩ := q; exact kk) (fun _ _ q => q.elim)
end CR
section RP
variable {K : GK} {ly : Nat} {S : St} {r n : Nat}
theorem sp_X3_at (hr : isRow ly r n) {i : Int32} : Sp K MX3_at 2 0 0 [.ref r, .int i] (hp ly S) (fun v u => v = some (.int (rat (S.1 (r + 1)) n i)) ∧ u = hp ly S) noX := sp_X3_at0 (cRow hr) (cArr hr) hr.2.2.2.2.2 i
theorem sp_X3_put (hr : isRow ly r n) {i x : Int32} : Sp K MX3_put 2 0 0 [.ref r, .int i, .int x] (hp ly S) (fun v u => v = none ∧ u = hp ly (setR S (r + 1) (rput (S.1 (r + 1)) n i x))) noX := by
  have q := sp_X3_put0 (K := K) (cRow (S := S) hr) (cArr hr) hr.2.2.2.2.2 i x
  rw [hp_setR hr.2.1 hr.2.2.2.1] at q
  exact q
theorem sp_X3_addTo (hr : isRow ly r n) {i x : Int32} : Sp K MX3_addTo 2 0 0 [.ref r, .int i, .int x] (hp ly S) (fun v u => v = none ∧ u = hp ly (setR S (r + 1) (rput (S.1 (r + 1)) n i (S.1 (r + 1) i.toNatClampNeg + x)))) noX := by
  have q := sp_X3_addTo0 (K := K) (cRow (S := S) hr) (cArr hr) hr.2.2.2.2.2 i x
  rw [hp_setR hr.2.1 hr.2.2.2.1] at q
  exact q
theorem sp_X3_fill (hr : isRow ly r n) {x : Int32} : Sp K MX3_fill 2 0 0 [.ref r, .int x] (hp ly S) (fun v u => v = none ∧ u = hp ly (setR S (r + 1) (rfil (S.1 (r + 1)) n x 0))) noX := by
  have q := sp_X3_fill0 (K := K) (cRow (S := S) hr) (cArr hr) hr.2.2.2.2.2 (by omega) x
  rw [hp_setR hr.2.1 hr.2.2.2.1] at q
  exact q
theorem sp_X3_sortPart (hr : isRow ly r n) (hn : n < 2 ^ 30) {a0 b0 : Nat} (ha0 : a0 ≤ b0) (hb0 : b0 ≤ n) : Sp K MX3_sortPart 2 0 0 [.ref r, .int (nI a0), .int (nI b0)] (hp ly S) (fun v u => v = none ∧ u = hp ly (setR S (r + 1) (srtA (S.1 (r + 1)) a0 a0 (b0 - a0)))) noX := by
  have q := sp_X3_sortPart0 (K := K) (cRow (S := S) hr) (cArr hr) (by omega) hn a0 b0 ha0 hb0
  rw [hp_setR hr.2.1 hr.2.2.2.1] at q
  exact q
end RP
end
section
theorem setR_ne {S : St} {a c : Nat} {f : Nat → Int32} (h : c ≠ a) : (setR S a f).1 c = S.1 c := if_neg h
theorem setR_eq {S : St} {a : Nat} {f : Nat → Int32} : (setR S a f).1 a = f := if_pos rfl
theorem setR_I {S : St} {a : Nat} {f : Nat → Int32} : (setR S a f).2 = S.2 := rfl
def mx (x y : Int32) : Int32 := if x < y then y else x
def mn (x y : Int32) : Int32 := if y < x then y else x
def gapf (a la b lb : Int32) : Int32 := mx 0 (mx (a - b - lb) (b - a - la))
/-- how far two boxes are -/
def ffar (x y w h x' y' w' h' : Int32) : Int32 := gapf x w x' w' * gapf x w x' w' + gapf y h y' h' * gapf y h y' h'
/-- a box of the row of boxes at b: x, y, w, h -/
abbrev bX (S : St) (b n : Nat) (i : Int32) : Int32 := rat (S.1 (b + 2)) n i
abbrev bY (S : St) (b n : Nat) (i : Int32) : Int32 := rat (S.1 (b + 4)) n i
abbrev bW (S : St) (b n : Nat) (i : Int32) : Int32 := rat (S.1 (b + 6)) n i
abbrev bH (S : St) (b n : Nat) (i : Int32) : Int32 := rat (S.1 (b + 8)) n i
def bfar (S : St) (b n : Nat) (i x y w h : Int32) : Int32 := ffar (bX S b n i) (bY S b n i) (bW S b n i) (bH S b n i) x y w h
def bput (S : St) (b n : Nat) (i x y w h : Int32) : St := setR (setR (setR (setR S (b + 2) (rput (S.1 (b + 2)) n i x)) (b + 4) (rput (S.1 (b + 4)) n i y)) (b + 6) (rput (S.1 (b + 6)) n i w)) (b + 8) (rput (S.1 (b + 8)) n i h)
section BX
variable {K : GK} {ly : Nat} {S : St} {b b' n n' : Nat}
theorem sp_X0_gap {h : VH} {x w x' w' : Int32} : Sp K MX0_gap 2 0 0 [.int x, .int w, .int x', .int w'] h (fun v u => v = some (.int (gapf x w x' w')) ∧ u = h) noX := by
  refine Sp_of (by decide) (Nat.le_of_ble_eq_true rfl) ?_
  refine G_iconst (v := 0) dX0_gap_0 (by decide) ?_
  refine G_iload_n dX0_gap_1 rfl ?_
  refine G_iload_n dX0_gap_2 rfl ?_
  refine G_isub dX0_gap_3 ?_
  refine G_iload_n dX0_gap_4 rfl ?_
  refine G_isub dX0_gap_5 ?_
  refine G_iload_n dX0_gap_6 rfl ?_
  refine G_iload_n dX0_gap_7 rfl ?_
  refine G_isub dX0_gap_8 ?_
  refine G_iload_n dX0_gap_9 rfl ?_
  refine G_isub dX0_gap_10 ?_
  refine G_max dX0_gap_11 wml_X0_43 (by decide) ⟨Nat.le_refl 0, Nat.le_refl 0⟩ (Nat.le_of_ble_eq_true rfl) ?_
  refine G_max dX0_gap_14 wml_X0_43 (by decide) ⟨Nat.le_refl 0, Nat.le_refl 0⟩ (Nat.le_of_ble_eq_true rfl) ?_
  exact G_iret dX0_gap_17 rfl rfl ⟨Nat.le_refl 0, Nat.le_refl 0⟩ ⟨rfl, rfl⟩
theorem sp_X0_twiceMiddleX (hb : isBoxes ly b n) {i : Int32} : Sp K MX0_twiceMiddleX 4 0 0 [.ref b, .int i] (hp ly S) (fun v u => v = some (.int (2 * bX S b n i + bW S b n i)) ∧ u = hp ly S) noX := by
  refine Sp_of (by decide) (Nat.le_of_ble_eq_true rfl) ?_
  refine G_iconst (v := 2) dX0_twiceMiddleX_0 (by decide) ?_
  refine G_aload_n dX0_twiceMiddleX_1 rfl ?_
  refine G_get (k := 0) dX0_twiceMiddleX_2 (cBox hb) rfl wfl_X0_12 (by decide) rfl ?_
  refine G_iload_n dX0_twiceMiddleX_5 rfl ?_
  refine G_cVi (As := [_]) dX0_twiceMiddleX_6 kV_X3_at wml_X0_31 (sp_X3_at hb.2.2.2.1) rfl (cRow hb.2.2.2.1) rfl rfl rfl (by decide) ⟨Nat.le_refl 0, Nat.le_refl 0⟩ (Nat.le_of_ble_eq_true rfl) ?_
  refine G_imul dX0_twiceMiddleX_9 ?_
  refine G_aload_n dX0_twiceMiddleX_10 rfl ?_
  refine G_get (k := 2) dX0_twiceMiddleX_11 (cBox hb) rfl wfl_X0_21 (by decide) rfl ?_
  refine G_iload_n dX0_twiceMiddleX_14 rfl ?_
  refine G_cVi (As := [_]) dX0_twiceMiddleX_15 kV_X3_at wml_X0_31 (sp_X3_at hb.2.2.2.2.2.1) rfl (cRow hb.2.2.2.2.2.1) rfl rfl rfl (by decide) ⟨Nat.le_refl 0, Nat.le_refl 0⟩ (Nat.le_of_ble_eq_true rfl) ?_
  refine G_iadd dX0_twiceMiddleX_18 ?_
  exact G_iret dX0_twiceMiddleX_19 rfl rfl ⟨Nat.le_refl 0, Nat.le_refl 0⟩ ⟨rfl, rfl⟩
theorem sp_X0_twiceMiddleY (hb : isBoxes ly b n) {i : Int32} : Sp K MX0_twiceMiddleY 4 0 0 [.ref b, .int i] (hp ly S) (fun v u => v = some (.int (2 * bY S b n i + bH S b n i)) ∧ u = hp ly S) noX := by
  refine Sp_of (by decide) (Nat.le_of_ble_eq_true rfl) ?_
  refine G_iconst (v := 2) dX0_twiceMiddleY_0 (by decide) ?_
  refine G_aload_n dX0_twiceMiddleY_1 rfl ?_
  refine G_get (k := 1) dX0_twiceMiddleY_2 (cBox hb) rfl wfl_X0_18 (by decide) rfl ?_
  refine G_iload_n dX0_twiceMiddleY_5 rfl ?_
  refine G_cVi (As := [_]) dX0_twiceMiddleY_6 kV_X3_at wml_X0_31 (sp_X3_at hb.2.2.2.2.1) rfl (cRow hb.2.2.2.2.1) rfl rfl rfl (by decide) ⟨Nat.le_refl 0, Nat.le_refl 0⟩ (Nat.le_of_ble_eq_true rfl) ?_
  refine G_imul dX0_twiceMiddleY_9 ?_
  refine G_aload_n dX0_twiceMiddleY_10 rfl ?_
  refine G_get (k := 3) dX0_twiceMiddleY_11 (cBox hb) rfl wfl_X0_24 (by decide) rfl ?_
  refine G_iload_n dX0_twiceMiddleY_14 rfl ?_
  refine G_cVi (As := [_]) dX0_twiceMiddleY_15 kV_X3_at wml_X0_31 (sp_X3_at hb.2.2.2.2.2.2) rfl (cRow hb.2.2.2.2.2.2) rfl rfl rfl (by decide) ⟨Nat.le_refl 0, Nat.le_refl 0⟩ (Nat.le_of_ble_eq_true rfl) ?_
  refine G_iadd dX0_twiceMiddleY_18 ?_
  exact G_iret dX0_twiceMiddleY_19 rfl rfl ⟨Nat.le_refl 0, Nat.le_refl 0⟩ ⟨rfl, rfl⟩
theorem sp_X0_farFrom (hb : isBoxes ly b n) {i x y w h : Int32} : Sp K MX0_farFrom 4 0 0 [.ref b, .int i, .int x, .int y, .int w, .int h] (hp ly S) (fun v u => v = some (.int (bfar S b n i x y w h)) ∧ u = hp ly S) noX := by
  refine Sp_of (by decide) (Nat.le_of_ble_eq_true rfl) ?_
  refine G_aload_n dX0_farFrom_0 rfl ?_
  refine G_get (k := 0) dX0_farFrom_1 (cBox hb) rfl wfl_X0_12 (by decide) rfl ?_
  refine G_iload_n dX0_farFrom_4 rfl ?_
  refine G_cVi (As := [_]) dX0_farFrom_5 kV_X3_at wml_X0_31 (sp_X3_at hb.2.2.2.1) rfl (cRow hb.2.2.2.1) rfl rfl rfl (by decide) ⟨Nat.le_refl 0, Nat.le_refl 0⟩ (Nat.le_of_ble_eq_true rfl) ?_
  refine G_aload_n dX0_farFrom_8 rfl ?_
  refine G_get (k := 2) dX0_farFrom_9 (cBox hb) rfl wfl_X0_21 (by decide) rfl ?_
  refine G_iload_n dX0_farFrom_12 rfl ?_
  refine G_cVi (As := [_]) dX0_farFrom_13 kV_X3_at wml_X0_31 (sp_X3_at hb.2.2.2.2.2.1) rfl (cRow hb.2.2.2.2.2.1) rfl rfl rfl (by decide) ⟨Nat.le_refl 0, Nat.le_refl 0⟩ (Nat.le_of_ble_eq_true rfl) ?_
  refine G_iload_n dX0_farFrom_16 rfl ?_
  refine G_iload dX0_farFrom_17 rfl ?_
  refine G_cSi (As := [_, _, _, _]) dX0_farFrom_19 kT_X0_gap wml_X0_35 sp_X0_gap rfl rfl (by decide) ⟨Nat.le_refl 0, Nat.le_refl 0⟩ (Nat.le_of_ble_eq_true rfl) ?_
  refine GS_istore (L' := [(6, _), (0, _), (1, _), (2, _), (3, _), (4, _), (5, _)]) dX0_farFrom_22 (by decide) rfl ?_
  refine G_aload_n dX0_farFrom_24 rfl ?_
  refine G_get (k := 1) dX0_farFrom_25 (cBox hb) rfl wfl_X0_18 (by decide) rfl ?_
  refine G_iload_n dX0_farFrom_28 rfl ?_
  refine G_cVi (As := [_]) dX0_farFrom_29 kV_X3_at wml_X0_31 (sp_X3_at hb.2.2.2.2.1) rfl (cRow hb.2.2.2.2.1) rfl rfl rfl (by decide) ⟨Nat.le_refl 0, Nat.le_refl 0⟩ (Nat.le_of_ble_eq_true rfl) ?_
  refine G_aload_n dX0_farFrom_32 rfl ?_
  refine G_get (k := 3) dX0_farFrom_33 (cBox hb) rfl wfl_X0_24 (by decide) rfl ?_
  refine G_iload_n dX0_farFrom_36 rfl ?_
  refine G_cVi (As := [_]) dX0_farFrom_37 kV_X3_at wml_X0_31 (sp_X3_at hb.2.2.2.2.2.2) rfl (cRow hb.2.2.2.2.2.2) rfl rfl rfl (by decide) ⟨Nat.le_refl 0, Nat.le_refl 0⟩ (Nat.le_of_ble_eq_true rfl) ?_
  refine G_iload_n dX0_farFrom_40 rfl ?_
  refine G_iload dX0_farFrom_41 rfl ?_
  refine G_cSi (As := [_, _, _, _]) dX0_farFrom_43 kT_X0_gap wml_X0_35 sp_X0_gap rfl rfl (by decide) ⟨Nat.le_refl 0, Nat.le_refl 0⟩ (Nat.le_of_ble_eq_true rfl) ?_
  refine GS_istore (L' := [(7, _), (6, _), (0, _), (1, _), (2, _), (3, _), (4, _), (5, _)]) dX0_farFrom_46 (by decide) rfl ?_
  refine G_iload dX0_farFrom_48 rfl ?_
  refine G_iload dX0_farFrom_50 rfl ?_
  refine G_imul dX0_farFrom_52 ?_
  refine G_iload dX0_farFrom_53 rfl ?_
  refine G_iload dX0_farFrom_55 rfl ?_
  refine G_imul dX0_farFrom_57 ?_
  refine G_iadd dX0_farFrom_58 ?_
  exact G_iret dX0_farFrom_59 rfl rfl ⟨Nat.le_refl 0, Nat.le_refl 0⟩ ⟨rfl, rfl⟩
theorem sp_X0_farBetween (hb : isBoxes ly b n) (hb' : isBoxes ly b' n') {i j : Int32} : Sp K MX0_farBetween 5 0 0 [.ref b, .int i, .ref b', .int j] (hp ly S) (fun v u => v = some (.int (bfar S b n i (bX S b' n' j) (bY S b' n' j) (bW S b' n' j) (bH S b' n' j))) ∧ u = hp ly S) noX := by
  refine Sp_of (by decide) (Nat.le_of_ble_eq_true rfl) ?_
  refine G_aload_n dX0_farBetween_0 rfl ?_
  refine G_iload_n dX0_farBetween_1 rfl ?_
  refine G_aload_n dX0_farBetween_2 rfl ?_
  refine G_get (k := 0) dX0_farBetween_3 (cBox hb') rfl wfl_X0_12 (by decide) rfl ?_
  refine G_iload_n dX0_farBetween_6 rfl ?_
  refine G_cVi (As := [_]) dX0_farBetween_7 kV_X3_at wml_X0_31 (sp_X3_at hb'.2.2.2.1) rfl (cRow hb'.2.2.2.1) rfl rfl rfl (by decide) ⟨Nat.le_refl 0, Nat.le_refl 0⟩ (Nat.le_of_ble_eq_true rfl) ?_
  refine G_aload_n dX0_farBetween_10 rfl ?_
  refine G_get (k := 1) dX0_farBetween_11 (cBox hb') rfl wfl_X0_18 (by decide) rfl ?_
  refine G_iload_n dX0_farBetween_14 rfl ?_
  refine G_cVi (As := [_]) dX0_farBetween_15 kV_X3_at wml_X0_31 (sp_X3_at hb'.2.2.2.2.1) rfl (cRow hb'.2.2.2.2.1) rfl rfl rfl (by decide) ⟨Nat.le_refl 0, Nat.le_refl 0⟩ (Nat.le_of_ble_eq_true rfl) ?_
  refine G_aload_n dX0_farBetween_18 rfl ?_
  refine G_get (k := 2) dX0_farBetween_19 (cBox hb') rfl wfl_X0_21 (by decide) rfl ?_
  refine G_iload_n dX0_farBetween_22 rfl ?_
  refine G_cVi (As := [_]) dX0_farBetween_23 kV_X3_at wml_X0_31 (sp_X3_at hb'.2.2.2.2.2.1) rfl (cRow hb'.2.2.2.2.2.1) rfl rfl rfl (by decide) ⟨Nat.le_refl 0, Nat.le_refl 0⟩ (Nat.le_of_ble_eq_true rfl) ?_
  refine G_aload_n dX0_farBetween_26 rfl ?_
  refine G_get (k := 3) dX0_farBetween_27 (cBox hb') rfl wfl_X0_24 (by decide) rfl ?_
  refine G_iload_n dX0_farBetween_30 rfl ?_
  refine G_cVi (As := [_]) dX0_farBetween_31 kV_X3_at wml_X0_31 (sp_X3_at hb'.2.2.2.2.2.2) rfl (cRow hb'.2.2.2.2.2.2) rfl rfl rfl (by decide) ⟨Nat.le_refl 0, Nat.le_refl 0⟩ (Nat.le_of_ble_eq_true rfl) ?_
  refine G_cVi (As := [_, _, _, _, _]) dX0_farBetween_34 kV_X0_farFrom wml_X0_39 (sp_X0_farFrom hb) rfl (cBox hb) rfl rfl rfl (by decide) ⟨Nat.le_refl 0, Nat.le_refl 0⟩ (Nat.le_of_ble_eq_true rfl) ?_
  exact G_iret dX0_farBetween_37 rfl rfl ⟨Nat.le_refl 0, Nat.le_refl 0⟩ ⟨rfl, rfl⟩
theorem sp_X0_put (hb : isBoxes ly b n) {i x y w h : Int32} : Sp K MX0_put 4 0 0 [.ref b, .int i, .int x, .int y, .int w, .int h] (hp ly S) (fun v u => v = none ∧ u = hp ly (bput S b n i x y w h)) noX := by
  refine Sp_of (by decide) (Nat.le_of_ble_eq_true rfl) ?_
  refine G_aload_n dX0_put_0 rfl ?_
  refine G_get (k := 0) dX0_put_1 (cBox hb) rfl wfl_X0_12 (by decide) rfl ?_
  refine G_iload_n dX0_put_4 rfl ?_
  refine G_iload_n dX0_put_5 rfl ?_
  refine G_cVv (As := [_, _]) dX0_put_6 kV_X3_put wml_X0_27 (sp_X3_put hb.2.2.2.1) rfl (cRow hb.2.2.2.1) rfl rfl rfl (by decide) ⟨Nat.le_refl 0, Nat.le_refl 0⟩ (Nat.le_of_ble_eq_true rfl) ?_
  refine G_aload_n dX0_put_9 rfl ?_
  refine G_get (k := 1) dX0_put_10 (cBox hb) rfl wfl_X0_18 (by decide) rfl ?_
  refine G_iload_n dX0_put_13 rfl ?_
  refine G_iload_n dX0_put_14 rfl ?_
  refine G_cVv (As := [_, _]) dX0_put_15 kV_X3_put wml_X0_27 (sp_X3_put hb.2.2.2.2.1) rfl (cRow hb.2.2.2.2.1) rfl rfl rfl (by decide) ⟨Nat.le_refl 0, Nat.le_refl 0⟩ (Nat.le_of_ble_eq_true rfl) ?_
  refine G_aload_n dX0_put_18 rfl ?_
  refine G_get (k := 2) dX0_put_19 (cBox hb) rfl wfl_X0_21 (by decide) rfl ?_
  refine G_iload_n dX0_put_22 rfl ?_
  refine G_iload dX0_put_23 rfl ?_
  refine G_cVv (As := [_, _]) dX0_put_25 kV_X3_put wml_X0_27 (sp_X3_put hb.2.2.2.2.2.1) rfl (cRow hb.2.2.2.2.2.1) rfl rfl rfl (by decide) ⟨Nat.le_refl 0, Nat.le_refl 0⟩ (Nat.le_of_ble_eq_true rfl) ?_
  refine G_aload_n dX0_put_28 rfl ?_
  refine G_get (k := 3) dX0_put_29 (cBox hb) rfl wfl_X0_24 (by decide) rfl ?_
  refine G_iload_n dX0_put_32 rfl ?_
  refine G_iload dX0_put_33 rfl ?_
  refine G_cVv (As := [_, _]) dX0_put_35 kV_X3_put wml_X0_27 (sp_X3_put hb.2.2.2.2.2.2) rfl (cRow hb.2.2.2.2.2.2) rfl rfl rfl (by decide) ⟨Nat.le_refl 0, Nat.le_refl 0⟩ (Nat.le_of_ble_eq_true rfl) ?_
  exact G_vret dX0_put_38 rfl ⟨Nat.le_refl 0, Nat.le_refl 0⟩ ⟨rfl, by unfold bput; (simp (disch := omega) only [setR_ne, Nat.add_assoc, Nat.reduceAdd]) <;> rfl⟩
end BX
end
section
/-- how many of the first n -/
def cnt (p : Nat → Bool) (n : Nat) : Nat := match n with
  | 0 => 0
  | n + 1 => cnt p n + (if p n = true then 1 else 0)
theorem cnt_t {p : Nat → Bool} {n : Nat} (h : p n = true) : cnt p (n + 1) = cnt p n + 1 := by rw [cnt, if_pos h]
theorem cnt_f {p : Nat → Bool} {n : Nat} (h : p n = false) : cnt p (n + 1) = cnt p n := by rw [cnt, if_neg (by rw [h]; decide)]; rfl
theorem cnt_qf {p : Nat → Bool} {n : Nat} {Q : Int32 → Prop} (q : Q (nI (cnt p (n + 1)))) (h : p n = false) : Q (nI (cnt p n)) := by rw [cnt_f h] at q; exact q
theorem cnt_qt {p : Nat → Bool} {n : Nat} {Q : Int32 → Prop} (q : Q (nI (cnt p (n + 1)))) (h : p n = true) : Q (nI (cnt p n) + 1) := by rw [cnt_t h, ← nI_1] at q; exact q
theorem pand_f1 {a b : Bool} (h : a = false) : (a && b) = false := by rw [h]; rfl
theorem pand_f2 {a b : Bool} (h : b = false) : (a && b) = false := by rw [h]; exact Bool.and_false a
theorem pand_t {a b : Bool} (h : a = true) (h2 : b = true) : (a && b) = true := by rw [h, h2]; rfl
theorem cnt_le (p : Nat → Bool) (n : Nat) : cnt p n ≤ n := by
  induction n with
  | zero => exact Nat.le_refl 0
  | succ n ih => rw [cnt]; split <;> omega
theorem cnt_cong {p q : Nat → Bool} {n : Nat} (h : ∀ k, k < n → p k = q k) : cnt p n = cnt q n := by
  induction n with
  | zero => rfl
  | succ n ih => rw [cnt, cnt, ih (fun k hk => h k (by omega)), h n (by omega)]
theorem cnt_sub {p q : Nat → Bool} {n : Nat} (h : ∀ k, k < n → p k = true → q k = true) : cnt p n ≤ cnt q n := by
  induction n with
  | zero => exact Nat.le_refl 0
  | succ n ih =>
    have h1 := ih (fun k hk => h k (by omega))
    have h2 := h n (by omega)
    rw [cnt, cnt]
    by_cases hp : p n = true
    · rw [if_pos hp, if_pos (h2 hp)]; omega
    · rw [if_neg hp]; split <;> omega
theorem rat_nI {f : Nat → Int32} {n k : Nat} (hk : k < n) (hn : n < 2 ^ 31) : rat f n (nI k) = f k := by
  rw [rat, if_neg (nI_pos (by omega)), if_neg (nI_ge hk hn), nI_clamp (by omega)]
theorem rput_nI {f : Nat → Int32} {n k : Nat} {x : Int32} (hk : k < n) (hn : n < 2 ^ 31) : rput f n (nI k) x = upd f k x := by
  rw [rput, if_neg (nI_pos (by omega)), if_neg (nI_ge hk hn), nI_clamp (by omega)]
/-- whether a thing is in a layer -/
def isin (S : St) (i layer : Int32) : Int32 := if rat (S.1 12) 80 i = layer then 1 else 0
abbrev inL (S : St) (layer : Int32) (k : Nat) : Bool := decide (S.1 12 k = layer)
theorem isin_f {S : St} {layer : Int32} {k : Nat} (hk : k < 80) (h : isin S (nI k) layer = 0) : inL S layer k = false := by
  unfold isin at h
  rw [rat_nI hk (by decide)] at h
  by_cases e : S.1 12 k = layer
  · rw [if_pos e] at h; exact absurd h (by decide)
  · exact decide_eq_false e
theorem isin_t {S : St} {layer : Int32} {k : Nat} (hk : k < 80) (h : ¬ isin S (nI k) layer = 0) : inL S layer k = true := by
  unfold isin at h
  rw [rat_nI hk (by decide)] at h
  by_cases e : S.1 12 k = layer
  · exact decide_eq_true e
  · rw [if_neg e] at h; exact absurd rfl h
section TH
variable {K : GK} {ly : Nat} {S : St} {c : Nat}
theorem sp_X4_isIn {i layer : Int32} : Sp K MX4_isIn 4 0 0 [.ref 1, .int i, .int layer] (hp ly S) (fun v u => v = some (.int (isin S i layer)) ∧ u = hp ly S) noX := by
  refine Sp_of (by decide) (Nat.le_of_ble_eq_true rfl) ?_
  refine G_aload_n dX4_isIn_0 rfl ?_
  refine G_get (k := 1) dX4_isIn_1 cThings rfl wfl_X4_23 (by decide) rfl ?_
  refine G_iload_n dX4_isIn_4 rfl ?_
  refine G_cVi (As := [_]) dX4_isIn_5 kV_X3_at wml_X4_44 (sp_X3_at rLayerOf) rfl (cRow rLayerOf) rfl rfl rfl (by decide) ⟨Nat.le_refl 0, Nat.le_refl 0⟩ (Nat.le_of_ble_eq_true rfl) ?_
  refine G_iload_n dX4_isIn_8 rfl ?_
  refine G_icmp_ne (tgt := 16) dX4_isIn_9 (by decide) (fun c_9 => ?_) (fun c_9 => ?_)
  · refine G_iconst (v := 0) dX4_isIn_16 (by decide) ?_
    exact G_iret dX4_isIn_17 rfl rfl ⟨Nat.le_refl 0, Nat.le_refl 0⟩ ⟨by unfold isin; first | rw [if_pos c_9] | rw [if_neg c_9], rfl⟩
  · refine G_iconst (v := 1) dX4_isIn_12 (by decide) ?_
    refine G_goto (tgt := 17) dX4_isIn_13 (by decide) ?_
    exact G_iret dX4_isIn_17 rfl rfl ⟨Nat.le_refl 0, Nat.le_refl 0⟩ ⟨by unfold isin; first | rw [if_pos c_9] | rw [if_neg c_9], rfl⟩
theorem lp_X4_countIn (hc : S.2.1 1 5 = nI c) (h80 : c ≤ 80) {layer : Int32} : ∀ m j, j + m = c → G K MX4_countIn 8 0 0 0 0 4 [(3, .int (nI j)), (2, .int (nI (cnt (inL S layer) j))), (0, .ref 1), (1, .int layer)] [] (hp ly S) (QcP K (fun v u => v = some (.int (nI (cnt (inL S layer) c))) ∧ u = hp ly S)) (XcP K noX) := by
  intro m
  induction m with
  | zero =>
    intro j hj
    obtain rfl : j = c := by omega
    refine G_iload_n dX4_countIn_4 rfl ?_
    refine G_aload_n dX4_countIn_5 rfl ?_
    refine G_get (k := 5) dX4_countIn_6 cThings rfl wfl_X4_36 (by decide) rfl ?_
    rw [hc]
    refine G_icmp_ge (tgt := 30) dX4_countIn_9 (by decide) (fun c_9 => ?_) (fun c_9 => ?_)
    · refine G_iload_n dX4_countIn_30 rfl ?_
      exact G_iret dX4_countIn_31 rfl rfl ⟨Nat.le_refl 0, Nat.le_refl 0⟩ ⟨rfl, rfl⟩
    · exact absurd (nI_le (Nat.le_refl _) (by omega)) c_9
  | succ m ih =>
    intro j hj
    have hj8 : j < 80 := by omega
    have q := ih (j + 1) (by omega)
    refine G_iload_n dX4_countIn_4 rfl ?_
    refine G_aload_n dX4_countIn_5 rfl ?_
    refine G_get (k := 5) dX4_countIn_6 cThings rfl wfl_X4_36 (by decide) rfl ?_
    rw [hc]
    refine G_icmp_ge (tgt := 30) dX4_countIn_9 (by decide) (fun c_9 => ?_) (fun c_9 => ?_)
    · exact absurd c_9 (nI_ge (show j < c by omega) (by omega))
    · refine G_aload_n dX4_countIn_12 rfl ?_
      refine G_iload_n dX4_countIn_13 rfl ?_
      refine G_iload_n dX4_countIn_14 rfl ?_
      refine G_cVi (As := [_, _]) dX4_countIn_15 kV_X4_isIn wml_X4_48 sp_X4_isIn rfl cThings rfl rfl rfl (by decide) ⟨Nat.le_refl 0, Nat.le_refl 0⟩ (Nat.le_of_ble_eq_true rfl) ?_
      refine G_if_eq (tgt := 24) dX4_countIn_18 (by decide) (fun c_18 => ?_) (fun c_18 => ?_)
      · refine GS_iinc (v := 1) (L' := [(3, _), (2, _), (0, _), (1, _)]) dX4_countIn_24 rfl (by decide) (by decide) rfl ?_
        refine G_goto (tgt := 4) dX4_countIn_27 (by decide) ?_
        refine G_sub [0, 1, 2, 3] rfl ?_
        rw [nI_1 j]
        first
          | (have e : (inL S layer) j = false := isin_f hj8 c_18; rw [cnt_f e] at q; exact q)
          | (have e : (inL S layer) j = true := isin_t hj8 c_18; rw [cnt_t e] at q; rw [nI_1]; exact q)
      · refine GS_iinc (v := 1) (L' := [(2, _), (3, _), (0, _), (1, _)]) dX4_countIn_21 rfl (by decide) (by decide) rfl ?_
        refine GS_iinc (v := 1) (L' := [(3, _), (2, _), (0, _), (1, _)]) dX4_countIn_24 rfl (by decide) (by decide) rfl ?_
        refine G_goto (tgt := 4) dX4_countIn_27 (by decide) ?_
        refine G_sub [0, 1, 2, 3] rfl ?_
        rw [nI_1 j]
        first
          | (have e : (inL S layer) j = false := isin_f hj8 c_18; rw [cnt_f e] at q; exact q)
          | (have e : (inL S layer) j = true := isin_t hj8 c_18; rw [cnt_t e] at q; rw [nI_1]; exact q)
theorem sp_X4_countIn (hc : S.2.1 1 5 = nI c) (h80 : c ≤ 80) {layer : Int32} : Sp K MX4_countIn 8 0 0 [.ref 1, .int layer] (hp ly S) (fun v u => v = some (.int (nI (cnt (inL S layer) c))) ∧ u = hp ly S) noX := by
  refine Sp_of (by decide) (Nat.le_of_ble_eq_true rfl) ?_
  refine G_iconst (v := 0) dX4_countIn_0 (by decide) ?_
  refine GS_istore_n (L' := [(2, _), (0, _), (1, _)]) dX4_countIn_1 (by decide) rfl ?_
  refine G_iconst (v := 0) dX4_countIn_2 (by decide) ?_
  refine GS_istore_n (L' := [(3, _), (2, _), (0, _), (1, _)]) dX4_countIn_3 (by decide) rfl ?_
  refine G_sub [0, 1, 2, 3] rfl ?_
  exact lp_X4_countIn hc h80 c 0 (by omega)
theorem lp_X4_countMeeting (hc : S.2.1 1 5 = nI c) (h80 : c ≤ 80) {layer x y w h : Int32} : ∀ m j, j + m = c → G K MX4_countMeeting 8 0 0 0 0 6 [(7, .int (nI j)), (6, .int (nI (cnt (fun k => inL S layer k && decide (bfar S 2 80 (nI k) x y w h = 0)) j))), (0, .ref 1), (1, .int layer), (2, .int x), (3, .int y), (4, .int w), (5, .int h)] [] (hp ly S) (QcP K (fun v u => v = some (.int (nI (cnt (fun k => inL S layer k && decide (bfar S 2 80 (nI k) x y w h = 0)) c))) ∧ u = hp ly S)) (XcP K noX) := by
  intro m
  induction m with
  | zero =>
    intro j hj
    obtain rfl : j = c := by omega
    refine G_iload dX4_countMeeting_6 rfl ?_
    refine G_aload_n dX4_countMeeting_8 rfl ?_
    refine G_get (k := 5) dX4_countMeeting_9 cThings rfl wfl_X4_36 (by decide) rfl ?_
    rw [hc]
    refine G_icmp_ge (tgt := 52) dX4_countMeeting_12 (by decide) (fun c_12 => ?_) (fun c_12 => ?_)
    · refine G_iload dX4_countMeeting_52 rfl ?_
      exact G_iret dX4_countMeeting_54 rfl rfl ⟨Nat.le_refl 0, Nat.le_refl 0⟩ ⟨rfl, rfl⟩
    · exact absurd (nI_le (Nat.le_refl _) (by omega)) c_12
  | succ m ih =>
    intro j hj
    have hj8 : j < 80 := by omega
    have q := ih (j + 1) (by omega)
    refine G_iload dX4_countMeeting_6 rfl ?_
    refine G_aload_n dX4_countMeeting_8 rfl ?_
    refine G_get (k := 5) dX4_countMeeting_9 cThings rfl wfl_X4_36 (by decide) rfl ?_
    rw [hc]
    refine G_icmp_ge (tgt := 52) dX4_countMeeting_12 (by decide) (fun c_12 => ?_) (fun c_12 => ?_)
    · exact absurd c_12 (nI_ge (show j < c by omega) (by omega))
    · refine G_aload_n dX4_countMeeting_15 rfl ?_
      refine G_iload dX4_countMeeting_16 rfl ?_
      refine G_iload_n dX4_countMeeting_18 rfl ?_
      refine G_cVi (As := [_, _]) dX4_countMeeting_19 kV_X4_isIn wml_X4_48 sp_X4_isIn rfl cThings rfl rfl rfl (by decide) ⟨Nat.le_refl 0, Nat.le_refl 0⟩ (Nat.le_of_ble_eq_true rfl) ?_
      refine G_if_eq (tgt := 46) dX4_countMeeting_22 (by decide) (fun c_22 => ?_) (fun c_22 => ?_)
      · refine GS_iinc (v := 1) (L' := [(7, _), (6, _), (0, _), (1, _), (2, _), (3, _), (4, _), (5, _)]) dX4_countMeeting_46 rfl (by decide) (by decide) rfl ?_
        refine G_goto (tgt := 6) dX4_countMeeting_49 (by decide) ?_
        refine G_sub [0, 1, 2, 3, 4, 5, 6, 7] rfl ?_
        rw [nI_1 j]
        first
          | (have e : (fun k => inL S layer k && decide (bfar S 2 80 (nI k) x y w h = 0)) j = false := pand_f1 (isin_f hj8 c_22); rw [cnt_f e] at q; exact q)
          | (have e : (fun k => inL S layer k && decide (bfar S 2 80 (nI k) x y w h = 0)) j = false := pand_f2 (decide_eq_false c_40); rw [cnt_f e] at q; exact q)
          | (have e : (fun k => inL S layer k && decide (bfar S 2 80 (nI k) x y w h = 0)) j = true := pand_t (isin_t hj8 c_22) (decide_eq_true c_40); rw [cnt_t e] at q; rw [nI_1]; exact q)
      · refine G_aload_n dX4_countMeeting_25 rfl ?_
        refine G_get (k := 0) dX4_countMeeting_26 cThings rfl wfl_X4_14 (by decide) rfl ?_
        refine G_iload dX4_countMeeting_29 rfl ?_
        refine G_iload_n dX4_countMeeting_31 rfl ?_
        refine G_iload_n dX4_countMeeting_32 rfl ?_
        refine G_iload dX4_countMeeting_33 rfl ?_
        refine G_iload dX4_countMeeting_35 rfl ?_
        refine G_cVi (As := [_, _, _, _, _]) dX4_countMeeting_37 kV_X0_farFrom wml_X4_52 (sp_X0_farFrom bThings) rfl (cBox bThings) rfl rfl rfl (by decide) ⟨Nat.le_refl 0, Nat.le_refl 0⟩ (Nat.le_of_ble_eq_true rfl) ?_
        refine G_if_ne (tgt := 46) dX4_countMeeting_40 (by decide) (fun c_40 => ?_) (fun c_40 => ?_)
        · refine GS_iinc (v := 1) (L' := [(7, _), (6, _), (0, _), (1, _), (2, _), (3, _), (4, _), (5, _)]) dX4_countMeeting_46 rfl (by decide) (by decide) rfl ?_
          refine G_goto (tgt := 6) dX4_countMeeting_49 (by decide) ?_
          refine G_sub [0, 1, 2, 3, 4, 5, 6, 7] rfl ?_
          rw [nI_1 j]
          first
            | (have e : (fun k => inL S layer k && decide (bfar S 2 80 (nI k) x y w h = 0)) j = false := pand_f1 (isin_f hj8 c_22); rw [cnt_f e] at q; exact q)
            | (have e : (fun k => inL S layer k && decide (bfar S 2 80 (nI k) x y w h = 0)) j = false := pand_f2 (decide_eq_false c_40); rw [cnt_f e] at q; exact q)
            | (have e : (fun k => inL S layer k && decide (bfar S 2 80 (nI k) x y w h = 0)) j = true := pand_t (isin_t hj8 c_22) (decide_eq_true c_40); rw [cnt_t e] at q; rw [nI_1]; exact q)
        · refine GS_iinc (v := 1) (L' := [(6, _), (7, _), (0, _), (1, _), (2, _), (3, _), (4, _), (5, _)]) dX4_countMeeting_43 rfl (by decide) (by decide) rfl ?_
          refine GS_iinc (v := 1) (L' := [(7, _), (6, _), (0, _), (1, _), (2, _), (3, _), (4, _), (5, _)]) dX4_countMeeting_46 rfl (by decide) (by decide) rfl ?_
          refine G_goto (tgt := 6) dX4_countMeeting_49 (by decide) ?_
          refine G_sub [0, 1, 2, 3, 4, 5, 6, 7] rfl ?_
          rw [nI_1 j]
          first
            | (have e : (fun k => inL S layer k && decide (bfar S 2 80 (nI k) x y w h = 0)) j = false := pand_f1 (isin_f hj8 c_22); rw [cnt_f e] at q; exact q)
            | (have e : (fun k => inL S layer k && decide (bfar S 2 80 (nI k) x y w h = 0)) j = false := pand_f2 (decide_eq_false c_40); rw [cnt_f e] at q; exact q)
            | (have e : (fun k => inL S layer k && decide (bfar S 2 80 (nI k) x y w h = 0)) j = true := pand_t (isin_t hj8 c_22) (decide_eq_true c_40); rw [cnt_t e] at q; rw [nI_1]; exact q)
theorem sp_X4_countMeeting (hc : S.2.1 1 5 = nI c) (h80 : c ≤ 80) {layer x y w h : Int32} : Sp K MX4_countMeeting 8 0 0 [.ref 1, .int layer, .int x, .int y, .int w, .int h] (hp ly S) (fun v u => v = some (.int (nI (cnt (fun k => inL S layer k && decide (bfar S 2 80 (nI k) x y w h = 0)) c))) ∧ u = hp ly S) noX := by
  refine Sp_of (by decide) (Nat.le_of_ble_eq_true rfl) ?_
  refine G_iconst (v := 0) dX4_countMeeting_0 (by decide) ?_
  refine GS_istore (L' := [(6, _), (0, _), (1, _), (2, _), (3, _), (4, _), (5, _)]) dX4_countMeeting_1 (by decide) rfl ?_
  refine G_iconst (v := 0) dX4_countMeeting_3 (by decide) ?_
  refine GS_istore (L' := [(7, _), (6, _), (0, _), (1, _), (2, _), (3, _), (4, _), (5, _)]) dX4_countMeeting_4 (by decide) rfl ?_
  refine G_sub [0, 1, 2, 3, 4, 5, 6, 7] rfl ?_
  exact lp_X4_countMeeting hc h80 c 0 (by omega)
end TH
end
section
theorem setR_twice {S : St} {a : Nat} {f g : Nat → Int32} : setR (setR S a f) a g = setR S a g := by
  refine Prod.ext ?_ rfl
  funext k
  show va_up (va_up S.1 a f) a g k = va_up S.1 a g k
  unfold va_up
  split <;> rfl
theorem setR_self {S : St} {a : Nat} : setR S a (S.1 a) = S := by
  refine Prod.ext ?_ rfl
  funext k
  show va_up S.1 a (S.1 a) k = S.1 k
  unfold va_up
  split
  · next e => rw [e]
  · rfl
/-- those that count are put behind one another -/
def kfil (f : Nat → Int32) (p : Nat → Bool) (v : Nat → Int32) (n : Nat) : Nat → Int32 := match n with
  | 0 => f
  | n + 1 => if p n = true then upd (kfil f p v n) (cnt p n) (v n) else kfil f p v n
theorem kfil_t {f : Nat → Int32} {p : Nat → Bool} {v : Nat → Int32} {n : Nat} (h : p n = true) : kfil f p v (n + 1) = upd (kfil f p v n) (cnt p n) (v n) := by rw [kfil, if_pos h]
theorem kfil_f {f : Nat → Int32} {p : Nat → Bool} {v : Nat → Int32} {n : Nat} (h : p n = false) : kfil f p v (n + 1) = kfil f p v n := by rw [kfil, if_neg (by rw [h]; decide)]
theorem le_f {x far : Int32} (h : far < x) : decide (x ≤ far) = false := decide_eq_false (fun z => absurd (Int32.lt_of_lt_of_le h z) Int32.lt_irrefl)
theorem le_t {x far : Int32} (h : ¬ far < x) : decide (x ≤ far) = true := decide_eq_true (i32_nlt h)
/-- how far two things are -/
def farK (S : St) (i : Int32) (k : Nat) : Int32 := bfar S 2 80 i (bX S 2 80 (nI k)) (bY S 2 80 (nI k)) (bW S 2 80 (nI k)) (bH S 2 80 (nI k))
def keyV (S : St) (x y : Int32) (k : Nat) : Int32 := bfar S 2 80 (nI k) x y 0 0 * 128 + nI k
def nearP (S : St) (a : Nat) (i layer far : Int32) (k : Nat) : Bool := decide (a ≤ k) && (inL S layer k && decide (farK S i k ≤ far))
def smN (g : Nat → Nat) (n : Nat) : Nat := match n with
  | 0 => 0
  | n + 1 => smN g n + g n
def pairG (S : St) (c : Nat) (one other far : Int32) (k : Nat) : Nat := if inL S one k = true then cnt (nearP S (if one = other then k + 1 else 0) (nI k) other far) c else 0
/-- labels: those that bear the greater one of two bear the smaller one then -/
def jn (g : Nat → Int32) (c : Nat) (one other : Int32) : Nat → Int32 := if one = other then g else fun k => if k < c ∧ g k = mx one other then mn one other else g k
def nr (S : St) (layer far : Int32) (t i : Nat) : Bool := (inL S layer t && inL S layer i) && decide (farK S (nI t) i ≤ far)
def gIn (S : St) (c : Nat) (layer far : Int32) (g : Nat → Int32) (t i : Nat) : Nat → Int32 := match i with
  | 0 => g
  | i + 1 => if nr S layer far t i = true then jn (gIn S c layer far g t i) c (gIn S c layer far g t i t) (gIn S c layer far g t i i) else gIn S c layer far g t i
def gOut (S : St) (c : Nat) (layer far : Int32) (g : Nat → Int32) (t : Nat) : Nat → Int32 := match t with
  | 0 => g
  | t + 1 => gIn S c layer far (upd (gOut S c layer far g t) t (nI t)) t t
theorem gIn_t {S : St} {c : Nat} {layer far : Int32} {g : Nat → Int32} {t i : Nat} (h : nr S layer far t i = true) : gIn S c layer far g t (i + 1) = jn (gIn S c layer far g t i) c (gIn S c layer far g t i t) (gIn S c layer far g t i i) := by rw [gIn, if_pos h]
theorem gIn_f {S : St} {c : Nat} {layer far : Int32} {g : Nat → Int32} {t i : Nat} (h : nr S layer far t i = false) : gIn S c layer far g t (i + 1) = gIn S c layer far g t i := by rw [gIn, if_neg (by rw [h]; decide)]
def rootP (S : St) (layer : Int32) (g : Nat → Int32) (k : Nat) : Bool := inL S layer k && decide (g k = nI k)
def labP (S : St) (layer : Int32) (g : Nat → Int32) (z : Int32) (k : Nat) : Bool := inL S layer k && decide (g k = z)
def grt (S : St) (c : Nat) (layer : Int32) (g : Nat → Int32) (n : Nat) : Int32 := match n with
  | 0 => 0
  | n + 1 => mx (grt S c layer g n) (nI (cnt (labP S layer g (nI n)) c))
section TH2
variable {K : GK} {ly : Nat} {S : St} {c : Nat}
theorem lp_X4_sortByFar (hc : S.2.1 1 5 = nI c) (h80 : c ≤ 80) {layer x y : Int32} : ∀ m j, j + m = c → G K MX4_sortByFar 8 0 0 0 0 6 [(5, .int (nI j)), (4, .int (nI (cnt (inL S layer) j))), (0, .ref 1), (1, .int layer), (2, .int x), (3, .int y)] [] (hp ly (setR S 16 (kfil (S.1 16) (inL S layer) (keyV S x y) j))) (QcP K (fun v u => v = some (.int (nI (cnt (inL S layer) c))) ∧ u = hp ly (setR S 16 (srtA (kfil (S.1 16) (inL S layer) (keyV S x y) c) 0 0 (cnt (inL S layer) c))))) (XcP K noX) := by
  intro m
  induction m with
  | zero =>
    intro j hj
    obtain rfl : j = c := by omega
    have hm := cnt_le (inL S layer) j
    refine G_iload dX4_sortByFar_6 rfl ?_
    refine G_aload_n dX4_sortByFar_8 rfl ?_
    refine G_get (k := 5) dX4_sortByFar_9 cThings rfl wfl_X4_36 (by decide) rfl ?_
    rw [show (setR S 16 (kfil (S.1 16) (inL S layer) (keyV S x y) j)).2.1 1 5 = nI j from hc]
    refine G_icmp_ge (tgt := 63) dX4_sortByFar_12 (by decide) (fun c_12 => ?_) (fun c_12 => ?_)
    · refine G_aload_n dX4_sortByFar_63 rfl ?_
      refine G_get (k := 3) dX4_sortByFar_64 cThings rfl wfl_X4_30 (by decide) rfl ?_
      refine G_iconst (v := 0) dX4_sortByFar_67 (by decide) ?_
      refine G_iload dX4_sortByFar_68 rfl ?_
      refine G_cVv (As := [_, _]) dX4_sortByFar_70 kV_X3_sortPart wml_X4_56 (sp_X3_sortPart (a0 := 0) rKeys (by decide) (Nat.zero_le _) (show cnt (inL S layer) j ≤ 80 by omega)) rfl (cRow rKeys) rfl rfl rfl (by decide) ⟨Nat.le_refl 0, Nat.le_refl 0⟩ (Nat.le_of_ble_eq_true rfl) ?_
      rw [setR_twice]
      refine G_iload dX4_sortByFar_73 rfl ?_
      exact G_iret dX4_sortByFar_75 rfl rfl ⟨Nat.le_refl 0, Nat.le_refl 0⟩ ⟨rfl, rfl⟩
    · exact absurd (nI_le (Nat.le_refl _) (by omega)) c_12
  | succ m ih =>
    intro j hj
    have hj8 : j < 80 := by omega
    have hm := cnt_le (inL S layer) j
    have q := ih (j + 1) (by omega)
    refine G_iload dX4_sortByFar_6 rfl ?_
    refine G_aload_n dX4_sortByFar_8 rfl ?_
    refine G_get (k := 5) dX4_sortByFar_9 cThings rfl wfl_X4_36 (by decide) rfl ?_
    rw [show (setR S 16 (kfil (S.1 16) (inL S layer) (keyV S x y) j)).2.1 1 5 = nI c from hc]
    refine G_icmp_ge (tgt := 63) dX4_sortByFar_12 (by decide) (fun c_12 => ?_) (fun c_12 => ?_)
    · exact absurd c_12 (nI_ge (show j < c by omega) (by omega))
    · refine G_aload_n dX4_sortByFar_15 rfl ?_
      refine G_iload dX4_sortByFar_16 rfl ?_
      refine G_iload_n dX4_sortByFar_18 rfl ?_
      refine G_cVi (As := [_, _]) dX4_sortByFar_19 kV_X4_isIn wml_X4_48 sp_X4_isIn rfl cThings rfl rfl rfl (by decide) ⟨Nat.le_refl 0, Nat.le_refl 0⟩ (Nat.le_of_ble_eq_true rfl) ?_
      refine G_if_eq (tgt := 57) dX4_sortByFar_22 (by decide) (fun c_22 => ?_) (fun c_22 => ?_)
      · refine GS_iinc (v := 1) (L' := [(5, _), (4, _), (0, _), (1, _), (2, _), (3, _)]) dX4_sortByFar_57 rfl (by decide) (by decide) rfl ?_
        refine G_goto (tgt := 6) dX4_sortByFar_60 (by decide) ?_
        refine G_sub [0, 1, 2, 3, 4, 5] rfl ?_
        rw [nI_1 j]
        first
          | (have e : inL S layer j = false := isin_f (S := S) hj8 c_22; rw [cnt_f e, kfil_f e] at q; exact q)
          | (have e : inL S layer j = true := isin_t (S := S) hj8 c_22; rw [cnt_t e, kfil_t e] at q; rw [nI_1, setR_twice, rput_nI (show cnt (inL S layer) j < 80 by omega) (by decide)]; exact q)
      · refine G_aload_n dX4_sortByFar_25 rfl ?_
        refine G_get (k := 3) dX4_sortByFar_26 cThings rfl wfl_X4_30 (by decide) rfl ?_
        refine G_iload dX4_sortByFar_29 rfl ?_
        refine G_aload_n dX4_sortByFar_31 rfl ?_
        refine G_get (k := 0) dX4_sortByFar_32 cThings rfl wfl_X4_14 (by decide) rfl ?_
        refine G_iload dX4_sortByFar_35 rfl ?_
        refine G_iload_n dX4_sortByFar_37 rfl ?_
        refine G_iload_n dX4_sortByFar_38 rfl ?_
        refine G_iconst (v := 0) dX4_sortByFar_39 (by decide) ?_
        refine G_iconst (v := 0) dX4_sortByFar_40 (by decide) ?_
        refine G_cVi (As := [_, _, _, _, _]) dX4_sortByFar_41 kV_X0_farFrom wml_X4_52 (sp_X0_farFrom bThings) rfl (cBox bThings) rfl rfl rfl (by decide) ⟨Nat.le_refl 0, Nat.le_refl 0⟩ (Nat.le_of_ble_eq_true rfl) ?_
        refine G_sipush (v := 128) dX4_sortByFar_44 (by decide) ?_
        refine G_imul dX4_sortByFar_47 ?_
        refine G_iload dX4_sortByFar_48 rfl ?_
        refine G_iadd dX4_sortByFar_50 ?_
        refine G_cVv (As := [_, _]) dX4_sortByFar_51 kV_X3_put wml_X4_40 (sp_X3_put rKeys) rfl (cRow rKeys) rfl rfl rfl (by decide) ⟨Nat.le_refl 0, Nat.le_refl 0⟩ (Nat.le_of_ble_eq_true rfl) ?_
        refine GS_iinc (v := 1) (L' := [(4, _), (5, _), (0, _), (1, _), (2, _), (3, _)]) dX4_sortByFar_54 rfl (by decide) (by decide) rfl ?_
        refine GS_iinc (v := 1) (L' := [(5, _), (4, _), (0, _), (1, _), (2, _), (3, _)]) dX4_sortByFar_57 rfl (by decide) (by decide) rfl ?_
        refine G_goto (tgt := 6) dX4_sortByFar_60 (by decide) ?_
        refine G_sub [0, 1, 2, 3, 4, 5] rfl ?_
        rw [nI_1 j]
        first
          | (have e : inL S layer j = false := isin_f (S := S) hj8 c_22; rw [cnt_f e, kfil_f e] at q; exact q)
          | (have e : inL S layer j = true := isin_t (S := S) hj8 c_22; rw [cnt_t e, kfil_t e] at q; rw [nI_1, setR_twice, rput_nI (show cnt (inL S layer) j < 80 by omega) (by decide)]; exact q)
theorem sp_X4_sortByFar (hc : S.2.1 1 5 = nI c) (h80 : c ≤ 80) {layer x y : Int32} : Sp K MX4_sortByFar 8 0 0 [.ref 1, .int layer, .int x, .int y] (hp ly S) (fun v u => v = some (.int (nI (cnt (inL S layer) c))) ∧ u = hp ly (setR S 16 (srtA (kfil (S.1 16) (inL S layer) (keyV S x y) c) 0 0 (cnt (inL S layer) c)))) noX := by
  refine Sp_of (by decide) (Nat.le_of_ble_eq_true rfl) ?_
  refine G_iconst (v := 0) dX4_sortByFar_0 (by decide) ?_
  refine GS_istore (L' := [(4, _), (0, _), (1, _), (2, _), (3, _)]) dX4_sortByFar_1 (by decide) rfl ?_
  refine G_iconst (v := 0) dX4_sortByFar_3 (by decide) ?_
  refine GS_istore (L' := [(5, _), (4, _), (0, _), (1, _), (2, _), (3, _)]) dX4_sortByFar_4 (by decide) rfl ?_
  refine G_sub [0, 1, 2, 3, 4, 5] rfl ?_
  have q := lp_X4_sortByFar (K := K) (ly := ly) hc h80 (layer := layer) (x := x) (y := y) c 0 (by omega)
  rw [kfil, setR_self] at q
  exact q
theorem lp_X4_countNear (hc : S.2.1 1 5 = nI c) (h80 : c ≤ 80) {i layer far : Int32} {a : Nat} : ∀ m j, j + m = c → a ≤ j → G K MX4_countNear 10 0 0 0 0 6 [(6, .int (nI j)), (5, .int (nI (cnt (nearP S a i layer far) j))), (0, .ref 1), (1, .int i), (3, .int layer), (4, .int far)] [] (hp ly S) (QcP K (fun v u => v = some (.int (nI (cnt (nearP S a i layer far) c))) ∧ u = hp ly S)) (XcP K noX) := by
  intro m
  induction m with
  | zero =>
    intro j hj haj
    obtain rfl : j = c := by omega
    refine G_iload dX4_countNear_6 rfl ?_
    refine G_aload_n dX4_countNear_8 rfl ?_
    refine G_get (k := 5) dX4_countNear_9 cThings rfl wfl_X4_36 (by decide) rfl ?_
    rw [hc]
    refine G_icmp_ge (tgt := 53) dX4_countNear_12 (by decide) (fun c_12 => ?_) (fun c_12 => ?_)
    · refine G_iload dX4_countNear_53 rfl ?_
      exact G_iret dX4_countNear_55 rfl rfl ⟨Nat.le_refl 0, Nat.le_refl 0⟩ ⟨rfl, rfl⟩
    · exact absurd (nI_le (Nat.le_refl _) (by omega)) c_12
  | succ m ih =>
    intro j hj haj
    have hj8 : j < 80 := by omega
    have q := ih (j + 1) (by omega) (by omega)
    refine G_iload dX4_countNear_6 rfl ?_
    refine G_aload_n dX4_countNear_8 rfl ?_
    refine G_get (k := 5) dX4_countNear_9 cThings rfl wfl_X4_36 (by decide) rfl ?_
    rw [hc]
    refine G_icmp_ge (tgt := 53) dX4_countNear_12 (by decide) (fun c_12 => ?_) (fun c_12 => ?_)
    · exact absurd c_12 (nI_ge (show j < c by omega) (by omega))
    · refine G_aload_n dX4_countNear_15 rfl ?_
      refine G_iload dX4_countNear_16 rfl ?_
      refine G_iload_n dX4_countNear_18 rfl ?_
      refine G_cVi (As := [_, _]) dX4_countNear_19 kV_X4_isIn wml_X4_48 sp_X4_isIn rfl cThings rfl rfl rfl (by decide) ⟨Nat.le_refl 0, Nat.le_refl 0⟩ (Nat.le_of_ble_eq_true rfl) ?_
      refine G_if_eq (tgt := 47) dX4_countNear_22 (by decide) (fun c_22 => ?_) (fun c_22 => ?_)
      · refine GS_iinc (v := 1) (L' := [(6, _), (5, _), (0, _), (1, _), (3, _), (4, _)]) dX4_countNear_47 rfl (by decide) (by decide) rfl ?_
        refine G_goto (tgt := 6) dX4_countNear_50 (by decide) ?_
        refine G_sub [0, 1, 2, 3, 4, 5] rfl ?_
        rw [nI_1 j]
        first
          | (have e : nearP S a i layer far j = false := pand_f2 (pand_f1 (isin_f hj8 c_22)); rw [cnt_f e] at q; exact q)
          | (have e : nearP S a i layer far j = false := pand_f2 (pand_f2 (le_f c_41)); rw [cnt_f e] at q; exact q)
          | (have e : nearP S a i layer far j = true := pand_t (decide_eq_true haj) (pand_t (isin_t hj8 c_22) (le_t c_41)); rw [cnt_t e] at q; rw [nI_1]; exact q)
      · refine G_aload_n dX4_countNear_25 rfl ?_
        refine G_get (k := 0) dX4_countNear_26 cThings rfl wfl_X4_14 (by decide) rfl ?_
        refine G_iload_n dX4_countNear_29 rfl ?_
        refine G_aload_n dX4_countNear_30 rfl ?_
        refine G_get (k := 0) dX4_countNear_31 cThings rfl wfl_X4_14 (by decide) rfl ?_
        refine G_iload dX4_countNear_34 rfl ?_
        refine G_cVi (As := [_, _, _]) dX4_countNear_36 kV_X0_farBetween wml_X4_63 (sp_X0_farBetween bThings bThings) rfl (cBox bThings) rfl rfl rfl (by decide) ⟨Nat.le_refl 0, Nat.le_refl 0⟩ (Nat.le_of_ble_eq_true rfl) ?_
        refine G_iload dX4_countNear_39 rfl ?_
        refine G_icmp_gt (tgt := 47) dX4_countNear_41 (by decide) (fun c_41 => ?_) (fun c_41 => ?_)
        · refine GS_iinc (v := 1) (L' := [(6, _), (5, _), (0, _), (1, _), (3, _), (4, _)]) dX4_countNear_47 rfl (by decide) (by decide) rfl ?_
          refine G_goto (tgt := 6) dX4_countNear_50 (by decide) ?_
          refine G_sub [0, 1, 2, 3, 4, 5] rfl ?_
          rw [nI_1 j]
          first
            | (have e : nearP S a i layer far j = false := pand_f2 (pand_f1 (isin_f hj8 c_22)); rw [cnt_f e] at q; exact q)
            | (have e : nearP S a i layer far j = false := pand_f2 (pand_f2 (le_f c_41)); rw [cnt_f e] at q; exact q)
            | (have e : nearP S a i layer far j = true := pand_t (decide_eq_true haj) (pand_t (isin_t hj8 c_22) (le_t c_41)); rw [cnt_t e] at q; rw [nI_1]; exact q)
        · refine GS_iinc (v := 1) (L' := [(5, _), (6, _), (0, _), (1, _), (3, _), (4, _)]) dX4_countNear_44 rfl (by decide) (by decide) rfl ?_
          refine GS_iinc (v := 1) (L' := [(6, _), (5, _), (0, _), (1, _), (3, _), (4, _)]) dX4_countNear_47 rfl (by decide) (by decide) rfl ?_
          refine G_goto (tgt := 6) dX4_countNear_50 (by decide) ?_
          refine G_sub [0, 1, 2, 3, 4, 5] rfl ?_
          rw [nI_1 j]
          first
            | (have e : nearP S a i layer far j = false := pand_f2 (pand_f1 (isin_f hj8 c_22)); rw [cnt_f e] at q; exact q)
            | (have e : nearP S a i layer far j = false := pand_f2 (pand_f2 (le_f c_41)); rw [cnt_f e] at q; exact q)
            | (have e : nearP S a i layer far j = true := pand_t (decide_eq_true haj) (pand_t (isin_t hj8 c_22) (le_t c_41)); rw [cnt_t e] at q; rw [nI_1]; exact q)
theorem cnt_0 {p : Nat → Bool} : ∀ n, (∀ k, k < n → p k = false) → cnt p n = 0 := by
  intro n
  induction n with
  | zero => intro _; rfl
  | succ n ih => intro h; rw [cnt_f (h n (by omega))]; exact ih (fun k hk => h k (by omega))
theorem sp_X4_countNear (hc : S.2.1 1 5 = nI c) (h80 : c ≤ 80) {i layer far : Int32} {a : Nat} (hac : a ≤ c) : Sp K MX4_countNear 10 0 0 [.ref 1, .int i, .int (nI a), .int layer, .int far] (hp ly S) (fun v u => v = some (.int (nI (cnt (nearP S a i layer far) c))) ∧ u = hp ly S) noX := by
  refine Sp_of (by decide) (Nat.le_of_ble_eq_true rfl) ?_
  refine G_iconst (v := 0) dX4_countNear_0 (by decide) ?_
  refine GS_istore (L' := [(5, _), (0, _), (1, _), (2, _), (3, _), (4, _)]) dX4_countNear_1 (by decide) rfl ?_
  refine G_iload_n dX4_countNear_3 rfl ?_
  refine GS_istore (L' := [(6, _), (5, _), (0, _), (1, _), (2, _), (3, _), (4, _)]) dX4_countNear_4 (by decide) rfl ?_
  refine G_sub [0, 1, 2, 3, 5, 6] rfl ?_
  have q := lp_X4_countNear (K := K) (ly := ly) hc h80 (i := i) (layer := layer) (far := far) (c - a) a (by omega) (Nat.le_refl a)
  rw [cnt_0 (p := nearP S a i layer far) a (fun k hk => pand_f1 (decide_eq_false (by omega)))] at q
  exact q
theorem lp_X4_countPairs (hc : S.2.1 1 5 = nI c) (h80 : c ≤ 80) {one other far : Int32} : ∀ m j, j + m = c → G K MX4_countPairs 12 0 0 0 0 6 [(5, .int (nI j)), (4, .int (nI (smN (pairG S c one other far) j))), (0, .ref 1), (1, .int one), (2, .int other), (3, .int far)] [] (hp ly S) (QcP K (fun v u => v = some (.int (nI (smN (pairG S c one other far) c))) ∧ u = hp ly S)) (XcP K noX) := by
  intro m
  induction m with
  | zero =>
    intro j hj
    obtain rfl : j = c := by omega
    refine G_iload dX4_countPairs_6 rfl ?_
    refine G_aload_n dX4_countPairs_8 rfl ?_
    refine G_get (k := 5) dX4_countPairs_9 cThings rfl wfl_X4_36 (by decide) rfl ?_
    rw [hc]
    refine G_icmp_ge (tgt := 61) dX4_countPairs_12 (by decide) (fun c_12 => ?_) (fun c_12 => ?_)
    · refine G_iload dX4_countPairs_61 rfl ?_
      exact G_iret dX4_countPairs_63 rfl rfl ⟨Nat.le_refl 0, Nat.le_refl 0⟩ ⟨rfl, rfl⟩
    · exact absurd (nI_le (Nat.le_refl _) (by omega)) c_12
  | succ m ih =>
    intro j hj
    have hj8 : j < 80 := by omega
    have q := ih (j + 1) (by omega)
    rw [smN] at q
    refine G_iload dX4_countPairs_6 rfl ?_
    refine G_aload_n dX4_countPairs_8 rfl ?_
    refine G_get (k := 5) dX4_countPairs_9 cThings rfl wfl_X4_36 (by decide) rfl ?_
    rw [hc]
    refine G_icmp_ge (tgt := 61) dX4_countPairs_12 (by decide) (fun c_12 => ?_) (fun c_12 => ?_)
    · exact absurd c_12 (nI_ge (show j < c by omega) (by omega))
    · refine G_aload_n dX4_countPairs_15 rfl ?_
      refine G_iload dX4_countPairs_16 rfl ?_
      refine G_iload_n dX4_countPairs_18 rfl ?_
      refine G_cVi (As := [_, _]) dX4_countPairs_19 kV_X4_isIn wml_X4_48 sp_X4_isIn rfl cThings rfl rfl rfl (by decide) ⟨Nat.le_refl 0, Nat.le_refl 0⟩ (Nat.le_of_ble_eq_true rfl) ?_
      refine G_if_eq (tgt := 55) dX4_countPairs_22 (by decide) (fun c_22 => ?_) (fun c_22 => ?_)
      · refine GS_iinc (v := 1) (L' := [(5, _), (4, _), (0, _), (1, _), (2, _), (3, _)]) dX4_countPairs_55 rfl (by decide) (by decide) rfl ?_
        refine G_goto (tgt := 6) dX4_countPairs_58 (by decide) ?_
        refine G_sub [0, 1, 2, 3, 4, 5] rfl ?_
        rw [nI_1 j]
        first
          | (have e : pairG S c one other far j = 0 := by (unfold pairG; rw [if_neg (by rw [isin_f hj8 c_22]; decide)])
             rw [e] at q
             exact q)
          | (have e : pairG S c one other far j = cnt (nearP S (j + 1) (nI j) other far) c := by (unfold pairG; rw [if_pos (isin_t hj8 c_22), if_pos c_27])
             rw [e] at q
             rw [nI_add]
             exact q)
          | (have e : pairG S c one other far j = cnt (nearP S 0 (nI j) other far) c := by (unfold pairG; rw [if_pos (isin_t hj8 c_22), if_neg c_27])
             rw [e] at q
             rw [nI_add]
             exact q)
      · refine G_iload_n dX4_countPairs_25 rfl ?_
        refine G_iload_n dX4_countPairs_26 rfl ?_
        refine G_icmp_ne (tgt := 37) dX4_countPairs_27 (by decide) (fun c_27 => ?_) (fun c_27 => ?_)
        · refine G_iconst (v := 0) dX4_countPairs_37 (by decide) ?_
          first | skip
          refine GS_istore (L' := [(6, _), (5, _), (4, _), (0, _), (1, _), (2, _), (3, _)]) dX4_countPairs_38 (by decide) rfl ?_
          refine G_iload dX4_countPairs_40 rfl ?_
          refine G_aload_n dX4_countPairs_42 rfl ?_
          refine G_iload dX4_countPairs_43 rfl ?_
          refine G_iload dX4_countPairs_45 rfl ?_
          refine G_iload_n dX4_countPairs_47 rfl ?_
          refine G_iload_n dX4_countPairs_48 rfl ?_
          refine G_cVi (As := [_, _, _, _]) dX4_countPairs_49 kV_X4_countNear wml_X4_59 (sp_X4_countNear (a := 0) hc h80 (Nat.zero_le c)) rfl cThings rfl rfl rfl (by decide) ⟨Nat.le_refl 0, Nat.le_refl 0⟩ (Nat.le_of_ble_eq_true rfl) ?_
          refine G_iadd dX4_countPairs_52 ?_
          refine GS_istore (L' := [(4, _), (6, _), (5, _), (0, _), (1, _), (2, _), (3, _)]) dX4_countPairs_53 (by decide) rfl ?_
          refine GS_iinc (v := 1) (L' := [(5, _), (4, _), (6, _), (0, _), (1, _), (2, _), (3, _)]) dX4_countPairs_55 rfl (by decide) (by decide) rfl ?_
          refine G_goto (tgt := 6) dX4_countPairs_58 (by decide) ?_
          refine G_sub [0, 1, 3, 4, 5, 6] rfl ?_
          rw [nI_1 j]
          first
            | (have e : pairG S c one other far j = 0 := by (unfold pairG; rw [if_neg (by rw [isin_f hj8 c_22]; decide)])
               rw [e] at q
               exact q)
            | (have e : pairG S c one other far j = cnt (nearP S (j + 1) (nI j) other far) c := by (unfold pairG; rw [if_pos (isin_t hj8 c_22), if_pos c_27])
               rw [e] at q
               rw [nI_add]
               exact q)
            | (have e : pairG S c one other far j = cnt (nearP S 0 (nI j) other far) c := by (unfold pairG; rw [if_pos (isin_t hj8 c_22), if_neg c_27])
               rw [e] at q
               rw [nI_add]
               exact q)
        · refine G_iload dX4_countPairs_30 rfl ?_
          refine G_iconst (v := 1) dX4_countPairs_32 (by decide) ?_
          refine G_iadd dX4_countPairs_33 ?_
          rw [nI_1 j]
          refine G_goto (tgt := 38) dX4_countPairs_34 (by decide) ?_
          first | skip
          refine GS_istore (L' := [(6, _), (5, _), (4, _), (0, _), (1, _), (2, _), (3, _)]) dX4_countPairs_38 (by decide) rfl ?_
          refine G_iload dX4_countPairs_40 rfl ?_
          refine G_aload_n dX4_countPairs_42 rfl ?_
          refine G_iload dX4_countPairs_43 rfl ?_
          refine G_iload dX4_countPairs_45 rfl ?_
          refine G_iload_n dX4_countPairs_47 rfl ?_
          refine G_iload_n dX4_countPairs_48 rfl ?_
          refine G_cVi (As := [_, _, _, _]) dX4_countPairs_49 kV_X4_countNear wml_X4_59 (sp_X4_countNear (a := j + 1) hc h80 (by omega)) rfl cThings rfl rfl rfl (by decide) ⟨Nat.le_refl 0, Nat.le_refl 0⟩ (Nat.le_of_ble_eq_true rfl) ?_
          refine G_iadd dX4_countPairs_52 ?_
          refine GS_istore (L' := [(4, _), (6, _), (5, _), (0, _), (1, _), (2, _), (3, _)]) dX4_countPairs_53 (by decide) rfl ?_
          refine GS_iinc (v := 1) (L' := [(5, _), (4, _), (6, _), (0, _), (1, _), (2, _), (3, _)]) dX4_countPairs_55 rfl (by decide) (by decide) rfl ?_
          refine G_goto (tgt := 6) dX4_countPairs_58 (by decide) ?_
          refine G_sub [0, 1, 3, 4, 5, 6] rfl ?_
          rw [nI_1 j]
          first
            | (have e : pairG S c one other far j = 0 := by (unfold pairG; rw [if_neg (by rw [isin_f hj8 c_22]; decide)])
               rw [e] at q
               exact q)
            | (have e : pairG S c one other far j = cnt (nearP S (j + 1) (nI j) other far) c := by (unfold pairG; rw [if_pos (isin_t hj8 c_22), if_pos c_27])
               rw [e] at q
               rw [nI_add]
               exact q)
            | (have e : pairG S c one other far j = cnt (nearP S 0 (nI j) other far) c := by (unfold pairG; rw [if_pos (isin_t hj8 c_22), if_neg c_27])
               rw [e] at q
               rw [nI_add]
               exact q)
theorem sp_X4_countPairs (hc : S.2.1 1 5 = nI c) (h80 : c ≤ 80) {one other far : Int32} : Sp K MX4_countPairs 12 0 0 [.ref 1, .int one, .int other, .int far] (hp ly S) (fun v u => v = some (.int (nI (smN (pairG S c one other far) c))) ∧ u = hp ly S) noX := by
  refine Sp_of (by decide) (Nat.le_of_ble_eq_true rfl) ?_
  refine G_iconst (v := 0) dX4_countPairs_0 (by decide) ?_
  refine GS_istore (L' := [(4, _), (0, _), (1, _), (2, _), (3, _)]) dX4_countPairs_1 (by decide) rfl ?_
  refine G_iconst (v := 0) dX4_countPairs_3 (by decide) ?_
  refine GS_istore (L' := [(5, _), (4, _), (0, _), (1, _), (2, _), (3, _)]) dX4_countPairs_4 (by decide) rfl ?_
  refine G_sub [0, 1, 2, 3, 4, 5] rfl ?_
  exact lp_X4_countPairs hc h80 c 0 (by omega)
end TH2
end
section
section TH3
variable {K : GK} {ly : Nat} {S : St} {c : Nat}
/-- a thing comes: its layer and its tag, one more of them -/
def addS (S : St) (layer tag : Int32) : St := setI (setR (setR S 12 (rput (S.1 12) 80 (S.2.1 1 5) layer)) 14 (rput (S.1 14) 80 (S.2.1 1 5) tag)) 1 5 (S.2.1 1 5 + 1)
set_option maxHeartbeats 100000 in
theorem sp_X4_add {layer tag : Int32} : Sp K MX4_add 6 0 0 [.ref 1, .int layer, .int tag] (hp ly S) (fun v u => v = some (.int (S.2.1 1 5)) ∧ u = hp ly (addS S layer tag)) noX := by
  refine Sp_of (by decide) (Nat.le_of_ble_eq_true rfl) ?_
  refine G_aload_n dX4_add_0 rfl ?_
  refine G_get (k := 5) dX4_add_1 cThings rfl wfl_X4_36 (by decide) rfl ?_
  refine GS_istore_n (L' := [(3, _), (0, _), (1, _), (2, _)]) dX4_add_4 (by decide) rfl ?_
  refine G_aload_n dX4_add_5 rfl ?_
  refine G_get (k := 1) dX4_add_6 cThings rfl wfl_X4_23 (by decide) rfl ?_
  refine G_iload_n dX4_add_9 rfl ?_
  refine G_iload_n dX4_add_10 rfl ?_
  refine G_cVv (As := [_, _]) dX4_add_11 kV_X3_put wml_X4_40 (sp_X3_put rLayerOf) rfl (cRow rLayerOf) rfl rfl rfl (by decide) ⟨Nat.le_refl 0, Nat.le_refl 0⟩ (Nat.le_of_ble_eq_true rfl) ?_
  refine G_aload_n dX4_add_14 rfl ?_
  refine G_get (k := 2) dX4_add_15 cThings rfl wfl_X4_27 (by decide) rfl ?_
  refine G_iload_n dX4_add_18 rfl ?_
  refine G_iload_n dX4_add_19 rfl ?_
  refine G_cVv (As := [_, _]) dX4_add_20 kV_X3_put wml_X4_40 (sp_X3_put rTags) rfl (cRow rTags) rfl rfl rfl (by decide) ⟨Nat.le_refl 0, Nat.le_refl 0⟩ (Nat.le_of_ble_eq_true rfl) ?_
  refine G_aload_n dX4_add_23 rfl ?_
  refine G_dup dX4_add_24 rfl ?_
  refine G_get (k := 5) dX4_add_25 cThings rfl wfl_X4_36 (by decide) rfl ?_
  refine G_iconst (v := 1) dX4_add_28 (by decide) ?_
  refine G_iadd dX4_add_29 ?_
  refine G_setI (k := 5) dX4_add_30 (sThings (ly := ly)).1 (sThings (ly := ly)).2.1 (sThings (ly := ly)).2.2 rfl rfl wfl_X4_36 (by decide) rfl rfl ?_
  refine G_iload_n dX4_add_33 rfl ?_
  exact G_iret dX4_add_34 rfl rfl ⟨Nat.le_refl 0, Nat.le_refl 0⟩ ⟨rfl, rfl⟩
def jnP (g : Nat → Int32) (D Kp : Int32) (j : Nat) : Nat → Int32 := fun k => if k < j ∧ g k = D then Kp else g k
set_option maxHeartbeats 100000 in
theorem jnP_f {g : Nat → Int32} {D Kp : Int32} {j : Nat} (h : ¬ g j = D) : jnP g D Kp (j + 1) = jnP g D Kp j := by
  funext k
  unfold jnP
  by_cases hk : k = j
  · subst hk
    rw [if_neg (fun q => h q.2), if_neg (fun q => h q.2)]
  · by_cases q : k < j ∧ g k = D
    · rw [if_pos q, if_pos ⟨by omega, q.2⟩]
    · rw [if_neg q, if_neg (fun z => q ⟨by omega, z.2⟩)]
set_option maxHeartbeats 100000 in
theorem jnP_t {g : Nat → Int32} {D Kp : Int32} {j : Nat} (h : g j = D) : jnP g D Kp (j + 1) = upd (jnP g D Kp j) j Kp := by
  funext k
  unfold jnP upd
  by_cases hk : k = j
  · subst hk
    rw [if_pos ⟨by omega, h⟩, if_pos rfl]
  · rw [if_neg hk]
    show (if k < j + 1 ∧ g k = D then Kp else g k) = if k < j ∧ g k = D then Kp else g k
    by_cases q : k < j ∧ g k = D
    · rw [if_pos q, if_pos ⟨by omega, q.2⟩]
    · rw [if_neg q, if_neg (fun z => q ⟨by omega, z.2⟩)]
set_option maxHeartbeats 100000 in
theorem jnP_at {g : Nat → Int32} {D Kp : Int32} {j : Nat} : jnP g D Kp j j = g j := by unfold jnP; rw [if_neg (fun q => by omega)]
set_option maxHeartbeats 100000 in
theorem jnP_0 {g : Nat → Int32} {D Kp : Int32} : jnP g D Kp 0 = g := by funext k; unfold jnP; rw [if_neg (fun q => by omega)]
set_option maxHeartbeats 100000 in
theorem lp_X4_join (hc : S.2.1 1 5 = nI c) (h80 : c ≤ 80) {D Kp : Int32} : ∀ m j, j + m = c → G K MX4_joinClusters 6 0 0 0 0 22 [(5, .int (nI j)), (4, .int D), (3, .int Kp), (0, .ref 1)] [] (hp ly (setR S 18 (jnP (S.1 18) D Kp j))) (QcP K (fun v u => v = none ∧ u = hp ly (setR S 18 (jnP (S.1 18) D Kp c)))) (XcP K noX) := by
  intro m
  induction m with
  | zero =>
    intro j hj
    obtain rfl : j = c := by omega
    refine G_iload dX4_joinClusters_22 rfl ?_
    refine G_aload_n dX4_joinClusters_24 rfl ?_
    refine G_get (k := 5) dX4_joinClusters_25 cThings rfl wfl_X4_36 (by decide) rfl ?_
    rw [show (setR S 18 (jnP (S.1 18) D Kp j)).2.1 1 5 = nI j from hc]
    refine G_icmp_ge (tgt := 61) dX4_joinClusters_28 (by decide) (fun c_28 => ?_) (fun c_28 => ?_)
    · exact G_vret dX4_joinClusters_61 rfl ⟨Nat.le_refl 0, Nat.le_refl 0⟩ ⟨rfl, rfl⟩
    · exact absurd (nI_le (Nat.le_refl _) (by omega)) c_28
  | succ m ih =>
    intro j hj
    have hj8 : j < 80 := by omega
    have q := ih (j + 1) (by omega)
    refine G_iload dX4_joinClusters_22 rfl ?_
    refine G_aload_n dX4_joinClusters_24 rfl ?_
    refine G_get (k := 5) dX4_joinClusters_25 cThings rfl wfl_X4_36 (by decide) rfl ?_
    rw [show (setR S 18 (jnP (S.1 18) D Kp j)).2.1 1 5 = nI c from hc]
    refine G_icmp_ge (tgt := 61) dX4_joinClusters_28 (by decide) (fun c_28 => ?_) (fun c_28 => ?_)
    · exact absurd c_28 (nI_ge (show j < c by omega) (by omega))
    · refine G_aload_n dX4_joinClusters_31 rfl ?_
      refine G_get (k := 4) dX4_joinClusters_32 cThings rfl wfl_X4_33 (by decide) rfl ?_
      refine G_iload dX4_joinClusters_35 rfl ?_
      refine G_cVi (As := [_]) dX4_joinClusters_37 kV_X3_at wml_X4_44 (sp_X3_at rClus) rfl (cRow rClus) rfl rfl rfl (by decide) ⟨Nat.le_refl 0, Nat.le_refl 0⟩ (Nat.le_of_ble_eq_true rfl) ?_
      refine G_iload dX4_joinClusters_40 rfl ?_
      refine G_icmp_ne (tgt := 55) dX4_joinClusters_42 (by decide) (fun c_42 => ?_) (fun c_42 => ?_)
      · refine GS_iinc (v := 1) (L' := [(5, _), (4, _), (3, _), (0, _)]) dX4_joinClusters_55 rfl (by decide) (by decide) rfl ?_
        refine G_goto (tgt := 22) dX4_joinClusters_58 (by decide) ?_
        refine G_sub [0, 1, 2, 3] rfl ?_
        rw [nI_1 j]
        rw [rat_nI hj8 (by decide)] at c_42
        rw [show (setR S 18 (jnP (S.1 18) D Kp j)).1 18 j = S.1 18 j from jnP_at] at c_42
        first
          | (rw [jnP_t c_42] at q; rw [setR_twice, rput_nI hj8 (by decide)]; exact q)
          | (rw [jnP_f c_42] at q; exact q)
      · refine G_aload_n dX4_joinClusters_45 rfl ?_
        refine G_get (k := 4) dX4_joinClusters_46 cThings rfl wfl_X4_33 (by decide) rfl ?_
        refine G_iload dX4_joinClusters_49 rfl ?_
        refine G_iload_n dX4_joinClusters_51 rfl ?_
        refine G_cVv (As := [_, _]) dX4_joinClusters_52 kV_X3_put wml_X4_40 (sp_X3_put rClus) rfl (cRow rClus) rfl rfl rfl (by decide) ⟨Nat.le_refl 0, Nat.le_refl 0⟩ (Nat.le_of_ble_eq_true rfl) ?_
        refine GS_iinc (v := 1) (L' := [(5, _), (4, _), (3, _), (0, _)]) dX4_joinClusters_55 rfl (by decide) (by decide) rfl ?_
        refine G_goto (tgt := 22) dX4_joinClusters_58 (by decide) ?_
        refine G_sub [0, 1, 2, 3] rfl ?_
        rw [nI_1 j]
        rw [rat_nI hj8 (by decide)] at c_42
        rw [show (setR S 18 (jnP (S.1 18) D Kp j)).1 18 j = S.1 18 j from jnP_at] at c_42
        first
          | (rw [jnP_t c_42] at q; rw [setR_twice, rput_nI hj8 (by decide)]; exact q)
          | (rw [jnP_f c_42] at q; exact q)
set_option maxHeartbeats 100000 in
theorem sp_X4_joinClusters (hc : S.2.1 1 5 = nI c) (h80 : c ≤ 80) {one other : Int32} : Sp K MX4_joinClusters 6 0 0 [.ref 1, .int one, .int other] (hp ly S) (fun v u => v = none ∧ u = hp ly (setR S 18 (jn (S.1 18) c one other))) noX := by
  refine Sp_of (by decide) (Nat.le_of_ble_eq_true rfl) ?_
  refine G_iload_n dX4_joinClusters_0 rfl ?_
  refine G_iload_n dX4_joinClusters_1 rfl ?_
  refine G_icmp_ne (tgt := 6) dX4_joinClusters_2 (by decide) (fun c_2 => ?_) (fun c_2 => ?_)
  · refine G_iload_n dX4_joinClusters_6 rfl ?_
    refine G_iload_n dX4_joinClusters_7 rfl ?_
    refine G_min dX4_joinClusters_8 wml_X4_70 (by decide) ⟨Nat.le_refl 0, Nat.le_refl 0⟩ (Nat.le_of_ble_eq_true rfl) ?_
    refine GS_istore_n (L' := [(3, _), (0, _), (1, _), (2, _)]) dX4_joinClusters_11 (by decide) rfl ?_
    refine G_iload_n dX4_joinClusters_12 rfl ?_
    refine G_iload_n dX4_joinClusters_13 rfl ?_
    refine G_max dX4_joinClusters_14 wml_X4_76 (by decide) ⟨Nat.le_refl 0, Nat.le_refl 0⟩ (Nat.le_of_ble_eq_true rfl) ?_
    refine GS_istore (L' := [(4, _), (3, _), (0, _), (1, _), (2, _)]) dX4_joinClusters_17 (by decide) rfl ?_
    refine G_iconst (v := 0) dX4_joinClusters_19 (by decide) ?_
    refine GS_istore (L' := [(5, _), (4, _), (3, _), (0, _), (1, _), (2, _)]) dX4_joinClusters_20 (by decide) rfl ?_
    refine G_sub [0, 1, 2, 3] rfl ?_
    have q := lp_X4_join (K := K) (ly := ly) hc h80 (D := mx one other) (Kp := mn one other) c 0 (by omega)
    rw [jnP_0, setR_self] at q
    unfold jn
    rw [if_neg c_2]
    exact q
  · exact G_vret dX4_joinClusters_5 rfl ⟨Nat.le_refl 0, Nat.le_refl 0⟩ ⟨rfl, by unfold jn; rw [if_pos c_2, setR_self]⟩
set_option maxHeartbeats 100000 in
theorem lp_X4_gIn (hc : S.2.1 1 5 = nI c) (h80 : c ≤ 80) {layer far : Int32} {g : Nat → Int32} {t : Nat} (ht : t < c) {Qc : Array Value → State → Outcome → State → Prop} {XC : String → State → State → Prop} (kk : G K MX4_gatherClusters 12 0 0 0 0 104 [(3, .int (nI t)), (0, .ref 1), (1, .int layer), (2, .int far)] [] (hp ly (setR S 18 (gIn S c layer far g t t))) Qc XC) : ∀ m i, i + m = t → G K MX4_gatherClusters 12 0 0 0 0 22 [(4, .int (nI i)), (3, .int (nI t)), (0, .ref 1), (1, .int layer), (2, .int far)] [] (hp ly (setR S 18 (gIn S c layer far g t i))) Qc XC := by
  intro m
  induction m with
  | zero =>
    intro i hi
    obtain rfl : i = t := by omega
    refine G_iload dX4_gatherClusters_22 rfl ?_
    refine G_iload_n dX4_gatherClusters_24 rfl ?_
    refine G_icmp_ge (tgt := 104) dX4_gatherClusters_25 (by decide) (fun c_25 => ?_) (fun c_25 => ?_)
    · refine G_sub [1, 2, 3, 4] rfl ?_
      exact kk
    · exact absurd (nI_le (Nat.le_refl _) (by omega)) c_25
  | succ m ih =>
    intro i hi
    have hi8 : i < 80 := by omega
    have ht8 : t < 80 := by omega
    have q := ih (i + 1) (by omega)
    refine G_iload dX4_gatherClusters_22 rfl ?_
    refine G_iload_n dX4_gatherClusters_24 rfl ?_
    refine G_icmp_ge (tgt := 104) dX4_gatherClusters_25 (by decide) (fun c_25 => ?_) (fun c_25 => ?_)
    · exact absurd c_25 (nI_ge (show i < t by omega) (by omega))
    · refine G_aload_n dX4_gatherClusters_28 rfl ?_
      refine G_iload_n dX4_gatherClusters_29 rfl ?_
      refine G_iload_n dX4_gatherClusters_30 rfl ?_
      refine G_cVi (As := [_, _]) dX4_gatherClusters_31 kV_X4_isIn wml_X4_48 sp_X4_isIn rfl cThings rfl rfl rfl (by decide) ⟨Nat.le_refl 0, Nat.le_refl 0⟩ (Nat.le_of_ble_eq_true rfl) ?_
      refine G_if_eq (tgt := 51) dX4_gatherClusters_34 (by decide) (fun c_34 => ?_) (fun c_34 => ?_)
      · refine G_iconst (v := 0) dX4_gatherClusters_51 (by decide) ?_
        refine GS_istore (L' := [(5, _), (4, _), (3, _), (0, _), (1, _), (2, _)]) dX4_gatherClusters_52 (by decide) rfl ?_
        refine G_iload dX4_gatherClusters_54 rfl ?_
        refine G_if_eq (tgt := 98) dX4_gatherClusters_56 (by decide) (fun c_56 => ?_) (fun c_56 => ?_)
        · refine GS_iinc (v := 1) (L' := [(4, _), (5, _), (3, _), (0, _), (1, _), (2, _)]) dX4_gatherClusters_98 rfl (by decide) (by decide) rfl ?_
          refine G_goto (tgt := 22) dX4_gatherClusters_101 (by decide) ?_
          refine G_sub [0, 2, 3, 4, 5] rfl ?_
          first
            | exact absurd c_56 (by decide)
            | exact absurd rfl c_56
            | (have e : nr S layer far t i = false := pand_f1 (pand_f1 (isin_f (S := S) ht8 c_34)); rw [nI_1 i]; rw [gIn_f e] at q; exact q)
            | (have e : nr S layer far t i = false := pand_f1 (pand_f2 (isin_f (S := S) hi8 c_44)); rw [nI_1 i]; rw [gIn_f e] at q; exact q)
            | (have e : nr S layer far t i = false := pand_f2 (le_f c_74); rw [nI_1 i]; rw [gIn_f e] at q; exact q)
            | (have e : nr S layer far t i = true := pand_t (pand_t (isin_t (S := S) ht8 c_34) (isin_t (S := S) hi8 c_44)) (le_t c_74); rw [nI_1 i]; rw [gIn_t e] at q; rw [setR_twice, rat_nI ht8 (by decide), rat_nI hi8 (by decide)]; exact q)
        · refine G_aload_n dX4_gatherClusters_59 rfl ?_
          refine G_get (k := 0) dX4_gatherClusters_60 cThings rfl wfl_X4_14 (by decide) rfl ?_
          refine G_iload_n dX4_gatherClusters_63 rfl ?_
          refine G_aload_n dX4_gatherClusters_64 rfl ?_
          refine G_get (k := 0) dX4_gatherClusters_65 cThings rfl wfl_X4_14 (by decide) rfl ?_
          refine G_iload dX4_gatherClusters_68 rfl ?_
          refine G_cVi (As := [_, _, _]) dX4_gatherClusters_70 kV_X0_farBetween wml_X4_63 (sp_X0_farBetween bThings bThings) rfl (cBox bThings) rfl rfl rfl (by decide) ⟨Nat.le_refl 0, Nat.le_refl 0⟩ (Nat.le_of_ble_eq_true rfl) ?_
          refine G_iload_n dX4_gatherClusters_73 rfl ?_
          refine G_icmp_gt (tgt := 98) dX4_gatherClusters_74 (by decide) (fun c_74 => ?_) (fun c_74 => ?_)
          · refine GS_iinc (v := 1) (L' := [(4, _), (5, _), (3, _), (0, _), (1, _), (2, _)]) dX4_gatherClusters_98 rfl (by decide) (by decide) rfl ?_
            refine G_goto (tgt := 22) dX4_gatherClusters_101 (by decide) ?_
            refine G_sub [0, 2, 3, 4, 5] rfl ?_
            first
              | exact absurd c_56 (by decide)
              | exact absurd rfl c_56
              | (have e : nr S layer far t i = false := pand_f1 (pand_f1 (isin_f (S := S) ht8 c_34)); rw [nI_1 i]; rw [gIn_f e] at q; exact q)
              | (have e : nr S layer far t i = false := pand_f1 (pand_f2 (isin_f (S := S) hi8 c_44)); rw [nI_1 i]; rw [gIn_f e] at q; exact q)
              | (have e : nr S layer far t i = false := pand_f2 (le_f c_74); rw [nI_1 i]; rw [gIn_f e] at q; exact q)
              | (have e : nr S layer far t i = true := pand_t (pand_t (isin_t (S := S) ht8 c_34) (isin_t (S := S) hi8 c_44)) (le_t c_74); rw [nI_1 i]; rw [gIn_t e] at q; rw [setR_twice, rat_nI ht8 (by decide), rat_nI hi8 (by decide)]; exact q)
          · refine G_aload_n dX4_gatherClusters_77 rfl ?_
            refine G_aload_n dX4_gatherClusters_78 rfl ?_
            refine G_get (k := 4) dX4_gatherClusters_79 cThings rfl wfl_X4_33 (by decide) rfl ?_
            refine G_iload_n dX4_gatherClusters_82 rfl ?_
            refine G_cVi (As := [_]) dX4_gatherClusters_83 kV_X3_at wml_X4_44 (sp_X3_at rClus) rfl (cRow rClus) rfl rfl rfl (by decide) ⟨Nat.le_refl 0, Nat.le_refl 0⟩ (Nat.le_of_ble_eq_true rfl) ?_
            refine G_aload_n dX4_gatherClusters_86 rfl ?_
            refine G_get (k := 4) dX4_gatherClusters_87 cThings rfl wfl_X4_33 (by decide) rfl ?_
            refine G_iload dX4_gatherClusters_90 rfl ?_
            refine G_cVi (As := [_]) dX4_gatherClusters_92 kV_X3_at wml_X4_44 (sp_X3_at rClus) rfl (cRow rClus) rfl rfl rfl (by decide) ⟨Nat.le_refl 0, Nat.le_refl 0⟩ (Nat.le_of_ble_eq_true rfl) ?_
            refine G_cVv (As := [_, _]) dX4_gatherClusters_95 kV_X4_joinClusters wml_X4_67 (sp_X4_joinClusters (S := setR S 18 (gIn S c layer far g t i)) hc h80) rfl cThings rfl rfl rfl (by decide) ⟨Nat.le_refl 0, Nat.le_refl 0⟩ (Nat.le_of_ble_eq_true rfl) ?_
            refine GS_iinc (v := 1) (L' := [(4, _), (5, _), (3, _), (0, _), (1, _), (2, _)]) dX4_gatherClusters_98 rfl (by decide) (by decide) rfl ?_
            refine G_goto (tgt := 22) dX4_gatherClusters_101 (by decide) ?_
            refine G_sub [0, 2, 3, 4, 5] rfl ?_
            first
              | exact absurd c_56 (by decide)
              | exact absurd rfl c_56
              | (have e : nr S layer far t i = false := pand_f1 (pand_f1 (isin_f (S := S) ht8 c_34)); rw [nI_1 i]; rw [gIn_f e] at q; exact q)
              | (have e : nr S layer far t i = false := pand_f1 (pand_f2 (isin_f (S := S) hi8 c_44)); rw [nI_1 i]; rw [gIn_f e] at q; exact q)
              | (have e : nr S layer far t i = false := pand_f2 (le_f c_74); rw [nI_1 i]; rw [gIn_f e] at q; exact q)
              | (have e : nr S layer far t i = true := pand_t (pand_t (isin_t (S := S) ht8 c_34) (isin_t (S := S) hi8 c_44)) (le_t c_74); rw [nI_1 i]; rw [gIn_t e] at q; rw [setR_twice, rat_nI ht8 (by decide), rat_nI hi8 (by decide)]; exact q)
      · refine G_aload_n dX4_gatherClusters_37 rfl ?_
        refine G_iload dX4_gatherClusters_38 rfl ?_
        refine G_iload_n dX4_gatherClusters_40 rfl ?_
        refine G_cVi (As := [_, _]) dX4_gatherClusters_41 kV_X4_isIn wml_X4_48 sp_X4_isIn rfl cThings rfl rfl rfl (by decide) ⟨Nat.le_refl 0, Nat.le_refl 0⟩ (Nat.le_of_ble_eq_true rfl) ?_
        refine G_if_eq (tgt := 51) dX4_gatherClusters_44 (by decide) (fun c_44 => ?_) (fun c_44 => ?_)
        · refine G_iconst (v := 0) dX4_gatherClusters_51 (by decide) ?_
          refine GS_istore (L' := [(5, _), (4, _), (3, _), (0, _), (1, _), (2, _)]) dX4_gatherClusters_52 (by decide) rfl ?_
          refine G_iload dX4_gatherClusters_54 rfl ?_
          refine G_if_eq (tgt := 98) dX4_gatherClusters_56 (by decide) (fun c_56 => ?_) (fun c_56 => ?_)
          · refine GS_iinc (v := 1) (L' := [(4, _), (5, _), (3, _), (0, _), (1, _), (2, _)]) dX4_gatherClusters_98 rfl (by decide) (by decide) rfl ?_
            refine G_goto (tgt := 22) dX4_gatherClusters_101 (by decide) ?_
            refine G_sub [0, 2, 3, 4, 5] rfl ?_
            first
              | exact absurd c_56 (by decide)
              | exact absurd rfl c_56
              | (have e : nr S layer far t i = false := pand_f1 (pand_f1 (isin_f (S := S) ht8 c_34)); rw [nI_1 i]; rw [gIn_f e] at q; exact q)
              | (have e : nr S layer far t i = false := pand_f1 (pand_f2 (isin_f (S := S) hi8 c_44)); rw [nI_1 i]; rw [gIn_f e] at q; exact q)
              | (have e : nr S layer far t i = false := pand_f2 (le_f c_74); rw [nI_1 i]; rw [gIn_f e] at q; exact q)
              | (have e : nr S layer far t i = true := pand_t (pand_t (isin_t (S := S) ht8 c_34) (isin_t (S := S) hi8 c_44)) (le_t c_74); rw [nI_1 i]; rw [gIn_t e] at q; rw [setR_twice, rat_nI ht8 (by decide), rat_nI hi8 (by decide)]; exact q)
          · refine G_aload_n dX4_gatherClusters_59 rfl ?_
            refine G_get (k := 0) dX4_gatherClusters_60 cThings rfl wfl_X4_14 (by decide) rfl ?_
            refine G_iload_n dX4_gatherClusters_63 rfl ?_
            refine G_aload_n dX4_gatherClusters_64 rfl ?_
            refine G_get (k := 0) dX4_gatherClusters_65 cThings rfl wfl_X4_14 (by decide) rfl ?_
            refine G_iload dX4_gatherClusters_68 rfl ?_
            refine G_cVi (As := [_, _, _]) dX4_gatherClusters_70 kV_X0_farBetween wml_X4_63 (sp_X0_farBetween bThings bThings) rfl (cBox bThings) rfl rfl rfl (by decide) ⟨Nat.le_refl 0, Nat.le_refl 0⟩ (Nat.le_of_ble_eq_true rfl) ?_
            refine G_iload_n dX4_gatherClusters_73 rfl ?_
            refine G_icmp_gt (tgt := 98) dX4_gatherClusters_74 (by decide) (fun c_74 => ?_) (fun c_74 => ?_)
            · refine GS_iinc (v := 1) (L' := [(4, _), (5, _), (3, _), (0, _), (1, _), (2, _)]) dX4_gatherClusters_98 rfl (by decide) (by decide) rfl ?_
              refine G_goto (tgt := 22) dX4_gatherClusters_101 (by decide) ?_
              refine G_sub [0, 2, 3, 4, 5] rfl ?_
              first
                | exact absurd c_56 (by decide)
                | exact absurd rfl c_56
                | (have e : nr S layer far t i = false := pand_f1 (pand_f1 (isin_f (S := S) ht8 c_34)); rw [nI_1 i]; rw [gIn_f e] at q; exact q)
                | (have e : nr S layer far t i = false := pand_f1 (pand_f2 (isin_f (S := S) hi8 c_44)); rw [nI_1 i]; rw [gIn_f e] at q; exact q)
                | (have e : nr S layer far t i = false := pand_f2 (le_f c_74); rw [nI_1 i]; rw [gIn_f e] at q; exact q)
                | (have e : nr S layer far t i = true := pand_t (pand_t (isin_t (S := S) ht8 c_34) (isin_t (S := S) hi8 c_44)) (le_t c_74); rw [nI_1 i]; rw [gIn_t e] at q; rw [setR_twice, rat_nI ht8 (by decide), rat_nI hi8 (by decide)]; exact q)
            · refine G_aload_n dX4_gatherClusters_77 rfl ?_
              refine G_aload_n dX4_gatherClusters_78 rfl ?_
              refine G_get (k := 4) dX4_gatherClusters_79 cThings rfl wfl_X4_33 (by decide) rfl ?_
              refine G_iload_n dX4_gatherClusters_82 rfl ?_
              refine G_cVi (As := [_]) dX4_gatherClusters_83 kV_X3_at wml_X4_44 (sp_X3_at rClus) rfl (cRow rClus) rfl rfl rfl (by decide) ⟨Nat.le_refl 0, Nat.le_refl 0⟩ (Nat.le_of_ble_eq_true rfl) ?_
              refine G_aload_n dX4_gatherClusters_86 rfl ?_
              refine G_get (k := 4) dX4_gatherClusters_87 cThings rfl wfl_X4_33 (by decide) rfl ?_
              refine G_iload dX4_gatherClusters_90 rfl ?_
              refine G_cVi (As := [_]) dX4_gatherClusters_92 kV_X3_at wml_X4_44 (sp_X3_at rClus) rfl (cRow rClus) rfl rfl rfl (by decide) ⟨Nat.le_refl 0, Nat.le_refl 0⟩ (Nat.le_of_ble_eq_true rfl) ?_
              refine G_cVv (As := [_, _]) dX4_gatherClusters_95 kV_X4_joinClusters wml_X4_67 (sp_X4_joinClusters (S := setR S 18 (gIn S c layer far g t i)) hc h80) rfl cThings rfl rfl rfl (by decide) ⟨Nat.le_refl 0, Nat.le_refl 0⟩ (Nat.le_of_ble_eq_true rfl) ?_
              refine GS_iinc (v := 1) (L' := [(4, _), (5, _), (3, _), (0, _), (1, _), (2, _)]) dX4_gatherClusters_98 rfl (by decide) (by decide) rfl ?_
              refine G_goto (tgt := 22) dX4_gatherClusters_101 (by decide) ?_
              refine G_sub [0, 2, 3, 4, 5] rfl ?_
              first
                | exact absurd c_56 (by decide)
                | exact absurd rfl c_56
                | (have e : nr S layer far t i = false := pand_f1 (pand_f1 (isin_f (S := S) ht8 c_34)); rw [nI_1 i]; rw [gIn_f e] at q; exact q)
                | (have e : nr S layer far t i = false := pand_f1 (pand_f2 (isin_f (S := S) hi8 c_44)); rw [nI_1 i]; rw [gIn_f e] at q; exact q)
                | (have e : nr S layer far t i = false := pand_f2 (le_f c_74); rw [nI_1 i]; rw [gIn_f e] at q; exact q)
                | (have e : nr S layer far t i = true := pand_t (pand_t (isin_t (S := S) ht8 c_34) (isin_t (S := S) hi8 c_44)) (le_t c_74); rw [nI_1 i]; rw [gIn_t e] at q; rw [setR_twice, rat_nI ht8 (by decide), rat_nI hi8 (by decide)]; exact q)
        · refine G_iconst (v := 1) dX4_gatherClusters_47 (by decide) ?_
          refine G_goto (tgt := 52) dX4_gatherClusters_48 (by decide) ?_
          refine GS_istore (L' := [(5, _), (4, _), (3, _), (0, _), (1, _), (2, _)]) dX4_gatherClusters_52 (by decide) rfl ?_
          refine G_iload dX4_gatherClusters_54 rfl ?_
          refine G_if_eq (tgt := 98) dX4_gatherClusters_56 (by decide) (fun c_56 => ?_) (fun c_56 => ?_)
          · refine GS_iinc (v := 1) (L' := [(4, _), (5, _), (3, _), (0, _), (1, _), (2, _)]) dX4_gatherClusters_98 rfl (by decide) (by decide) rfl ?_
            refine G_goto (tgt := 22) dX4_gatherClusters_101 (by decide) ?_
            refine G_sub [0, 2, 3, 4, 5] rfl ?_
            first
              | exact absurd c_56 (by decide)
              | exact absurd rfl c_56
              | (have e : nr S layer far t i = false := pand_f1 (pand_f1 (isin_f (S := S) ht8 c_34)); rw [nI_1 i]; rw [gIn_f e] at q; exact q)
              | (have e : nr S layer far t i = false := pand_f1 (pand_f2 (isin_f (S := S) hi8 c_44)); rw [nI_1 i]; rw [gIn_f e] at q; exact q)
              | (have e : nr S layer far t i = false := pand_f2 (le_f c_74); rw [nI_1 i]; rw [gIn_f e] at q; exact q)
              | (have e : nr S layer far t i = true := pand_t (pand_t (isin_t (S := S) ht8 c_34) (isin_t (S := S) hi8 c_44)) (le_t c_74); rw [nI_1 i]; rw [gIn_t e] at q; rw [setR_twice, rat_nI ht8 (by decide), rat_nI hi8 (by decide)]; exact q)
          · refine G_aload_n dX4_gatherClusters_59 rfl ?_
            refine G_get (k := 0) dX4_gatherClusters_60 cThings rfl wfl_X4_14 (by decide) rfl ?_
            refine G_iload_n dX4_gatherClusters_63 rfl ?_
            refine G_aload_n dX4_gatherClusters_64 rfl ?_
            refine G_get (k := 0) dX4_gatherClusters_65 cThings rfl wfl_X4_14 (by decide) rfl ?_
            refine G_iload dX4_gatherClusters_68 rfl ?_
            refine G_cVi (As := [_, _, _]) dX4_gatherClusters_70 kV_X0_farBetween wml_X4_63 (sp_X0_farBetween bThings bThings) rfl (cBox bThings) rfl rfl rfl (by decide) ⟨Nat.le_refl 0, Nat.le_refl 0⟩ (Nat.le_of_ble_eq_true rfl) ?_
            refine G_iload_n dX4_gatherClusters_73 rfl ?_
            refine G_icmp_gt (tgt := 98) dX4_gatherClusters_74 (by decide) (fun c_74 => ?_) (fun c_74 => ?_)
            · refine GS_iinc (v := 1) (L' := [(4, _), (5, _), (3, _), (0, _), (1, _), (2, _)]) dX4_gatherClusters_98 rfl (by decide) (by decide) rfl ?_
              refine G_goto (tgt := 22) dX4_gatherClusters_101 (by decide) ?_
              refine G_sub [0, 2, 3, 4, 5] rfl ?_
              first
                | exact absurd c_56 (by decide)
                | exact absurd rfl c_56
                | (have e : nr S layer far t i = false := pand_f1 (pand_f1 (isin_f (S := S) ht8 c_34)); rw [nI_1 i]; rw [gIn_f e] at q; exact q)
                | (have e : nr S layer far t i = false := pand_f1 (pand_f2 (isin_f (S := S) hi8 c_44)); rw [nI_1 i]; rw [gIn_f e] at q; exact q)
                | (have e : nr S layer far t i = false := pand_f2 (le_f c_74); rw [nI_1 i]; rw [gIn_f e] at q; exact q)
                | (have e : nr S layer far t i = true := pand_t (pand_t (isin_t (S := S) ht8 c_34) (isin_t (S := S) hi8 c_44)) (le_t c_74); rw [nI_1 i]; rw [gIn_t e] at q; rw [setR_twice, rat_nI ht8 (by decide), rat_nI hi8 (by decide)]; exact q)
            · refine G_aload_n dX4_gatherClusters_77 rfl ?_
              refine G_aload_n dX4_gatherClusters_78 rfl ?_
              refine G_get (k := 4) dX4_gatherClusters_79 cThings rfl wfl_X4_33 (by decide) rfl ?_
              refine G_iload_n dX4_gatherClusters_82 rfl ?_
              refine G_cVi (As := [_]) dX4_gatherClusters_83 kV_X3_at wml_X4_44 (sp_X3_at rClus) rfl (cRow rClus) rfl rfl rfl (by decide) ⟨Nat.le_refl 0, Nat.le_refl 0⟩ (Nat.le_of_ble_eq_true rfl) ?_
              refine G_aload_n dX4_gatherClusters_86 rfl ?_
              refine G_get (k := 4) dX4_gatherClusters_87 cThings rfl wfl_X4_33 (by decide) rfl ?_
              refine G_iload dX4_gatherClusters_90 rfl ?_
              refine G_cVi (As := [_]) dX4_gatherClusters_92 kV_X3_at wml_X4_44 (sp_X3_at rClus) rfl (cRow rClus) rfl rfl rfl (by decide) ⟨Nat.le_refl 0, Nat.le_refl 0⟩ (Nat.le_of_ble_eq_true rfl) ?_
              refine G_cVv (As := [_, _]) dX4_gatherClusters_95 kV_X4_joinClusters wml_X4_67 (sp_X4_joinClusters (S := setR S 18 (gIn S c layer far g t i)) hc h80) rfl cThings rfl rfl rfl (by decide) ⟨Nat.le_refl 0, Nat.le_refl 0⟩ (Nat.le_of_ble_eq_true rfl) ?_
              refine GS_iinc (v := 1) (L' := [(4, _), (5, _), (3, _), (0, _), (1, _), (2, _)]) dX4_gatherClusters_98 rfl (by decide) (by decide) rfl ?_
              refine G_goto (tgt := 22) dX4_gatherClusters_101 (by decide) ?_
              refine G_sub [0, 2, 3, 4, 5] rfl ?_
              first
                | exact absurd c_56 (by decide)
                | exact absurd rfl c_56
                | (have e : nr S layer far t i = false := pand_f1 (pand_f1 (isin_f (S := S) ht8 c_34)); rw [nI_1 i]; rw [gIn_f e] at q; exact q)
                | (have e : nr S layer far t i = false := pand_f1 (pand_f2 (isin_f (S := S) hi8 c_44)); rw [nI_1 i]; rw [gIn_f e] at q; exact q)
                | (have e : nr S layer far t i = false := pand_f2 (le_f c_74); rw [nI_1 i]; rw [gIn_f e] at q; exact q)
                | (have e : nr S layer far t i = true := pand_t (pand_t (isin_t (S := S) ht8 c_34) (isin_t (S := S) hi8 c_44)) (le_t c_74); rw [nI_1 i]; rw [gIn_t e] at q; rw [setR_twice, rat_nI ht8 (by decide), rat_nI hi8 (by decide)]; exact q)
set_option maxHeartbeats 100000 in
theorem lp_X4_gOut (hc : S.2.1 1 5 = nI c) (h80 : c ≤ 80) {layer far : Int32} : ∀ m t, t + m = c → G K MX4_gatherClusters 12 0 0 0 0 2 [(3, .int (nI t)), (0, .ref 1), (1, .int layer), (2, .int far)] [] (hp ly (setR S 18 (gOut S c layer far (S.1 18) t))) (QcP K (fun v u => v = none ∧ u = hp ly (setR S 18 (gOut S c layer far (S.1 18) c)))) (XcP K noX) := by
  intro m
  induction m with
  | zero =>
    intro t ht
    obtain rfl : t = c := by omega
    refine G_iload_n dX4_gatherClusters_2 rfl ?_
    refine G_aload_n dX4_gatherClusters_3 rfl ?_
    refine G_get (k := 5) dX4_gatherClusters_4 cThings rfl wfl_X4_36 (by decide) rfl ?_
    rw [show (setR S 18 (gOut S t layer far (S.1 18) t)).2.1 1 5 = nI t from hc]
    refine G_icmp_ge (tgt := 110) dX4_gatherClusters_7 (by decide) (fun c_7 => ?_) (fun c_7 => ?_)
    · exact G_vret dX4_gatherClusters_110 rfl ⟨Nat.le_refl 0, Nat.le_refl 0⟩ ⟨rfl, rfl⟩
    · exact absurd (nI_le (Nat.le_refl _) (by omega)) c_7
  | succ m ih =>
    intro t ht
    have ht8 : t < 80 := by omega
    have q := ih (t + 1) (by omega)
    refine G_iload_n dX4_gatherClusters_2 rfl ?_
    refine G_aload_n dX4_gatherClusters_3 rfl ?_
    refine G_get (k := 5) dX4_gatherClusters_4 cThings rfl wfl_X4_36 (by decide) rfl ?_
    rw [show (setR S 18 (gOut S c layer far (S.1 18) t)).2.1 1 5 = nI c from hc]
    refine G_icmp_ge (tgt := 110) dX4_gatherClusters_7 (by decide) (fun c_7 => ?_) (fun c_7 => ?_)
    · exact absurd c_7 (nI_ge (show t < c by omega) (by omega))
    · refine G_aload_n dX4_gatherClusters_10 rfl ?_
      refine G_get (k := 4) dX4_gatherClusters_11 cThings rfl wfl_X4_33 (by decide) rfl ?_
      refine G_iload_n dX4_gatherClusters_14 rfl ?_
      refine G_iload_n dX4_gatherClusters_15 rfl ?_
      refine G_cVv (As := [_, _]) dX4_gatherClusters_16 kV_X3_put wml_X4_40 (sp_X3_put rClus) rfl (cRow rClus) rfl rfl rfl (by decide) ⟨Nat.le_refl 0, Nat.le_refl 0⟩ (Nat.le_of_ble_eq_true rfl) ?_
      refine G_iconst (v := 0) dX4_gatherClusters_19 (by decide) ?_
      refine GS_istore (L' := [(4, _), (3, _), (0, _), (1, _), (2, _)]) dX4_gatherClusters_20 (by decide) rfl ?_
      refine G_sub [0, 1, 2, 3, 4] rfl ?_
      rw [setR_twice, rput_nI ht8 (by decide)]
      have z := lp_X4_gIn (K := K) (ly := ly) (S := S) hc h80 (layer := layer) (far := far) (g := upd (gOut S c layer far (S.1 18) t) t (nI t)) (show t < c by omega) (Qc := QcP K (fun v u => v = none ∧ u = hp ly (setR S 18 (gOut S c layer far (S.1 18) c)))) (XC := XcP K noX) (by
        refine GS_iinc (v := 1) (L' := [(3, _), (0, _), (1, _), (2, _)]) dX4_gatherClusters_104 rfl (by decide) (by decide) rfl ?_
        refine G_goto (tgt := 2) dX4_gatherClusters_107 (by decide) ?_
        refine G_sub [0, 1, 2, 3] rfl ?_
        rw [nI_1 t]
        exact q) t 0 (by omega)
      exact z
set_option maxHeartbeats 100000 in
theorem sp_X4_gatherClusters (hc : S.2.1 1 5 = nI c) (h80 : c ≤ 80) {layer far : Int32} : Sp K MX4_gatherClusters 12 0 0 [.ref 1, .int layer, .int far] (hp ly S) (fun v u => v = none ∧ u = hp ly (setR S 18 (gOut S c layer far (S.1 18) c))) noX := by
  refine Sp_of (by decide) (Nat.le_of_ble_eq_true rfl) ?_
  refine G_iconst (v := 0) dX4_gatherClusters_0 (by decide) ?_
  refine GS_istore_n (L' := [(3, _), (0, _), (1, _), (2, _)]) dX4_gatherClusters_1 (by decide) rfl ?_
  refine G_sub [0, 1, 2, 3] rfl ?_
  have q := lp_X4_gOut (K := K) (ly := ly) hc h80 (layer := layer) (far := far) c 0 (by omega)
  rw [gOut, setR_self] at q
  exact q
set_option maxHeartbeats 100000 in
theorem lp_X4_countClusters (hc : S.2.1 1 5 = nI c) (h80 : c ≤ 80) {layer : Int32} : ∀ m j, j + m = c → G K MX4_countClusters 8 0 0 0 0 4 [(3, .int (nI j)), (2, .int (nI (cnt (rootP S layer (S.1 18)) j))), (0, .ref 1), (1, .int layer)] [] (hp ly S) (QcP K (fun v u => v = some (.int (nI (cnt (rootP S layer (S.1 18)) c))) ∧ u = hp ly S)) (XcP K noX) := by
  intro m
  induction m with
  | zero =>
    intro j hj
    obtain rfl : j = c := by omega
    refine G_iload_n dX4_countClusters_4 rfl ?_
    refine G_aload_n dX4_countClusters_5 rfl ?_
    refine G_get (k := 5) dX4_countClusters_6 cThings rfl wfl_X4_36 (by decide) rfl ?_
    rw [hc]
    refine G_icmp_ge (tgt := 42) dX4_countClusters_9 (by decide) (fun c_9 => ?_) (fun c_9 => ?_)
    · refine G_iload_n dX4_countClusters_42 rfl ?_
      exact G_iret dX4_countClusters_43 rfl rfl ⟨Nat.le_refl 0, Nat.le_refl 0⟩ ⟨rfl, rfl⟩
    · exact absurd (nI_le (Nat.le_refl _) (by omega)) c_9
  | succ m ih =>
    intro j hj
    have hj8 : j < 80 := by omega
    have q := ih (j + 1) (by omega)
    refine G_iload_n dX4_countClusters_4 rfl ?_
    refine G_aload_n dX4_countClusters_5 rfl ?_
    refine G_get (k := 5) dX4_countClusters_6 cThings rfl wfl_X4_36 (by decide) rfl ?_
    rw [hc]
    refine G_icmp_ge (tgt := 42) dX4_countClusters_9 (by decide) (fun c_9 => ?_) (fun c_9 => ?_)
    · exact absurd c_9 (nI_ge (show j < c by omega) (by omega))
    · refine G_aload_n dX4_countClusters_12 rfl ?_
      refine G_iload_n dX4_countClusters_13 rfl ?_
      refine G_iload_n dX4_countClusters_14 rfl ?_
      refine G_cVi (As := [_, _]) dX4_countClusters_15 kV_X4_isIn wml_X4_48 sp_X4_isIn rfl cThings rfl rfl rfl (by decide) ⟨Nat.le_refl 0, Nat.le_refl 0⟩ (Nat.le_of_ble_eq_true rfl) ?_
      refine G_if_eq (tgt := 36) dX4_countClusters_18 (by decide) (fun c_18 => ?_) (fun c_18 => ?_)
      · refine GS_iinc (v := 1) (L' := [(3, _), (2, _), (0, _), (1, _)]) dX4_countClusters_36 rfl (by decide) (by decide) rfl ?_
        refine G_goto (tgt := 4) dX4_countClusters_39 (by decide) ?_
        refine G_sub [0, 1, 2, 3] rfl ?_
        rw [nI_1 j]
        first
          | (have e : rootP S layer (S.1 18) j = false := pand_f1 (isin_f hj8 c_18); rw [cnt_f e] at q; exact q)
          | (rw [rat_nI hj8 (by decide)] at c_30; have e : rootP S layer (S.1 18) j = false := pand_f2 (decide_eq_false c_30); rw [cnt_f e] at q; exact q)
          | (rw [rat_nI hj8 (by decide)] at c_30; have e : rootP S layer (S.1 18) j = true := pand_t (isin_t hj8 c_18) (decide_eq_true c_30); rw [cnt_t e] at q; rw [nI_1]; exact q)
      · refine G_aload_n dX4_countClusters_21 rfl ?_
        refine G_get (k := 4) dX4_countClusters_22 cThings rfl wfl_X4_33 (by decide) rfl ?_
        refine G_iload_n dX4_countClusters_25 rfl ?_
        refine G_cVi (As := [_]) dX4_countClusters_26 kV_X3_at wml_X4_44 (sp_X3_at rClus) rfl (cRow rClus) rfl rfl rfl (by decide) ⟨Nat.le_refl 0, Nat.le_refl 0⟩ (Nat.le_of_ble_eq_true rfl) ?_
        refine G_iload_n dX4_countClusters_29 rfl ?_
        refine G_icmp_ne (tgt := 36) dX4_countClusters_30 (by decide) (fun c_30 => ?_) (fun c_30 => ?_)
        · refine GS_iinc (v := 1) (L' := [(3, _), (2, _), (0, _), (1, _)]) dX4_countClusters_36 rfl (by decide) (by decide) rfl ?_
          refine G_goto (tgt := 4) dX4_countClusters_39 (by decide) ?_
          refine G_sub [0, 1, 2, 3] rfl ?_
          rw [nI_1 j]
          first
            | (have e : rootP S layer (S.1 18) j = false := pand_f1 (isin_f hj8 c_18); rw [cnt_f e] at q; exact q)
            | (rw [rat_nI hj8 (by decide)] at c_30; have e : rootP S layer (S.1 18) j = false := pand_f2 (decide_eq_false c_30); rw [cnt_f e] at q; exact q)
            | (rw [rat_nI hj8 (by decide)] at c_30; have e : rootP S layer (S.1 18) j = true := pand_t (isin_t hj8 c_18) (decide_eq_true c_30); rw [cnt_t e] at q; rw [nI_1]; exact q)
        · refine GS_iinc (v := 1) (L' := [(2, _), (3, _), (0, _), (1, _)]) dX4_countClusters_33 rfl (by decide) (by decide) rfl ?_
          refine GS_iinc (v := 1) (L' := [(3, _), (2, _), (0, _), (1, _)]) dX4_countClusters_36 rfl (by decide) (by decide) rfl ?_
          refine G_goto (tgt := 4) dX4_countClusters_39 (by decide) ?_
          refine G_sub [0, 1, 2, 3] rfl ?_
          rw [nI_1 j]
          first
            | (have e : rootP S layer (S.1 18) j = false := pand_f1 (isin_f hj8 c_18); rw [cnt_f e] at q; exact q)
            | (rw [rat_nI hj8 (by decide)] at c_30; have e : rootP S layer (S.1 18) j = false := pand_f2 (decide_eq_false c_30); rw [cnt_f e] at q; exact q)
            | (rw [rat_nI hj8 (by decide)] at c_30; have e : rootP S layer (S.1 18) j = true := pand_t (isin_t hj8 c_18) (decide_eq_true c_30); rw [cnt_t e] at q; rw [nI_1]; exact q)
set_option maxHeartbeats 100000 in
theorem sp_X4_countClusters (hc : S.2.1 1 5 = nI c) (h80 : c ≤ 80) {layer : Int32} : Sp K MX4_countClusters 8 0 0 [.ref 1, .int layer] (hp ly S) (fun v u => v = some (.int (nI (cnt (rootP S layer (S.1 18)) c))) ∧ u = hp ly S) noX := by
  refine Sp_of (by decide) (Nat.le_of_ble_eq_true rfl) ?_
  refine G_iconst (v := 0) dX4_countClusters_0 (by decide) ?_
  refine GS_istore_n (L' := [(2, _), (0, _), (1, _)]) dX4_countClusters_1 (by decide) rfl ?_
  refine G_iconst (v := 0) dX4_countClusters_2 (by decide) ?_
  refine GS_istore_n (L' := [(3, _), (2, _), (0, _), (1, _)]) dX4_countClusters_3 (by decide) rfl ?_
  refine G_sub [0, 1, 2, 3] rfl ?_
  exact lp_X4_countClusters hc h80 c 0 (by omega)
set_option maxHeartbeats 100000 in
theorem lp_X4_grtIn (hc : S.2.1 1 5 = nI c) (h80 : c ≤ 80) {layer : Int32} {z : Nat} (hz : z < c) {Qc : Array Value → State → Outcome → State → Prop} {XC : String → State → State → Prop} (kk : G K MX4_greatestCluster 8 0 0 0 0 4 [(3, .int (nI (z + 1))), (2, .int (grt S c layer (S.1 18) (z + 1))), (0, .ref 1), (1, .int layer)] [] (hp ly S) Qc XC) : ∀ m j, j + m = c → G K MX4_greatestCluster 8 0 0 0 0 18 [(5, .int (nI j)), (4, .int (nI (cnt (labP S layer (S.1 18) (nI z)) j))), (2, .int (grt S c layer (S.1 18) z)), (3, .int (nI z)), (0, .ref 1), (1, .int layer)] [] (hp ly S) Qc XC := by
  intro m
  induction m with
  | zero =>
    intro j hj
    obtain rfl : j = c := by omega
    refine G_iload dX4_greatestCluster_18 rfl ?_
    refine G_aload_n dX4_greatestCluster_20 rfl ?_
    refine G_get (k := 5) dX4_greatestCluster_21 cThings rfl wfl_X4_36 (by decide) rfl ?_
    rw [hc]
    refine G_icmp_ge (tgt := 59) dX4_greatestCluster_24 (by decide) (fun c_24 => ?_) (fun c_24 => ?_)
    · refine G_iload_n dX4_greatestCluster_59 rfl ?_
      refine G_iload dX4_greatestCluster_60 rfl ?_
      refine G_max dX4_greatestCluster_62 wml_X4_76 (by decide) ⟨Nat.le_refl 0, Nat.le_refl 0⟩ (Nat.le_of_ble_eq_true rfl) ?_
      refine GS_istore_n (L' := [(2, _), (5, _), (4, _), (3, _), (0, _), (1, _)]) dX4_greatestCluster_65 (by decide) rfl ?_
      refine GS_iinc (v := 1) (L' := [(3, _), (2, _), (5, _), (4, _), (0, _), (1, _)]) dX4_greatestCluster_66 rfl (by decide) (by decide) rfl ?_
      refine G_goto (tgt := 4) dX4_greatestCluster_69 (by decide) ?_
      refine G_sub [0, 1, 4, 5] rfl ?_
      rw [nI_1 z]
      exact kk
    · exact absurd (nI_le (Nat.le_refl _) (by omega)) c_24
  | succ m ih =>
    intro j hj
    have hj8 : j < 80 := by omega
    have q := ih (j + 1) (by omega)
    refine G_iload dX4_greatestCluster_18 rfl ?_
    refine G_aload_n dX4_greatestCluster_20 rfl ?_
    refine G_get (k := 5) dX4_greatestCluster_21 cThings rfl wfl_X4_36 (by decide) rfl ?_
    rw [hc]
    refine G_icmp_ge (tgt := 59) dX4_greatestCluster_24 (by decide) (fun c_24 => ?_) (fun c_24 => ?_)
    · exact absurd c_24 (nI_ge (show j < c by omega) (by omega))
    · refine G_aload_n dX4_greatestCluster_27 rfl ?_
      refine G_iload dX4_greatestCluster_28 rfl ?_
      refine G_iload_n dX4_greatestCluster_30 rfl ?_
      refine G_cVi (As := [_, _]) dX4_greatestCluster_31 kV_X4_isIn wml_X4_48 sp_X4_isIn rfl cThings rfl rfl rfl (by decide) ⟨Nat.le_refl 0, Nat.le_refl 0⟩ (Nat.le_of_ble_eq_true rfl) ?_
      refine G_if_eq (tgt := 53) dX4_greatestCluster_34 (by decide) (fun c_34 => ?_) (fun c_34 => ?_)
      · refine GS_iinc (v := 1) (L' := [(5, _), (4, _), (2, _), (3, _), (0, _), (1, _)]) dX4_greatestCluster_53 rfl (by decide) (by decide) rfl ?_
        refine G_goto (tgt := 18) dX4_greatestCluster_56 (by decide) ?_
        refine G_sub [0, 1, 2, 3, 4, 5] rfl ?_
        rw [nI_1 j]
        first
          | (have e : labP S layer (S.1 18) (nI z) j = false := pand_f1 (isin_f hj8 c_34); rw [cnt_f e] at q; exact q)
          | (rw [rat_nI hj8 (by decide)] at c_47; have e : labP S layer (S.1 18) (nI z) j = false := pand_f2 (decide_eq_false c_47); rw [cnt_f e] at q; exact q)
          | (rw [rat_nI hj8 (by decide)] at c_47; have e : labP S layer (S.1 18) (nI z) j = true := pand_t (isin_t hj8 c_34) (decide_eq_true c_47); rw [cnt_t e] at q; rw [nI_1]; exact q)
      · refine G_aload_n dX4_greatestCluster_37 rfl ?_
        refine G_get (k := 4) dX4_greatestCluster_38 cThings rfl wfl_X4_33 (by decide) rfl ?_
        refine G_iload dX4_greatestCluster_41 rfl ?_
        refine G_cVi (As := [_]) dX4_greatestCluster_43 kV_X3_at wml_X4_44 (sp_X3_at rClus) rfl (cRow rClus) rfl rfl rfl (by decide) ⟨Nat.le_refl 0, Nat.le_refl 0⟩ (Nat.le_of_ble_eq_true rfl) ?_
        refine G_iload_n dX4_greatestCluster_46 rfl ?_
        refine G_icmp_ne (tgt := 53) dX4_greatestCluster_47 (by decide) (fun c_47 => ?_) (fun c_47 => ?_)
        · refine GS_iinc (v := 1) (L' := [(5, _), (4, _), (2, _), (3, _), (0, _), (1, _)]) dX4_greatestCluster_53 rfl (by decide) (by decide) rfl ?_
          refine G_goto (tgt := 18) dX4_greatestCluster_56 (by decide) ?_
          refine G_sub [0, 1, 2, 3, 4, 5] rfl ?_
          rw [nI_1 j]
          first
            | (have e : labP S layer (S.1 18) (nI z) j = false := pand_f1 (isin_f hj8 c_34); rw [cnt_f e] at q; exact q)
            | (rw [rat_nI hj8 (by decide)] at c_47; have e : labP S layer (S.1 18) (nI z) j = false := pand_f2 (decide_eq_false c_47); rw [cnt_f e] at q; exact q)
            | (rw [rat_nI hj8 (by decide)] at c_47; have e : labP S layer (S.1 18) (nI z) j = true := pand_t (isin_t hj8 c_34) (decide_eq_true c_47); rw [cnt_t e] at q; rw [nI_1]; exact q)
        · refine GS_iinc (v := 1) (L' := [(4, _), (5, _), (2, _), (3, _), (0, _), (1, _)]) dX4_greatestCluster_50 rfl (by decide) (by decide) rfl ?_
          refine GS_iinc (v := 1) (L' := [(5, _), (4, _), (2, _), (3, _), (0, _), (1, _)]) dX4_greatestCluster_53 rfl (by decide) (by decide) rfl ?_
          refine G_goto (tgt := 18) dX4_greatestCluster_56 (by decide) ?_
          refine G_sub [0, 1, 2, 3, 4, 5] rfl ?_
          rw [nI_1 j]
          first
            | (have e : labP S layer (S.1 18) (nI z) j = false := pand_f1 (isin_f hj8 c_34); rw [cnt_f e] at q; exact q)
            | (rw [rat_nI hj8 (by decide)] at c_47; have e : labP S layer (S.1 18) (nI z) j = false := pand_f2 (decide_eq_false c_47); rw [cnt_f e] at q; exact q)
            | (rw [rat_nI hj8 (by decide)] at c_47; have e : labP S layer (S.1 18) (nI z) j = true := pand_t (isin_t hj8 c_34) (decide_eq_true c_47); rw [cnt_t e] at q; rw [nI_1]; exact q)
set_option maxHeartbeats 100000 in
theorem lp_X4_greatest (hc : S.2.1 1 5 = nI c) (h80 : c ≤ 80) {layer : Int32} : ∀ m j, j + m = c → G K MX4_greatestCluster 8 0 0 0 0 4 [(3, .int (nI j)), (2, .int (grt S c layer (S.1 18) j)), (0, .ref 1), (1, .int layer)] [] (hp ly S) (QcP K (fun v u => v = some (.int (grt S c layer (S.1 18) c)) ∧ u = hp ly S)) (XcP K noX) := by
  intro m
  induction m with
  | zero =>
    intro j hj
    obtain rfl : j = c := by omega
    refine G_iload_n dX4_greatestCluster_4 rfl ?_
    refine G_aload_n dX4_greatestCluster_5 rfl ?_
    refine G_get (k := 5) dX4_greatestCluster_6 cThings rfl wfl_X4_36 (by decide) rfl ?_
    rw [hc]
    refine G_icmp_ge (tgt := 72) dX4_greatestCluster_9 (by decide) (fun c_9 => ?_) (fun c_9 => ?_)
    · refine G_iload_n dX4_greatestCluster_72 rfl ?_
      exact G_iret dX4_greatestCluster_73 rfl rfl ⟨Nat.le_refl 0, Nat.le_refl 0⟩ ⟨rfl, rfl⟩
    · exact absurd (nI_le (Nat.le_refl _) (by omega)) c_9
  | succ m ih =>
    intro j hj
    have q := ih (j + 1) (by omega)
    refine G_iload_n dX4_greatestCluster_4 rfl ?_
    refine G_aload_n dX4_greatestCluster_5 rfl ?_
    refine G_get (k := 5) dX4_greatestCluster_6 cThings rfl wfl_X4_36 (by decide) rfl ?_
    rw [hc]
    refine G_icmp_ge (tgt := 72) dX4_greatestCluster_9 (by decide) (fun c_9 => ?_) (fun c_9 => ?_)
    · exact absurd c_9 (nI_ge (show j < c by omega) (by omega))
    · refine G_iconst (v := 0) dX4_greatestCluster_12 (by decide) ?_
      refine GS_istore (L' := [(4, _), (3, _), (2, _), (0, _), (1, _)]) dX4_greatestCluster_13 (by decide) rfl ?_
      refine G_iconst (v := 0) dX4_greatestCluster_15 (by decide) ?_
      refine GS_istore (L' := [(5, _), (4, _), (3, _), (2, _), (0, _), (1, _)]) dX4_greatestCluster_16 (by decide) rfl ?_
      refine G_sub [0, 1, 3, 2, 4, 5] rfl ?_
      exact lp_X4_grtIn hc h80 (show j < c by omega) q c 0 (by omega)
set_option maxHeartbeats 100000 in
theorem sp_X4_greatestCluster (hc : S.2.1 1 5 = nI c) (h80 : c ≤ 80) {layer : Int32} : Sp K MX4_greatestCluster 8 0 0 [.ref 1, .int layer] (hp ly S) (fun v u => v = some (.int (grt S c layer (S.1 18) c)) ∧ u = hp ly S) noX := by
  refine Sp_of (by decide) (Nat.le_of_ble_eq_true rfl) ?_
  refine G_iconst (v := 0) dX4_greatestCluster_0 (by decide) ?_
  refine GS_istore_n (L' := [(2, _), (0, _), (1, _)]) dX4_greatestCluster_1 (by decide) rfl ?_
  refine G_iconst (v := 0) dX4_greatestCluster_2 (by decide) ?_
  refine GS_istore_n (L' := [(3, _), (2, _), (0, _), (1, _)]) dX4_greatestCluster_3 (by decide) rfl ?_
  refine G_sub [0, 1, 2, 3] rfl ?_
  exact lp_X4_greatest hc h80 c 0 (by omega)
end TH3
end
section
/-! a tree's rows, by where it lies -/
abbrev tN (S : St) (t : Nat) : Int32 := S.2.1 t 8
abbrev tR (S : St) (t : Nat) : Int32 := S.2.1 t 9
abbrev tLv (S : St) (t : Nat) : Nat → Int32 := S.1 (t + 11)
abbrev tHd (S : St) (t : Nat) : Nat → Int32 := S.1 (t + 13)
abbrev tFr (S : St) (t : Nat) : Nat → Int32 := S.1 (t + 15)
abbrev tCt (S : St) (t : Nat) : Nat → Int32 := S.1 (t + 17)
abbrev tBl (S : St) (t : Nat) : Nat → Int32 := S.1 (t + 19)
abbrev tHm (S : St) (t : Nat) : Nat → Int32 := S.1 (t + 21)
abbrev tKy (S : St) (t : Nat) : Nat → Int32 := S.1 (t + 23)
def leafI (S : St) (t : Nat) (i : Int32) : Int32 := if rat (tCt S t) 1205 i = 0 then 1 else 0
def belV (S : St) (t : Nat) (i j : Int32) : Int32 := rat (tBl S t) 1205 (rat (tFr S t) 1205 i + j)
def halfV (S : St) (t : Nat) (i : Int32) : Int32 := (bW S (t + 1) 1205 i + 1) / 2
def qtr (S : St) (t : Nat) (i x y : Int32) : Int32 := (if x < bX S (t + 1) 1205 i + halfV S t i then 0 else 1) + (if y < bY S (t + 1) 1205 i + halfV S t i then 0 else 2)
/-- down to the leaf, so many steps at the most -/
def dsc (S : St) (t : Nat) (x y : Int32) (f : Nat) (a : Int32) : Int32 := match f with
  | 0 => a
  | f + 1 => if leafI S t a = 0 then dsc S t x y f (belV S t a (qtr S t a x y)) else a
def levV (S : St) (t : Nat) : Int32 := if tN S t = 0 then 0 else rat (tLv S t) 1205 (tN S t - 1) + 1
def fellS (S : St) (t : Nat) : St := setR (setI (setI S t 8 0) t 9 0) (t + 21) (rfil (tHm S t) 80 (-1) 0)
def addNS (S : St) (t : Nat) (level : Int32) : St := setI (setR (setR (setR S (t + 11) (rput (tLv S t) 1205 (tN S t) level)) (t + 13) (rput (tHd S t) 1205 (tN S t) 0)) (t + 17) (rput (tCt S t) 1205 (tN S t) 0)) t 8 (tN S t + 1)
def settS (S : St) (t : Nat) (k a : Int32) : St := setR (setR S (t + 21) (rput (tHm S t) 80 k a)) (t + 13) (rput (tHd S t) 1205 a (tHd S t a.toNatClampNeg + 1))
section TR
variable {K : GK} {ly : Nat} {S : St} {t N : Nat}
set_option maxHeartbeats 200000 in
theorem sp_X5_isLeaf (ht : isTree ly t) {i : Int32} : Sp K MX5_isLeaf 6 0 0 [.ref t, .int i] (hp ly S) (fun v u => v = some (.int (leafI S t i)) ∧ u = hp ly S) noX := by
  refine Sp_of (by decide) (Nat.le_of_ble_eq_true rfl) ?_
  refine G_aload_n dX5_isLeaf_0 rfl ?_
  refine G_get (k := 4) dX5_isLeaf_1 (cTree ht) rfl wfl_X5_33 (by decide) rfl ?_
  refine G_iload_n dX5_isLeaf_4 rfl ?_
  refine G_cVi (As := [_]) dX5_isLeaf_5 kV_X3_at wml_X5_48 (sp_X3_at (tCount ht)) rfl (cRow (tCount ht)) rfl rfl rfl (by decide) ⟨Nat.le_refl 0, Nat.le_refl 0⟩ (Nat.le_of_ble_eq_true rfl) ?_
  refine G_if_ne (tgt := 15) dX5_isLeaf_8 (by decide) (fun c_8 => ?_) (fun c_8 => ?_)
  · refine G_iconst (v := 0) dX5_isLeaf_15 (by decide) ?_
    exact G_iret dX5_isLeaf_16 rfl rfl ⟨Nat.le_refl 0, Nat.le_refl 0⟩ ⟨by unfold leafI; first | rw [if_pos c_8] | rw [if_neg c_8], rfl⟩
  · refine G_iconst (v := 1) dX5_isLeaf_11 (by decide) ?_
    refine G_goto (tgt := 16) dX5_isLeaf_12 (by decide) ?_
    exact G_iret dX5_isLeaf_16 rfl rfl ⟨Nat.le_refl 0, Nat.le_refl 0⟩ ⟨by unfold leafI; first | rw [if_pos c_8] | rw [if_neg c_8], rfl⟩
set_option maxHeartbeats 200000 in
theorem sp_X5_belowAt (ht : isTree ly t) {i j : Int32} : Sp K MX5_belowAt 6 0 0 [.ref t, .int i, .int j] (hp ly S) (fun v u => v = some (.int (belV S t i j)) ∧ u = hp ly S) noX := by
  refine Sp_of (by decide) (Nat.le_of_ble_eq_true rfl) ?_
  refine G_aload_n dX5_belowAt_0 rfl ?_
  refine G_get (k := 5) dX5_belowAt_1 (cTree ht) rfl wfl_X5_36 (by decide) rfl ?_
  refine G_aload_n dX5_belowAt_4 rfl ?_
  refine G_get (k := 3) dX5_belowAt_5 (cTree ht) rfl wfl_X5_30 (by decide) rfl ?_
  refine G_iload_n dX5_belowAt_8 rfl ?_
  refine G_cVi (As := [_]) dX5_belowAt_9 kV_X3_at wml_X5_48 (sp_X3_at (tFrom ht)) rfl (cRow (tFrom ht)) rfl rfl rfl (by decide) ⟨Nat.le_refl 0, Nat.le_refl 0⟩ (Nat.le_of_ble_eq_true rfl) ?_
  refine G_iload_n dX5_belowAt_12 rfl ?_
  refine G_iadd dX5_belowAt_13 ?_
  refine G_cVi (As := [_]) dX5_belowAt_14 kV_X3_at wml_X5_48 (sp_X3_at (tBelow ht)) rfl (cRow (tBelow ht)) rfl rfl rfl (by decide) ⟨Nat.le_refl 0, Nat.le_refl 0⟩ (Nat.le_of_ble_eq_true rfl) ?_
  exact G_iret dX5_belowAt_17 rfl rfl ⟨Nat.le_refl 0, Nat.le_refl 0⟩ ⟨rfl, rfl⟩
set_option maxHeartbeats 200000 in
theorem sp_X5_halfSide (ht : isTree ly t) {i : Int32} : Sp K MX5_halfSide 6 0 0 [.ref t, .int i] (hp ly S) (fun v u => v = some (.int (halfV S t i)) ∧ u = hp ly S) noX := by
  refine Sp_of (by decide) (Nat.le_of_ble_eq_true rfl) ?_
  refine G_aload_n dX5_halfSide_0 rfl ?_
  refine G_get (k := 0) dX5_halfSide_1 (cTree ht) rfl wfl_X5_14 (by decide) rfl ?_
  refine G_getN (k := 2) dX5_halfSide_4 (cBox (bTree ht)) rfl wfn_X5_84 (by decide) rfl ?_
  refine G_iload_n dX5_halfSide_7 rfl ?_
  refine G_cVi (As := [_]) dX5_halfSide_8 kV_X3_at wml_X5_48 (sp_X3_at (bTree ht).2.2.2.2.2.1) rfl (cRow (bTree ht).2.2.2.2.2.1) rfl rfl rfl (by decide) ⟨Nat.le_refl 0, Nat.le_refl 0⟩ (Nat.le_of_ble_eq_true rfl) ?_
  refine G_iconst (v := 1) dX5_halfSide_11 (by decide) ?_
  refine G_iadd dX5_halfSide_12 ?_
  refine G_iconst (v := 2) dX5_halfSide_13 (by decide) ?_
  refine G_idiv dX5_halfSide_14 (by decide) ?_
  exact G_iret dX5_halfSide_15 rfl rfl ⟨Nat.le_refl 0, Nat.le_refl 0⟩ ⟨rfl, rfl⟩
set_option maxHeartbeats 200000 in
theorem sp_X5_quarterOf (ht : isTree ly t) {i x y : Int32} : Sp K MX5_quarterOf 8 0 0 [.ref t, .int i, .int x, .int y] (hp ly S) (fun v u => v = some (.int (qtr S t i x y)) ∧ u = hp ly S) noX := by
  refine Sp_of (by decide) (Nat.le_of_ble_eq_true rfl) ?_
  refine G_aload_n dX5_quarterOf_0 rfl ?_
  refine G_iload_n dX5_quarterOf_1 rfl ?_
  refine G_cVi (As := [_]) dX5_quarterOf_2 kV_X5_halfSide wml_X5_75 (sp_X5_halfSide ht) rfl (cTree ht) rfl rfl rfl (by decide) ⟨Nat.le_refl 0, Nat.le_refl 0⟩ (Nat.le_of_ble_eq_true rfl) ?_
  refine GS_istore (L' := [(4, _), (0, _), (1, _), (2, _), (3, _)]) dX5_quarterOf_5 (by decide) rfl ?_
  refine G_iload_n dX5_quarterOf_7 rfl ?_
  refine G_aload_n dX5_quarterOf_8 rfl ?_
  refine G_get (k := 0) dX5_quarterOf_9 (cTree ht) rfl wfl_X5_14 (by decide) rfl ?_
  refine G_getN (k := 0) dX5_quarterOf_12 (cBox (bTree ht)) rfl wfn_X5_78 (by decide) rfl ?_
  refine G_iload_n dX5_quarterOf_15 rfl ?_
  refine G_cVi (As := [_]) dX5_quarterOf_16 kV_X3_at wml_X5_48 (sp_X3_at (bTree ht).2.2.2.1) rfl (cRow (bTree ht).2.2.2.1) rfl rfl rfl (by decide) ⟨Nat.le_refl 0, Nat.le_refl 0⟩ (Nat.le_of_ble_eq_true rfl) ?_
  refine G_iload dX5_quarterOf_19 rfl ?_
  refine G_iadd dX5_quarterOf_21 ?_
  refine G_icmp_lt (tgt := 29) dX5_quarterOf_22 (by decide) (fun c_22 => ?_) (fun c_22 => ?_)
  · refine G_iconst (v := 0) dX5_quarterOf_29 (by decide) ?_
    refine GS_istore (L' := [(5, _), (4, _), (0, _), (1, _), (2, _), (3, _)]) dX5_quarterOf_30 (by decide) rfl ?_
    refine G_iload_n dX5_quarterOf_32 rfl ?_
    refine G_aload_n dX5_quarterOf_33 rfl ?_
    refine G_get (k := 0) dX5_quarterOf_34 (cTree ht) rfl wfl_X5_14 (by decide) rfl ?_
    refine G_getN (k := 1) dX5_quarterOf_37 (cBox (bTree ht)) rfl wfn_X5_81 (by decide) rfl ?_
    refine G_iload_n dX5_quarterOf_40 rfl ?_
    refine G_cVi (As := [_]) dX5_quarterOf_41 kV_X3_at wml_X5_48 (sp_X3_at (bTree ht).2.2.2.2.1) rfl (cRow (bTree ht).2.2.2.2.1) rfl rfl rfl (by decide) ⟨Nat.le_refl 0, Nat.le_refl 0⟩ (Nat.le_of_ble_eq_true rfl) ?_
    refine G_iload dX5_quarterOf_44 rfl ?_
    refine G_iadd dX5_quarterOf_46 ?_
    refine G_icmp_lt (tgt := 54) dX5_quarterOf_47 (by decide) (fun c_47 => ?_) (fun c_47 => ?_)
    · refine G_iconst (v := 0) dX5_quarterOf_54 (by decide) ?_
      refine GS_istore (L' := [(6, _), (5, _), (4, _), (0, _), (1, _), (2, _), (3, _)]) dX5_quarterOf_55 (by decide) rfl ?_
      refine G_iload dX5_quarterOf_57 rfl ?_
      refine G_iload dX5_quarterOf_59 rfl ?_
      refine G_iadd dX5_quarterOf_61 ?_
      exact G_iret dX5_quarterOf_62 rfl rfl ⟨Nat.le_refl 0, Nat.le_refl 0⟩ ⟨by unfold qtr; first | (rw [if_pos c_22, if_pos c_47]) | (rw [if_pos c_22, if_neg c_47]) | (rw [if_neg c_22, if_pos c_47]) | (rw [if_neg c_22, if_neg c_47]), rfl⟩
    · refine G_iconst (v := 2) dX5_quarterOf_50 (by decide) ?_
      refine G_goto (tgt := 55) dX5_quarterOf_51 (by decide) ?_
      refine GS_istore (L' := [(6, _), (5, _), (4, _), (0, _), (1, _), (2, _), (3, _)]) dX5_quarterOf_55 (by decide) rfl ?_
      refine G_iload dX5_quarterOf_57 rfl ?_
      refine G_iload dX5_quarterOf_59 rfl ?_
      refine G_iadd dX5_quarterOf_61 ?_
      exact G_iret dX5_quarterOf_62 rfl rfl ⟨Nat.le_refl 0, Nat.le_refl 0⟩ ⟨by unfold qtr; first | (rw [if_pos c_22, if_pos c_47]) | (rw [if_pos c_22, if_neg c_47]) | (rw [if_neg c_22, if_pos c_47]) | (rw [if_neg c_22, if_neg c_47]), rfl⟩
  · refine G_iconst (v := 1) dX5_quarterOf_25 (by decide) ?_
    refine G_goto (tgt := 30) dX5_quarterOf_26 (by decide) ?_
    refine GS_istore (L' := [(5, _), (4, _), (0, _), (1, _), (2, _), (3, _)]) dX5_quarterOf_30 (by decide) rfl ?_
    refine G_iload_n dX5_quarterOf_32 rfl ?_
    refine G_aload_n dX5_quarterOf_33 rfl ?_
    refine G_get (k := 0) dX5_quarterOf_34 (cTree ht) rfl wfl_X5_14 (by decide) rfl ?_
    refine G_getN (k := 1) dX5_quarterOf_37 (cBox (bTree ht)) rfl wfn_X5_81 (by decide) rfl ?_
    refine G_iload_n dX5_quarterOf_40 rfl ?_
    refine G_cVi (As := [_]) dX5_quarterOf_41 kV_X3_at wml_X5_48 (sp_X3_at (bTree ht).2.2.2.2.1) rfl (cRow (bTree ht).2.2.2.2.1) rfl rfl rfl (by decide) ⟨Nat.le_refl 0, Nat.le_refl 0⟩ (Nat.le_of_ble_eq_true rfl) ?_
    refine G_iload dX5_quarterOf_44 rfl ?_
    refine G_iadd dX5_quarterOf_46 ?_
    refine G_icmp_lt (tgt := 54) dX5_quarterOf_47 (by decide) (fun c_47 => ?_) (fun c_47 => ?_)
    · refine G_iconst (v := 0) dX5_quarterOf_54 (by decide) ?_
      refine GS_istore (L' := [(6, _), (5, _), (4, _), (0, _), (1, _), (2, _), (3, _)]) dX5_quarterOf_55 (by decide) rfl ?_
      refine G_iload dX5_quarterOf_57 rfl ?_
      refine G_iload dX5_quarterOf_59 rfl ?_
      refine G_iadd dX5_quarterOf_61 ?_
      exact G_iret dX5_quarterOf_62 rfl rfl ⟨Nat.le_refl 0, Nat.le_refl 0⟩ ⟨by unfold qtr; first | (rw [if_pos c_22, if_pos c_47]) | (rw [if_pos c_22, if_neg c_47]) | (rw [if_neg c_22, if_pos c_47]) | (rw [if_neg c_22, if_neg c_47]), rfl⟩
    · refine G_iconst (v := 2) dX5_quarterOf_50 (by decide) ?_
      refine G_goto (tgt := 55) dX5_quarterOf_51 (by decide) ?_
      refine GS_istore (L' := [(6, _), (5, _), (4, _), (0, _), (1, _), (2, _), (3, _)]) dX5_quarterOf_55 (by decide) rfl ?_
      refine G_iload dX5_quarterOf_57 rfl ?_
      refine G_iload dX5_quarterOf_59 rfl ?_
      refine G_iadd dX5_quarterOf_61 ?_
      exact G_iret dX5_quarterOf_62 rfl rfl ⟨Nat.le_refl 0, Nat.le_refl 0⟩ ⟨by unfold qtr; first | (rw [if_pos c_22, if_pos c_47]) | (rw [if_pos c_22, if_neg c_47]) | (rw [if_neg c_22, if_pos c_47]) | (rw [if_neg c_22, if_neg c_47]), rfl⟩
set_option maxHeartbeats 200000 in
theorem sp_X5_countLevels (ht : isTree ly t) : Sp K MX5_countLevels 6 0 0 [.ref t] (hp ly S) (fun v u => v = some (.int (levV S t)) ∧ u = hp ly S) noX := by
  refine Sp_of (by decide) (Nat.le_of_ble_eq_true rfl) ?_
  refine G_aload_n dX5_countLevels_0 rfl ?_
  refine G_get (k := 8) dX5_countLevels_1 (cTree ht) rfl wfl_X5_52 (by decide) rfl ?_
  refine G_if_ne (tgt := 11) dX5_countLevels_4 (by decide) (fun c_4 => ?_) (fun c_4 => ?_)
  · refine G_aload_n dX5_countLevels_11 rfl ?_
    refine G_get (k := 1) dX5_countLevels_12 (cTree ht) rfl wfl_X5_23 (by decide) rfl ?_
    refine G_aload_n dX5_countLevels_15 rfl ?_
    refine G_get (k := 8) dX5_countLevels_16 (cTree ht) rfl wfl_X5_52 (by decide) rfl ?_
    refine G_iconst (v := 1) dX5_countLevels_19 (by decide) ?_
    refine G_isub dX5_countLevels_20 ?_
    refine G_cVi (As := [_]) dX5_countLevels_21 kV_X3_at wml_X5_48 (sp_X3_at (tLevel ht)) rfl (cRow (tLevel ht)) rfl rfl rfl (by decide) ⟨Nat.le_refl 0, Nat.le_refl 0⟩ (Nat.le_of_ble_eq_true rfl) ?_
    refine G_iconst (v := 1) dX5_countLevels_24 (by decide) ?_
    refine G_iadd dX5_countLevels_25 ?_
    exact G_iret dX5_countLevels_26 rfl rfl ⟨Nat.le_refl 0, Nat.le_refl 0⟩ ⟨by unfold levV; first | rw [if_pos c_4] | rw [if_neg c_4], rfl⟩
  · refine G_iconst (v := 0) dX5_countLevels_7 (by decide) ?_
    refine G_goto (tgt := 26) dX5_countLevels_8 (by decide) ?_
    exact G_iret dX5_countLevels_26 rfl rfl ⟨Nat.le_refl 0, Nat.le_refl 0⟩ ⟨by unfold levV; first | rw [if_pos c_4] | rw [if_neg c_4], rfl⟩
set_option maxHeartbeats 200000 in
theorem lp_X5_leafAt (ht : isTree ly t) {x y : Int32} {P : Option Value → VH → Prop} : ∀ f j a, j + f = 11 → P (some (.int (dsc S t x y f a))) (hp ly S) → G K MX5_leafAt 12 0 0 0 0 8 [(4, .int (nI j)), (3, .int a), (0, .ref t), (1, .int x), (2, .int y)] [] (hp ly S) (QcP K P) (XcP K noX) := by
  intro f
  induction f with
  | zero =>
    intro j a hj q
    obtain rfl : j = 11 := by omega
    refine G_iload dX5_leafAt_8 rfl ?_
    refine G_bipush (v := 11) dX5_leafAt_10 (by decide) ?_
    refine G_icmp_ge (tgt := 42) dX5_leafAt_12 (by decide) (fun c_12 => ?_) (fun c_12 => ?_)
    · refine G_iload_n dX5_leafAt_42 rfl ?_
      exact G_iret dX5_leafAt_43 rfl rfl ⟨Nat.le_refl 0, Nat.le_refl 0⟩ q
    · exact absurd (by decide) c_12
  | succ f ih =>
    intro j a hj q
    rw [dsc] at q
    refine G_iload dX5_leafAt_8 rfl ?_
    refine G_bipush (v := 11) dX5_leafAt_10 (by decide) ?_
    refine G_icmp_ge (tgt := 42) dX5_leafAt_12 (by decide) (fun c_12 => ?_) (fun c_12 => ?_)
    · exact absurd c_12 (nI_ge (show j < 11 by omega) (by decide))
    · refine G_aload_n dX5_leafAt_15 rfl ?_
      refine G_iload_n dX5_leafAt_16 rfl ?_
      refine G_cVi (As := [_]) dX5_leafAt_17 kV_X5_isLeaf wml_X5_63 (sp_X5_isLeaf ht) rfl (cTree ht) rfl rfl rfl (by decide) ⟨Nat.le_refl 0, Nat.le_refl 0⟩ (Nat.le_of_ble_eq_true rfl) ?_
      refine G_if_ne (tgt := 42) dX5_leafAt_20 (by decide) (fun c_20 => ?_) (fun c_20 => ?_)
      · refine G_iload_n dX5_leafAt_42 rfl ?_
        exact G_iret dX5_leafAt_43 rfl rfl ⟨Nat.le_refl 0, Nat.le_refl 0⟩ (by rw [if_neg c_20] at q; exact q)
      · refine G_aload_n dX5_leafAt_23 rfl ?_
        refine G_iload_n dX5_leafAt_24 rfl ?_
        refine G_aload_n dX5_leafAt_25 rfl ?_
        refine G_iload_n dX5_leafAt_26 rfl ?_
        refine G_iload_n dX5_leafAt_27 rfl ?_
        refine G_iload_n dX5_leafAt_28 rfl ?_
        refine G_cVi (As := [_, _, _]) dX5_leafAt_29 kV_X5_quarterOf wml_X5_67 (sp_X5_quarterOf ht) rfl (cTree ht) rfl rfl rfl (by decide) ⟨Nat.le_refl 0, Nat.le_refl 0⟩ (Nat.le_of_ble_eq_true rfl) ?_
        refine G_cVi (As := [_, _]) dX5_leafAt_32 kV_X5_belowAt wml_X5_71 (sp_X5_belowAt ht) rfl (cTree ht) rfl rfl rfl (by decide) ⟨Nat.le_refl 0, Nat.le_refl 0⟩ (Nat.le_of_ble_eq_true rfl) ?_
        refine GS_istore_n (L' := [(3, _), (4, _), (0, _), (1, _), (2, _)]) dX5_leafAt_35 (by decide) rfl ?_
        refine GS_iinc (v := 1) (L' := [(4, _), (3, _), (0, _), (1, _), (2, _)]) dX5_leafAt_36 rfl (by decide) (by decide) rfl ?_
        refine G_goto (tgt := 8) dX5_leafAt_39 (by decide) ?_
        refine G_sub [0, 1, 2, 3, 4] rfl ?_
        rw [if_pos c_20] at q
        rw [nI_1 j]
        exact ih (j + 1) _ (by omega) q
set_option maxHeartbeats 200000 in
theorem sp_X5_leafAt (ht : isTree ly t) {x y : Int32} : Sp K MX5_leafAt 12 0 0 [.ref t, .int x, .int y] (hp ly S) (fun v u => v = some (.int (dsc S t x y 11 (tR S t))) ∧ u = hp ly S) noX := by
  refine Sp_of (by decide) (Nat.le_of_ble_eq_true rfl) ?_
  refine G_aload_n dX5_leafAt_0 rfl ?_
  refine G_get (k := 9) dX5_leafAt_1 (cTree ht) rfl wfl_X5_60 (by decide) rfl ?_
  refine GS_istore_n (L' := [(3, _), (0, _), (1, _), (2, _)]) dX5_leafAt_4 (by decide) rfl ?_
  refine G_iconst (v := 0) dX5_leafAt_5 (by decide) ?_
  refine GS_istore (L' := [(4, _), (3, _), (0, _), (1, _), (2, _)]) dX5_leafAt_6 (by decide) rfl ?_
  refine G_sub [0, 1, 2, 3, 4] rfl ?_
  exact lp_X5_leafAt ht 11 0 _ rfl ⟨rfl, rfl⟩
def onLv (S : St) (t : Nat) (level : Int32) (k : Nat) : Bool := decide (tLv S t k = level)
def visP (S : St) (t : Nat) (x y w h far : Int32) (k : Nat) : Bool := decide (bfar S (t + 1) 1205 (nI k) x y w h ≤ far)
set_option maxHeartbeats 200000 in
theorem lp_X5_countOnLevel (ht : isTree ly t) (hN : tN S t = nI N) (hN2 : N ≤ 1205) {level : Int32} : ∀ m j, j + m = N → G K MX5_countOnLevel 6 0 0 0 0 4 [(3, .int (nI j)), (2, .int (nI (cnt (onLv S t level) j))), (0, .ref t), (1, .int level)] [] (hp ly S) (QcP K (fun v u => v = some (.int (nI (cnt (onLv S t level) N))) ∧ u = hp ly S)) (XcP K noX) := by
  intro m
  induction m with
  | zero =>
    intro j hj
    obtain rfl : j = N := by omega
    refine G_iload_n dX5_countOnLevel_4 rfl ?_
    refine G_aload_n dX5_countOnLevel_5 rfl ?_
    refine G_get (k := 8) dX5_countOnLevel_6 (cTree ht) rfl wfl_X5_52 (by decide) rfl ?_
    rw [show S.2.1 t 8 = nI j from hN]
    refine G_icmp_ge (tgt := 33) dX5_countOnLevel_9 (by decide) (fun c_9 => ?_) (fun c_9 => ?_)
    · refine G_iload_n dX5_countOnLevel_33 rfl ?_
      exact G_iret dX5_countOnLevel_34 rfl rfl ⟨Nat.le_refl 0, Nat.le_refl 0⟩ ⟨rfl, rfl⟩
    · exact absurd (nI_le (Nat.le_refl _) (by omega)) c_9
  | succ m ih =>
    intro j hj
    have hj8 : j < 1205 := by omega
    have q := ih (j + 1) (by omega)
    refine G_iload_n dX5_countOnLevel_4 rfl ?_
    refine G_aload_n dX5_countOnLevel_5 rfl ?_
    refine G_get (k := 8) dX5_countOnLevel_6 (cTree ht) rfl wfl_X5_52 (by decide) rfl ?_
    rw [show S.2.1 t 8 = nI N from hN]
    refine G_icmp_ge (tgt := 33) dX5_countOnLevel_9 (by decide) (fun c_9 => ?_) (fun c_9 => ?_)
    · exact absurd c_9 (nI_ge (show j < N by omega) (by omega))
    · refine G_aload_n dX5_countOnLevel_12 rfl ?_
      refine G_get (k := 1) dX5_countOnLevel_13 (cTree ht) rfl wfl_X5_23 (by decide) rfl ?_
      refine G_iload_n dX5_countOnLevel_16 rfl ?_
      refine G_cVi (As := [_]) dX5_countOnLevel_17 kV_X3_at wml_X5_48 (sp_X3_at (tLevel ht)) rfl (cRow (tLevel ht)) rfl rfl rfl (by decide) ⟨Nat.le_refl 0, Nat.le_refl 0⟩ (Nat.le_of_ble_eq_true rfl) ?_
      refine G_iload_n dX5_countOnLevel_20 rfl ?_
      refine G_icmp_ne (tgt := 27) dX5_countOnLevel_21 (by decide) (fun c_21 => ?_) (fun c_21 => ?_)
      · refine GS_iinc (v := 1) (L' := [(3, _), (2, _), (0, _), (1, _)]) dX5_countOnLevel_27 rfl (by decide) (by decide) rfl ?_
        refine G_goto (tgt := 4) dX5_countOnLevel_30 (by decide) ?_
        refine G_sub [0, 1, 2, 3] rfl ?_
        rw [nI_1 j]
        first
          | (rw [rat_nI hj8 (by decide)] at c_21; have e : (onLv S t level) j = false := decide_eq_false c_21; rw [cnt_f e] at q; exact q)
          | (rw [rat_nI hj8 (by decide)] at c_21; have e : (onLv S t level) j = true := decide_eq_true c_21; rw [cnt_t e] at q; rw [nI_1]; exact q)
      · refine GS_iinc (v := 1) (L' := [(2, _), (3, _), (0, _), (1, _)]) dX5_countOnLevel_24 rfl (by decide) (by decide) rfl ?_
        refine GS_iinc (v := 1) (L' := [(3, _), (2, _), (0, _), (1, _)]) dX5_countOnLevel_27 rfl (by decide) (by decide) rfl ?_
        refine G_goto (tgt := 4) dX5_countOnLevel_30 (by decide) ?_
        refine G_sub [0, 1, 2, 3] rfl ?_
        rw [nI_1 j]
        first
          | (rw [rat_nI hj8 (by decide)] at c_21; have e : (onLv S t level) j = false := decide_eq_false c_21; rw [cnt_f e] at q; exact q)
          | (rw [rat_nI hj8 (by decide)] at c_21; have e : (onLv S t level) j = true := decide_eq_true c_21; rw [cnt_t e] at q; rw [nI_1]; exact q)
set_option maxHeartbeats 200000 in
theorem sp_X5_countOnLevel (ht : isTree ly t) (hN : tN S t = nI N) (hN2 : N ≤ 1205) {level : Int32} : Sp K MX5_countOnLevel 6 0 0 [.ref t, .int level] (hp ly S) (fun v u => v = some (.int (nI (cnt (onLv S t level) N))) ∧ u = hp ly S) noX := by
  refine Sp_of (by decide) (Nat.le_of_ble_eq_true rfl) ?_
  refine G_iconst (v := 0) dX5_countOnLevel_0 (by decide) ?_
  refine GS_istore_n (L' := [(2, _), (0, _), (1, _)]) dX5_countOnLevel_1 (by decide) rfl ?_
  refine G_iconst (v := 0) dX5_countOnLevel_2 (by decide) ?_
  refine GS_istore_n (L' := [(3, _), (2, _), (0, _), (1, _)]) dX5_countOnLevel_3 (by decide) rfl ?_
  refine G_sub [0, 1, 2, 3] rfl ?_
  exact lp_X5_countOnLevel ht hN hN2 N 0 (by omega)
set_option maxHeartbeats 200000 in
theorem lp_X5_countVisited (ht : isTree ly t) (hN : tN S t = nI N) (hN2 : N ≤ 1205) {x y w h far : Int32} : ∀ m j, j + m = N → G K MX5_countVisited 8 0 0 0 0 6 [(7, .int (nI j)), (6, .int (nI (cnt (visP S t x y w h far) j))), (0, .ref t), (1, .int x), (2, .int y), (3, .int w), (4, .int h), (5, .int far)] [] (hp ly S) (QcP K (fun v u => v = some (.int (nI (cnt (visP S t x y w h far) N))) ∧ u = hp ly S)) (XcP K noX) := by
  intro m
  induction m with
  | zero =>
    intro j hj
    obtain rfl : j = N := by omega
    refine G_iload dX5_countVisited_6 rfl ?_
    refine G_aload_n dX5_countVisited_8 rfl ?_
    refine G_get (k := 8) dX5_countVisited_9 (cTree ht) rfl wfl_X5_52 (by decide) rfl ?_
    rw [show S.2.1 t 8 = nI j from hN]
    refine G_icmp_ge (tgt := 43) dX5_countVisited_12 (by decide) (fun c_12 => ?_) (fun c_12 => ?_)
    · refine G_iload dX5_countVisited_43 rfl ?_
      exact G_iret dX5_countVisited_45 rfl rfl ⟨Nat.le_refl 0, Nat.le_refl 0⟩ ⟨rfl, rfl⟩
    · exact absurd (nI_le (Nat.le_refl _) (by omega)) c_12
  | succ m ih =>
    intro j hj
    have hj8 : j < 1205 := by omega
    have q := ih (j + 1) (by omega)
    refine G_iload dX5_countVisited_6 rfl ?_
    refine G_aload_n dX5_countVisited_8 rfl ?_
    refine G_get (k := 8) dX5_countVisited_9 (cTree ht) rfl wfl_X5_52 (by decide) rfl ?_
    rw [show S.2.1 t 8 = nI N from hN]
    refine G_icmp_ge (tgt := 43) dX5_countVisited_12 (by decide) (fun c_12 => ?_) (fun c_12 => ?_)
    · exact absurd c_12 (nI_ge (show j < N by omega) (by omega))
    · refine G_aload_n dX5_countVisited_15 rfl ?_
      refine G_get (k := 0) dX5_countVisited_16 (cTree ht) rfl wfl_X5_14 (by decide) rfl ?_
      refine G_iload dX5_countVisited_19 rfl ?_
      refine G_iload_n dX5_countVisited_21 rfl ?_
      refine G_iload_n dX5_countVisited_22 rfl ?_
      refine G_iload_n dX5_countVisited_23 rfl ?_
      refine G_iload dX5_countVisited_24 rfl ?_
      refine G_cVi (As := [_, _, _, _, _]) dX5_countVisited_26 kV_X0_farFrom wml_X5_56 (sp_X0_farFrom (bTree ht)) rfl (cBox (bTree ht)) rfl rfl rfl (by decide) ⟨Nat.le_refl 0, Nat.le_refl 0⟩ (Nat.le_of_ble_eq_true rfl) ?_
      refine G_iload dX5_countVisited_29 rfl ?_
      refine G_icmp_gt (tgt := 37) dX5_countVisited_31 (by decide) (fun c_31 => ?_) (fun c_31 => ?_)
      · refine GS_iinc (v := 1) (L' := [(7, _), (6, _), (0, _), (1, _), (2, _), (3, _), (4, _), (5, _)]) dX5_countVisited_37 rfl (by decide) (by decide) rfl ?_
        refine G_goto (tgt := 6) dX5_countVisited_40 (by decide) ?_
        refine G_sub [0, 1, 2, 3, 4, 5, 6, 7] rfl ?_
        rw [nI_1 j]
        first
          | (have e : (visP S t x y w h far) j = false := le_f c_31; rw [cnt_f e] at q; exact q)
          | (have e : (visP S t x y w h far) j = true := le_t c_31; rw [cnt_t e] at q; rw [nI_1]; exact q)
      · refine GS_iinc (v := 1) (L' := [(6, _), (7, _), (0, _), (1, _), (2, _), (3, _), (4, _), (5, _)]) dX5_countVisited_34 rfl (by decide) (by decide) rfl ?_
        refine GS_iinc (v := 1) (L' := [(7, _), (6, _), (0, _), (1, _), (2, _), (3, _), (4, _), (5, _)]) dX5_countVisited_37 rfl (by decide) (by decide) rfl ?_
        refine G_goto (tgt := 6) dX5_countVisited_40 (by decide) ?_
        refine G_sub [0, 1, 2, 3, 4, 5, 6, 7] rfl ?_
        rw [nI_1 j]
        first
          | (have e : (visP S t x y w h far) j = false := le_f c_31; rw [cnt_f e] at q; exact q)
          | (have e : (visP S t x y w h far) j = true := le_t c_31; rw [cnt_t e] at q; rw [nI_1]; exact q)
set_option maxHeartbeats 200000 in
theorem sp_X5_countVisited (ht : isTree ly t) (hN : tN S t = nI N) (hN2 : N ≤ 1205) {x y w h far : Int32} : Sp K MX5_countVisited 8 0 0 [.ref t, .int x, .int y, .int w, .int h, .int far] (hp ly S) (fun v u => v = some (.int (nI (cnt (visP S t x y w h far) N))) ∧ u = hp ly S) noX := by
  refine Sp_of (by decide) (Nat.le_of_ble_eq_true rfl) ?_
  refine G_iconst (v := 0) dX5_countVisited_0 (by decide) ?_
  refine GS_istore (L' := [(6, _), (0, _), (1, _), (2, _), (3, _), (4, _), (5, _)]) dX5_countVisited_1 (by decide) rfl ?_
  refine G_iconst (v := 0) dX5_countVisited_3 (by decide) ?_
  refine GS_istore (L' := [(7, _), (6, _), (0, _), (1, _), (2, _), (3, _), (4, _), (5, _)]) dX5_countVisited_4 (by decide) rfl ?_
  refine G_sub [0, 1, 2, 3, 4, 5, 6, 7] rfl ?_
  exact lp_X5_countVisited ht hN hN2 N 0 (by omega)
set_option maxHeartbeats 200000 in
theorem sp_X5_firstOnLevel (ht : isTree ly t) {level : Int32} (h : tN S t = 0 ∨ level ≤ tLv S t 0) : Sp K MX5_firstOnLevel 6 0 0 [.ref t, .int level] (hp ly S) (fun v u => v = some (.int 0) ∧ u = hp ly S) noX := by
  refine Sp_of (by decide) (Nat.le_of_ble_eq_true rfl) ?_
  refine G_iconst (v := 0) dX5_firstOnLevel_0 (by decide) ?_
  refine GS_istore_n (L' := [(2, _), (0, _), (1, _)]) dX5_firstOnLevel_1 (by decide) rfl ?_
  refine G_iload_n dX5_firstOnLevel_2 rfl ?_
  refine G_aload_n dX5_firstOnLevel_3 rfl ?_
  refine G_get (k := 8) dX5_firstOnLevel_4 (cTree ht) rfl wfl_X5_52 (by decide) rfl ?_
  refine G_icmp_ge (tgt := 28) dX5_firstOnLevel_7 (by decide) (fun c_7 => ?_) (fun c_7 => ?_)
  · refine G_iload_n dX5_firstOnLevel_28 rfl ?_
    exact G_iret dX5_firstOnLevel_29 rfl rfl ⟨Nat.le_refl 0, Nat.le_refl 0⟩ ⟨rfl, rfl⟩
  · refine G_aload_n dX5_firstOnLevel_10 rfl ?_
    refine G_get (k := 1) dX5_firstOnLevel_11 (cTree ht) rfl wfl_X5_23 (by decide) rfl ?_
    refine G_iload_n dX5_firstOnLevel_14 rfl ?_
    refine G_cVi (As := [_]) dX5_firstOnLevel_15 kV_X3_at wml_X5_48 (sp_X3_at (tLevel ht)) rfl (cRow (tLevel ht)) rfl rfl rfl (by decide) ⟨Nat.le_refl 0, Nat.le_refl 0⟩ (Nat.le_of_ble_eq_true rfl) ?_
    refine G_iload_n dX5_firstOnLevel_18 rfl ?_
    refine G_icmp_ge (tgt := 28) dX5_firstOnLevel_19 (by decide) (fun c_19 => ?_) (fun c_19 => ?_)
    · refine G_iload_n dX5_firstOnLevel_28 rfl ?_
      exact G_iret dX5_firstOnLevel_29 rfl rfl ⟨Nat.le_refl 0, Nat.le_refl 0⟩ ⟨rfl, rfl⟩
    · exact absurd (h.resolve_left (fun q => c_7 (by rw [show S.2.1 t 8 = 0 from q]; exact Int32.le_refl 0))) (fun q => c_19 (by rw [show (0 : Int32) = nI 0 from rfl, rat_nI (by decide) (by decide)]; exact q))
set_option maxHeartbeats 200000 in
theorem sp_X5_fell (ht : isTree ly t) : Sp K MX5_fell 6 0 0 [.ref t] (hp ly S) (fun v u => v = none ∧ u = hp ly (fellS S t)) noX := by
  refine Sp_of (by decide) (Nat.le_of_ble_eq_true rfl) ?_
  refine G_aload_n dX5_fell_0 rfl ?_
  refine G_iconst (v := 0) dX5_fell_1 (by decide) ?_
  refine G_setI (k := 8) dX5_fell_2 (sTree ht).1 (sTree ht).2.1 (sTree ht).2.2 rfl rfl wfl_X5_52 (by decide) rfl rfl ?_
  refine G_aload_n dX5_fell_5 rfl ?_
  refine G_iconst (v := 0) dX5_fell_6 (by decide) ?_
  refine G_setI (k := 9) dX5_fell_7 (sTree ht).1 (sTree ht).2.1 (sTree ht).2.2 rfl rfl wfl_X5_60 (by decide) rfl rfl ?_
  refine G_aload_n dX5_fell_10 rfl ?_
  refine G_get (k := 6) dX5_fell_11 (cTree ht) rfl wfl_X5_39 (by decide) rfl ?_
  refine G_iconst (v := (-1)) dX5_fell_14 (by decide) ?_
  refine G_cVv (As := [_]) dX5_fell_15 kV_X3_fill wml_X5_45 (sp_X3_fill (tHome ht)) rfl (cRow (tHome ht)) rfl rfl rfl (by decide) ⟨Nat.le_refl 0, Nat.le_refl 0⟩ (Nat.le_of_ble_eq_true rfl) ?_
  exact G_vret dX5_fell_18 rfl ⟨Nat.le_refl 0, Nat.le_refl 0⟩ ⟨rfl, rfl⟩
set_option maxHeartbeats 200000 in
theorem sp_X5_addNode (ht : isTree ly t) {level : Int32} : Sp K MX5_addNode 6 0 0 [.ref t, .int level] (hp ly S) (fun v u => v = some (.int (tN S t)) ∧ u = hp ly (addNS S t level)) noX := by
  refine Sp_of (by decide) (Nat.le_of_ble_eq_true rfl) ?_
  refine G_aload_n dX5_addNode_0 rfl ?_
  refine G_get (k := 8) dX5_addNode_1 (cTree ht) rfl wfl_X5_52 (by decide) rfl ?_
  refine GS_istore_n (L' := [(2, _), (0, _), (1, _)]) dX5_addNode_4 (by decide) rfl ?_
  refine G_aload_n dX5_addNode_5 rfl ?_
  refine G_get (k := 1) dX5_addNode_6 (cTree ht) rfl wfl_X5_23 (by decide) rfl ?_
  refine G_iload_n dX5_addNode_9 rfl ?_
  refine G_iload_n dX5_addNode_10 rfl ?_
  refine G_cVv (As := [_, _]) dX5_addNode_11 kV_X3_put wml_X5_87 (sp_X3_put (tLevel ht)) rfl (cRow (tLevel ht)) rfl rfl rfl (by decide) ⟨Nat.le_refl 0, Nat.le_refl 0⟩ (Nat.le_of_ble_eq_true rfl) ?_
  refine G_aload_n dX5_addNode_14 rfl ?_
  refine G_get (k := 2) dX5_addNode_15 (cTree ht) rfl wfl_X5_27 (by decide) rfl ?_
  refine G_iload_n dX5_addNode_18 rfl ?_
  refine G_iconst (v := 0) dX5_addNode_19 (by decide) ?_
  refine G_cVv (As := [_, _]) dX5_addNode_20 kV_X3_put wml_X5_87 (sp_X3_put (tHeld ht)) rfl (cRow (tHeld ht)) rfl rfl rfl (by decide) ⟨Nat.le_refl 0, Nat.le_refl 0⟩ (Nat.le_of_ble_eq_true rfl) ?_
  refine G_aload_n dX5_addNode_23 rfl ?_
  refine G_get (k := 4) dX5_addNode_24 (cTree ht) rfl wfl_X5_33 (by decide) rfl ?_
  refine G_iload_n dX5_addNode_27 rfl ?_
  refine G_iconst (v := 0) dX5_addNode_28 (by decide) ?_
  refine G_cVv (As := [_, _]) dX5_addNode_29 kV_X3_put wml_X5_87 (sp_X3_put (tCount ht)) rfl (cRow (tCount ht)) rfl rfl rfl (by decide) ⟨Nat.le_refl 0, Nat.le_refl 0⟩ (Nat.le_of_ble_eq_true rfl) ?_
  refine G_aload_n dX5_addNode_32 rfl ?_
  refine G_dup dX5_addNode_33 rfl ?_
  refine G_get (k := 8) dX5_addNode_34 (cTree ht) rfl wfl_X5_52 (by decide) rfl ?_
  refine G_iconst (v := 1) dX5_addNode_37 (by decide) ?_
  refine G_iadd dX5_addNode_38 ?_
  refine G_setI (k := 8) dX5_addNode_39 (sTree ht).1 (sTree ht).2.1 (sTree ht).2.2 rfl rfl wfl_X5_52 (by decide) rfl rfl ?_
  refine G_iload_n dX5_addNode_42 rfl ?_
  exact G_iret dX5_addNode_43 rfl rfl ⟨Nat.le_refl 0, Nat.le_refl 0⟩ ⟨rfl, by unfold addNS tLv tHd tCt; (simp (disch := omega) only [setR_ne, Nat.add_assoc, Nat.reduceAdd]) <;> rfl⟩
set_option maxHeartbeats 200000 in
theorem sp_X5_settle (ht : isTree ly t) {k a : Int32} : Sp K MX5_settle 6 0 0 [.ref t, .int k, .int a] (hp ly S) (fun v u => v = none ∧ u = hp ly (settS S t k a)) noX := by
  refine Sp_of (by decide) (Nat.le_of_ble_eq_true rfl) ?_
  refine G_aload_n dX5_settle_0 rfl ?_
  refine G_get (k := 6) dX5_settle_1 (cTree ht) rfl wfl_X5_39 (by decide) rfl ?_
  refine G_iload_n dX5_settle_4 rfl ?_
  refine G_iload_n dX5_settle_5 rfl ?_
  refine G_cVv (As := [_, _]) dX5_settle_6 kV_X3_put wml_X5_87 (sp_X3_put (tHome ht)) rfl (cRow (tHome ht)) rfl rfl rfl (by decide) ⟨Nat.le_refl 0, Nat.le_refl 0⟩ (Nat.le_of_ble_eq_true rfl) ?_
  refine G_aload_n dX5_settle_9 rfl ?_
  refine G_get (k := 2) dX5_settle_10 (cTree ht) rfl wfl_X5_27 (by decide) rfl ?_
  refine G_iload_n dX5_settle_13 rfl ?_
  refine G_iconst (v := 1) dX5_settle_14 (by decide) ?_
  refine G_cVv (As := [_, _]) dX5_settle_15 kV_X3_addTo wml_X5_91 (sp_X3_addTo (tHeld ht)) rfl (cRow (tHeld ht)) rfl rfl rfl (by decide) ⟨Nat.le_refl 0, Nat.le_refl 0⟩ (Nat.le_of_ble_eq_true rfl) ?_
  exact G_vret dX5_settle_18 rfl ⟨Nat.le_refl 0, Nat.le_refl 0⟩ ⟨rfl, by unfold settS tHm tHd; (simp (disch := omega) only [setR_ne, Nat.add_assoc, Nat.reduceAdd]) <;> rfl⟩
set_option maxHeartbeats 200000 in
theorem sp_X5_copyBox (ht : isTree ly t) {b n : Nat} (hb : isBoxes ly b n) {i j : Int32} : Sp K MX5_copyBox 6 0 0 [.ref t, .int i, .ref b, .int j] (hp ly S) (fun v u => v = none ∧ u = hp ly (bput S (t + 1) 1205 i (bX S b n j) (bY S b n j) (bW S b n j) (bH S b n j))) noX := by
  refine Sp_of (by decide) (Nat.le_of_ble_eq_true rfl) ?_
  refine G_aload_n dX5_copyBox_0 rfl ?_
  refine G_get (k := 0) dX5_copyBox_1 (cTree ht) rfl wfl_X5_14 (by decide) rfl ?_
  refine G_iload_n dX5_copyBox_4 rfl ?_
  refine G_aload_n dX5_copyBox_5 rfl ?_
  refine G_getN (k := 0) dX5_copyBox_6 (cBox hb) rfl wfn_X5_78 (by decide) rfl ?_
  refine G_iload_n dX5_copyBox_9 rfl ?_
  refine G_cVi (As := [_]) dX5_copyBox_10 kV_X3_at wml_X5_48 (sp_X3_at hb.2.2.2.1) rfl (cRow hb.2.2.2.1) rfl rfl rfl (by decide) ⟨Nat.le_refl 0, Nat.le_refl 0⟩ (Nat.le_of_ble_eq_true rfl) ?_
  refine G_aload_n dX5_copyBox_13 rfl ?_
  refine G_getN (k := 1) dX5_copyBox_14 (cBox hb) rfl wfn_X5_81 (by decide) rfl ?_
  refine G_iload_n dX5_copyBox_17 rfl ?_
  refine G_cVi (As := [_]) dX5_copyBox_18 kV_X3_at wml_X5_48 (sp_X3_at hb.2.2.2.2.1) rfl (cRow hb.2.2.2.2.1) rfl rfl rfl (by decide) ⟨Nat.le_refl 0, Nat.le_refl 0⟩ (Nat.le_of_ble_eq_true rfl) ?_
  refine G_aload_n dX5_copyBox_21 rfl ?_
  refine G_getN (k := 2) dX5_copyBox_22 (cBox hb) rfl wfn_X5_84 (by decide) rfl ?_
  refine G_iload_n dX5_copyBox_25 rfl ?_
  refine G_cVi (As := [_]) dX5_copyBox_26 kV_X3_at wml_X5_48 (sp_X3_at hb.2.2.2.2.2.1) rfl (cRow hb.2.2.2.2.2.1) rfl rfl rfl (by decide) ⟨Nat.le_refl 0, Nat.le_refl 0⟩ (Nat.le_of_ble_eq_true rfl) ?_
  refine G_aload_n dX5_copyBox_29 rfl ?_
  refine G_getN (k := 3) dX5_copyBox_30 (cBox hb) rfl wfn_X5_158 (by decide) rfl ?_
  refine G_iload_n dX5_copyBox_33 rfl ?_
  refine G_cVi (As := [_]) dX5_copyBox_34 kV_X3_at wml_X5_48 (sp_X3_at hb.2.2.2.2.2.2) rfl (cRow hb.2.2.2.2.2.2) rfl rfl rfl (by decide) ⟨Nat.le_refl 0, Nat.le_refl 0⟩ (Nat.le_of_ble_eq_true rfl) ?_
  refine G_cVv (As := [_, _, _, _, _]) dX5_copyBox_37 kV_X0_put wml_X5_100 (sp_X0_put (bTree ht)) rfl (cBox (bTree ht)) rfl rfl rfl (by decide) ⟨Nat.le_refl 0, Nat.le_refl 0⟩ (Nat.le_of_ble_eq_true rfl) ?_
  exact G_vret dX5_copyBox_40 rfl ⟨Nat.le_refl 0, Nat.le_refl 0⟩ ⟨rfl, rfl⟩
def strS (S : St) (b n : Nat) (i : Int32) (b' n' : Nat) (j : Int32) : St :=
  bput S b n i (mn (bX S b n i) (bX S b' n' j)) (mn (bY S b n i) (bY S b' n' j)) (mx (bX S b n i + bW S b n i) (bX S b' n' j + bW S b' n' j) - mn (bX S b n i) (bX S b' n' j)) (mx (bY S b n i + bH S b n i) (bY S b' n' j + bH S b' n' j) - mn (bY S b n i) (bY S b' n' j))
set_option maxHeartbeats 200000 in
theorem sp_X0_stretchOver {b n b' n' : Nat} (hb : isBoxes ly b n) (hb' : isBoxes ly b' n') {i j : Int32} : Sp K MX0_stretchOver 6 0 0 [.ref b, .int i, .ref b', .int j] (hp ly S) (fun v u => v = none ∧ u = hp ly (strS S b n i b' n' j)) noX := by
  refine Sp_of (by decide) (Nat.le_of_ble_eq_true rfl) ?_
  refine G_aload_n dX0_stretchOver_0 rfl ?_
  refine G_get (k := 0) dX0_stretchOver_1 (cBox hb) rfl wfl_X0_12 (by decide) rfl ?_
  refine G_iload_n dX0_stretchOver_4 rfl ?_
  refine G_cVi (As := [_]) dX0_stretchOver_5 kV_X3_at wml_X0_31 (sp_X3_at hb.2.2.2.1) rfl (cRow hb.2.2.2.1) rfl rfl rfl (by decide) ⟨Nat.le_refl 0, Nat.le_refl 0⟩ (Nat.le_of_ble_eq_true rfl) ?_
  refine G_aload_n dX0_stretchOver_8 rfl ?_
  refine G_get (k := 0) dX0_stretchOver_9 (cBox hb') rfl wfl_X0_12 (by decide) rfl ?_
  refine G_iload_n dX0_stretchOver_12 rfl ?_
  refine G_cVi (As := [_]) dX0_stretchOver_13 kV_X3_at wml_X0_31 (sp_X3_at hb'.2.2.2.1) rfl (cRow hb'.2.2.2.1) rfl rfl rfl (by decide) ⟨Nat.le_refl 0, Nat.le_refl 0⟩ (Nat.le_of_ble_eq_true rfl) ?_
  refine G_min dX0_stretchOver_16 wml_X0_49 (by decide) ⟨Nat.le_refl 0, Nat.le_refl 0⟩ (Nat.le_of_ble_eq_true rfl) ?_
  refine GS_istore (L' := [(4, _), (0, _), (1, _), (2, _), (3, _)]) dX0_stretchOver_19 (by decide) rfl ?_
  refine G_aload_n dX0_stretchOver_21 rfl ?_
  refine G_get (k := 1) dX0_stretchOver_22 (cBox hb) rfl wfl_X0_18 (by decide) rfl ?_
  refine G_iload_n dX0_stretchOver_25 rfl ?_
  refine G_cVi (As := [_]) dX0_stretchOver_26 kV_X3_at wml_X0_31 (sp_X3_at hb.2.2.2.2.1) rfl (cRow hb.2.2.2.2.1) rfl rfl rfl (by decide) ⟨Nat.le_refl 0, Nat.le_refl 0⟩ (Nat.le_of_ble_eq_true rfl) ?_
  refine G_aload_n dX0_stretchOver_29 rfl ?_
  refine G_get (k := 1) dX0_stretchOver_30 (cBox hb') rfl wfl_X0_18 (by decide) rfl ?_
  refine G_iload_n dX0_stretchOver_33 rfl ?_
  refine G_cVi (As := [_]) dX0_stretchOver_34 kV_X3_at wml_X0_31 (sp_X3_at hb'.2.2.2.2.1) rfl (cRow hb'.2.2.2.2.1) rfl rfl rfl (by decide) ⟨Nat.le_refl 0, Nat.le_refl 0⟩ (Nat.le_of_ble_eq_true rfl) ?_
  refine G_min dX0_stretchOver_37 wml_X0_49 (by decide) ⟨Nat.le_refl 0, Nat.le_refl 0⟩ (Nat.le_of_ble_eq_true rfl) ?_
  refine GS_istore (L' := [(5, _), (4, _), (0, _), (1, _), (2, _), (3, _)]) dX0_stretchOver_40 (by decide) rfl ?_
  refine G_aload_n dX0_stretchOver_42 rfl ?_
  refine G_get (k := 0) dX0_stretchOver_43 (cBox hb) rfl wfl_X0_12 (by decide) rfl ?_
  refine G_iload_n dX0_stretchOver_46 rfl ?_
  refine G_cVi (As := [_]) dX0_stretchOver_47 kV_X3_at wml_X0_31 (sp_X3_at hb.2.2.2.1) rfl (cRow hb.2.2.2.1) rfl rfl rfl (by decide) ⟨Nat.le_refl 0, Nat.le_refl 0⟩ (Nat.le_of_ble_eq_true rfl) ?_
  refine G_aload_n dX0_stretchOver_50 rfl ?_
  refine G_get (k := 2) dX0_stretchOver_51 (cBox hb) rfl wfl_X0_21 (by decide) rfl ?_
  refine G_iload_n dX0_stretchOver_54 rfl ?_
  refine G_cVi (As := [_]) dX0_stretchOver_55 kV_X3_at wml_X0_31 (sp_X3_at hb.2.2.2.2.2.1) rfl (cRow hb.2.2.2.2.2.1) rfl rfl rfl (by decide) ⟨Nat.le_refl 0, Nat.le_refl 0⟩ (Nat.le_of_ble_eq_true rfl) ?_
  refine G_iadd dX0_stretchOver_58 ?_
  refine G_aload_n dX0_stretchOver_59 rfl ?_
  refine G_get (k := 0) dX0_stretchOver_60 (cBox hb') rfl wfl_X0_12 (by decide) rfl ?_
  refine G_iload_n dX0_stretchOver_63 rfl ?_
  refine G_cVi (As := [_]) dX0_stretchOver_64 kV_X3_at wml_X0_31 (sp_X3_at hb'.2.2.2.1) rfl (cRow hb'.2.2.2.1) rfl rfl rfl (by decide) ⟨Nat.le_refl 0, Nat.le_refl 0⟩ (Nat.le_of_ble_eq_true rfl) ?_
  refine G_aload_n dX0_stretchOver_67 rfl ?_
  refine G_get (k := 2) dX0_stretchOver_68 (cBox hb') rfl wfl_X0_21 (by decide) rfl ?_
  refine G_iload_n dX0_stretchOver_71 rfl ?_
  refine G_cVi (As := [_]) dX0_stretchOver_72 kV_X3_at wml_X0_31 (sp_X3_at hb'.2.2.2.2.2.1) rfl (cRow hb'.2.2.2.2.2.1) rfl rfl rfl (by decide) ⟨Nat.le_refl 0, Nat.le_refl 0⟩ (Nat.le_of_ble_eq_true rfl) ?_
  refine G_iadd dX0_stretchOver_75 ?_
  refine G_max dX0_stretchOver_76 wml_X0_43 (by decide) ⟨Nat.le_refl 0, Nat.le_refl 0⟩ (Nat.le_of_ble_eq_true rfl) ?_
  refine GS_istore (L' := [(6, _), (5, _), (4, _), (0, _), (1, _), (2, _), (3, _)]) dX0_stretchOver_79 (by decide) rfl ?_
  refine G_aload_n dX0_stretchOver_81 rfl ?_
  refine G_get (k := 1) dX0_stretchOver_82 (cBox hb) rfl wfl_X0_18 (by decide) rfl ?_
  refine G_iload_n dX0_stretchOver_85 rfl ?_
  refine G_cVi (As := [_]) dX0_stretchOver_86 kV_X3_at wml_X0_31 (sp_X3_at hb.2.2.2.2.1) rfl (cRow hb.2.2.2.2.1) rfl rfl rfl (by decide) ⟨Nat.le_refl 0, Nat.le_refl 0⟩ (Nat.le_of_ble_eq_true rfl) ?_
  refine G_aload_n dX0_stretchOver_89 rfl ?_
  refine G_get (k := 3) dX0_stretchOver_90 (cBox hb) rfl wfl_X0_24 (by decide) rfl ?_
  refine G_iload_n dX0_stretchOver_93 rfl ?_
  refine G_cVi (As := [_]) dX0_stretchOver_94 kV_X3_at wml_X0_31 (sp_X3_at hb.2.2.2.2.2.2) rfl (cRow hb.2.2.2.2.2.2) rfl rfl rfl (by decide) ⟨Nat.le_refl 0, Nat.le_refl 0⟩ (Nat.le_of_ble_eq_true rfl) ?_
  refine G_iadd dX0_stretchOver_97 ?_
  refine G_aload_n dX0_stretchOver_98 rfl ?_
  refine G_get (k := 1) dX0_stretchOver_99 (cBox hb') rfl wfl_X0_18 (by decide) rfl ?_
  refine G_iload_n dX0_stretchOver_102 rfl ?_
  refine G_cVi (As := [_]) dX0_stretchOver_103 kV_X3_at wml_X0_31 (sp_X3_at hb'.2.2.2.2.1) rfl (cRow hb'.2.2.2.2.1) rfl rfl rfl (by decide) ⟨Nat.le_refl 0, Nat.le_refl 0⟩ (Nat.le_of_ble_eq_true rfl) ?_
  refine G_aload_n dX0_stretchOver_106 rfl ?_
  refine G_get (k := 3) dX0_stretchOver_107 (cBox hb') rfl wfl_X0_24 (by decide) rfl ?_
  refine G_iload_n dX0_stretchOver_110 rfl ?_
  refine G_cVi (As := [_]) dX0_stretchOver_111 kV_X3_at wml_X0_31 (sp_X3_at hb'.2.2.2.2.2.2) rfl (cRow hb'.2.2.2.2.2.2) rfl rfl rfl (by decide) ⟨Nat.le_refl 0, Nat.le_refl 0⟩ (Nat.le_of_ble_eq_true rfl) ?_
  refine G_iadd dX0_stretchOver_114 ?_
  refine G_max dX0_stretchOver_115 wml_X0_43 (by decide) ⟨Nat.le_refl 0, Nat.le_refl 0⟩ (Nat.le_of_ble_eq_true rfl) ?_
  refine GS_istore (L' := [(7, _), (6, _), (5, _), (4, _), (0, _), (1, _), (2, _), (3, _)]) dX0_stretchOver_118 (by decide) rfl ?_
  refine G_aload_n dX0_stretchOver_120 rfl ?_
  refine G_iload_n dX0_stretchOver_121 rfl ?_
  refine G_iload dX0_stretchOver_122 rfl ?_
  refine G_iload dX0_stretchOver_124 rfl ?_
  refine G_iload dX0_stretchOver_126 rfl ?_
  refine G_iload dX0_stretchOver_128 rfl ?_
  refine G_isub dX0_stretchOver_130 ?_
  refine G_iload dX0_stretchOver_131 rfl ?_
  refine G_iload dX0_stretchOver_133 rfl ?_
  refine G_isub dX0_stretchOver_135 ?_
  refine G_cVv (As := [_, _, _, _, _]) dX0_stretchOver_136 kV_X0_put wml_X0_52 (sp_X0_put hb) rfl (cBox hb) rfl rfl rfl (by decide) ⟨Nat.le_refl 0, Nat.le_refl 0⟩ (Nat.le_of_ble_eq_true rfl) ?_
  exact G_vret dX0_stretchOver_139 rfl ⟨Nat.le_refl 0, Nat.le_refl 0⟩ ⟨rfl, rfl⟩
end TR
end
section
/-! quarters: what split and growQuarters do, step by step -/
set_option maxHeartbeats 200000 in
theorem setI_ne {S : St} {a i b j : Nat} {x : Int32} (h : b ≠ a) : (setI S a i x).2.1 b j = S.2.1 b j := by
  show va_up S.2.1 a (va_up (S.2.1 a) i x) b j = _
  unfold va_up
  rw [if_neg h]
set_option maxHeartbeats 200000 in
theorem isTree_ne {ly t : Nat} (h : isTree ly t) : 1 ≠ t ∧ 0 ≠ t ∧ 25 ≤ t ∧ t ≤ 75 := by
  rcases h with rfl | ⟨rfl, h⟩ | ⟨rfl, h⟩ <;> omega
def qStep (S : St) (t : Nat) (q half : Int32) (j : Nat) : St :=
  let S2 := bput (addNS S t (rat (tLv S t) 1205 q + 1)) (t + 1) 1205 (tN S t) (bX S (t + 1) 1205 q + (nI j - nI j / 2 * 2) * half) (bY S (t + 1) 1205 q + nI j / 2 * half) (half - 1) (half - 1)
  setR S2 (t + 19) (rput (tBl S2 t) 1205 (tN S t) (tN S t))
def qRun (S : St) (t : Nat) (q half : Int32) (j : Nat) : St := match j with
  | 0 => S
  | j + 1 => qStep (qRun S t q half j) t q half j
def mStep (S : St) (t : Nat) (q first : Int32) (k : Nat) : St := if rat (tHm S t) 80 (nI k) = q then settS S t (nI k) (first + qtr S t q (bX S 2 80 (nI k)) (bY S 2 80 (nI k))) else S
def mRun (S : St) (t : Nat) (q first : Int32) (k : Nat) : St := match k with
  | 0 => S
  | k + 1 => mStep (mRun S t q first k) t q first k
def splS (S : St) (t : Nat) (q : Int32) (c : Nat) : St :=
  let S1 := qRun (setR S (t + 15) (rput (tFr S t) 1205 q (tN S t))) t q (halfV S t q) 4
  mRun (setR S1 (t + 17) (rput (tCt S1 t) 1205 q 4)) t q (tN S t) c
def rStep (S : St) (t : Nat) (layer : Int32) (k : Nat) : St := if isin S (nI k) layer = 0 then S else settS S t (nI k) (tR S t)
def rRun (S : St) (t : Nat) (layer : Int32) (k : Nat) : St := match k with
  | 0 => S
  | k + 1 => rStep (rRun S t layer k) t layer k
def gStep (S : St) (t c : Nat) (cap : Int32) (sq : Nat) : St := if cap < rat (tHd S t) 1205 (nI sq) ∧ 0 < halfV S t (nI sq) then splS S t (nI sq) c else S
def gRun (S : St) (t c : Nat) (cap : Int32) (f sq : Nat) : St := match f with
  | 0 => S
  | f + 1 => if nI sq < tN S t then gRun (gStep S t c cap sq) t c cap f (sq + 1) else S
def seedS (S : St) (t : Nat) : St := let S2 := setI (addNS (fellS S t) t 0) t 9 (tN (fellS S t) t)
  bput S2 (t + 1) 1205 (tR S2 t) 0 0 1023 1023
def growS (S : St) (t c : Nat) (layer cap : Int32) : St := gRun (rRun (seedS S t) t layer c) t c cap 1205 0
/-- things.count is not touched -/
abbrev tc (S : St) : Int32 := S.2.1 1 5
set_option maxHeartbeats 200000 in
theorem tc_setR {S : St} {a : Nat} {f : Nat → Int32} : tc (setR S a f) = tc S := rfl
set_option maxHeartbeats 200000 in
theorem tc_setI {S : St} {t i : Nat} {x : Int32} (h : 1 ≠ t) : tc (setI S t i x) = tc S := setI_ne h
set_option maxHeartbeats 200000 in
theorem tc_addNS {S : St} {t : Nat} {l : Int32} (h : 1 ≠ t) : tc (addNS S t l) = tc S := setI_ne h
set_option maxHeartbeats 200000 in
theorem tc_qStep {S : St} {t j : Nat} {q half : Int32} (h : 1 ≠ t) : tc (qStep S t q half j) = tc S := tc_addNS h
set_option maxHeartbeats 200000 in
theorem tc_qRun {S : St} {t : Nat} {q half : Int32} (h : 1 ≠ t) : ∀ j, tc (qRun S t q half j) = tc S := by
  intro j
  induction j with
  | zero => rfl
  | succ j ih => rw [qRun, tc_qStep h]; exact ih
set_option maxHeartbeats 200000 in
theorem tc_mRun {S : St} {t : Nat} {q first : Int32} : ∀ k, tc (mRun S t q first k) = tc S := by
  intro k
  induction k with
  | zero => rfl
  | succ k ih =>
    rw [mRun, mStep]
    split
    · exact ih
    · exact ih
set_option maxHeartbeats 200000 in
theorem tc_splS {S : St} {t c : Nat} {q : Int32} (h : 1 ≠ t) : tc (splS S t q c) = tc S := by
  unfold splS
  rw [tc_mRun, tc_setR, tc_qRun h, tc_setR]
set_option maxHeartbeats 200000 in
theorem tc_rRun {S : St} {t : Nat} {layer : Int32} : ∀ k, tc (rRun S t layer k) = tc S := by
  intro k
  induction k with
  | zero => rfl
  | succ k ih =>
    rw [rRun, rStep]
    split
    · exact ih
    · exact ih
set_option maxHeartbeats 200000 in
theorem tc_seedS {S : St} {t : Nat} (h : 1 ≠ t) : tc (seedS S t) = tc S := by
  show (setI (addNS (fellS S t) t 0) t 9 (tN (fellS S t) t)).2.1 1 5 = _
  rw [setI_ne h]
  show tc (addNS (fellS S t) t 0) = tc S
  rw [tc_addNS h]
  show tc (setI (setI S t 8 0) t 9 0) = tc S
  rw [tc_setI h, tc_setI h]
set_option maxHeartbeats 200000 in
theorem tc_gStep {S : St} {t c sq : Nat} {cap : Int32} (h : 1 ≠ t) : tc (gStep S t c cap sq) = tc S := by
  unfold gStep
  split
  · exact tc_splS h
  · rfl
section GQ
variable {K : GK} {ly : Nat} {S : St} {t c : Nat}
set_option maxHeartbeats 200000 in
theorem lp_split4 (ht : isTree ly t) {q half first : Int32} {Qc : Array Value → State → Outcome → State → Prop} {XC : String → State → State → Prop} (kk : G K MX5_split 12 0 0 0 0 123 [(4, .int first), (0, .ref t), (1, .int q), (2, .ref 1)] [] (hp ly (qRun S t q half 4)) Qc XC) : ∀ m j, j + m = 4 → G K MX5_split 12 0 0 0 0 25 [(5, .int (nI j)), (4, .int first), (3, .int half), (0, .ref t), (1, .int q), (2, .ref 1)] [] (hp ly (qRun S t q half j)) Qc XC := by
  intro m
  induction m with
  | zero =>
    intro j hj
    obtain rfl : j = 4 := by omega
    refine G_iload dX5_split_25 rfl ?_
    refine G_iconst (v := 4) dX5_split_27 (by decide) ?_
    refine G_icmp_ge (tgt := 123) dX5_split_28 (by decide) (fun c_28 => ?_) (fun c_28 => ?_)
    · refine G_sub [1, 3, 4, 5] rfl ?_
      exact kk
    · exact absurd (by decide) c_28
  | succ m ih =>
    intro j hj
    have z := ih (j + 1) (by omega)
    rw [qRun] at z
    refine G_iload dX5_split_25 rfl ?_
    refine G_iconst (v := 4) dX5_split_27 (by decide) ?_
    refine G_icmp_ge (tgt := 123) dX5_split_28 (by decide) (fun c_28 => ?_) (fun c_28 => ?_)
    · exact absurd c_28 (nI_ge (show j < 4 by omega) (by decide))
    · refine G_aload_n dX5_split_31 rfl ?_
      refine G_get (k := 0) dX5_split_32 (cTree ht) rfl wfl_X5_14 (by decide) rfl ?_
      refine G_getN (k := 0) dX5_split_35 (cBox (bTree ht)) rfl wfn_X5_78 (by decide) rfl ?_
      refine G_iload_n dX5_split_38 rfl ?_
      refine G_cVi (As := [_]) dX5_split_39 kV_X3_at wml_X5_48 (sp_X3_at (bTree ht).2.2.2.1) rfl (cRow (bTree ht).2.2.2.1) rfl rfl rfl (by decide) ⟨Nat.le_refl 0, Nat.le_refl 0⟩ (Nat.le_of_ble_eq_true rfl) ?_
      refine G_iload dX5_split_42 rfl ?_
      refine G_iconst (v := 2) dX5_split_44 (by decide) ?_
      refine G_irem dX5_split_45 (by decide) ?_
      refine G_iload_n dX5_split_46 rfl ?_
      refine G_imul dX5_split_47 ?_
      refine G_iadd dX5_split_48 ?_
      refine GS_istore (L' := [(6, _), (5, _), (4, _), (3, _), (0, _), (1, _), (2, _)]) dX5_split_49 (by decide) rfl ?_
      refine G_aload_n dX5_split_51 rfl ?_
      refine G_get (k := 0) dX5_split_52 (cTree ht) rfl wfl_X5_14 (by decide) rfl ?_
      refine G_getN (k := 1) dX5_split_55 (cBox (bTree ht)) rfl wfn_X5_81 (by decide) rfl ?_
      refine G_iload_n dX5_split_58 rfl ?_
      refine G_cVi (As := [_]) dX5_split_59 kV_X3_at wml_X5_48 (sp_X3_at (bTree ht).2.2.2.2.1) rfl (cRow (bTree ht).2.2.2.2.1) rfl rfl rfl (by decide) ⟨Nat.le_refl 0, Nat.le_refl 0⟩ (Nat.le_of_ble_eq_true rfl) ?_
      refine G_iload dX5_split_62 rfl ?_
      refine G_iconst (v := 2) dX5_split_64 (by decide) ?_
      refine G_idiv dX5_split_65 (by decide) ?_
      refine G_iload_n dX5_split_66 rfl ?_
      refine G_imul dX5_split_67 ?_
      refine G_iadd dX5_split_68 ?_
      refine GS_istore (L' := [(7, _), (6, _), (5, _), (4, _), (3, _), (0, _), (1, _), (2, _)]) dX5_split_69 (by decide) rfl ?_
      refine G_aload_n dX5_split_71 rfl ?_
      refine G_aload_n dX5_split_72 rfl ?_
      refine G_get (k := 1) dX5_split_73 (cTree ht) rfl wfl_X5_23 (by decide) rfl ?_
      refine G_iload_n dX5_split_76 rfl ?_
      refine G_cVi (As := [_]) dX5_split_77 kV_X3_at wml_X5_48 (sp_X3_at (tLevel ht)) rfl (cRow (tLevel ht)) rfl rfl rfl (by decide) ⟨Nat.le_refl 0, Nat.le_refl 0⟩ (Nat.le_of_ble_eq_true rfl) ?_
      refine G_iconst (v := 1) dX5_split_80 (by decide) ?_
      refine G_iadd dX5_split_81 ?_
      refine G_cVi (As := [_]) dX5_split_82 kV_X5_addNode wml_X5_97 (sp_X5_addNode ht) rfl (cTree ht) rfl rfl rfl (by decide) ⟨Nat.le_refl 0, Nat.le_refl 0⟩ (Nat.le_of_ble_eq_true rfl) ?_
      refine GS_istore (L' := [(8, _), (7, _), (6, _), (5, _), (4, _), (3, _), (0, _), (1, _), (2, _)]) dX5_split_85 (by decide) rfl ?_
      refine G_aload_n dX5_split_87 rfl ?_
      refine G_get (k := 0) dX5_split_88 (cTree ht) rfl wfl_X5_14 (by decide) rfl ?_
      refine G_iload dX5_split_91 rfl ?_
      refine G_iload dX5_split_93 rfl ?_
      refine G_iload dX5_split_95 rfl ?_
      refine G_iload_n dX5_split_97 rfl ?_
      refine G_iconst (v := 1) dX5_split_98 (by decide) ?_
      refine G_isub dX5_split_99 ?_
      refine G_iload_n dX5_split_100 rfl ?_
      refine G_iconst (v := 1) dX5_split_101 (by decide) ?_
      refine G_isub dX5_split_102 ?_
      refine G_cVv (As := [_, _, _, _, _]) dX5_split_103 kV_X0_put wml_X5_100 (sp_X0_put (bTree ht)) rfl (cBox (bTree ht)) rfl rfl rfl (by decide) ⟨Nat.le_refl 0, Nat.le_refl 0⟩ (Nat.le_of_ble_eq_true rfl) ?_
      refine G_aload_n dX5_split_106 rfl ?_
      refine G_get (k := 5) dX5_split_107 (cTree ht) rfl wfl_X5_36 (by decide) rfl ?_
      refine G_iload dX5_split_110 rfl ?_
      refine G_iload dX5_split_112 rfl ?_
      refine G_cVv (As := [_, _]) dX5_split_114 kV_X3_put wml_X5_87 (sp_X3_put (tBelow ht)) rfl (cRow (tBelow ht)) rfl rfl rfl (by decide) ⟨Nat.le_refl 0, Nat.le_refl 0⟩ (Nat.le_of_ble_eq_true rfl) ?_
      refine GS_iinc (v := 1) (L' := [(5, _), (8, _), (7, _), (6, _), (4, _), (3, _), (0, _), (1, _), (2, _)]) dX5_split_117 rfl (by decide) (by decide) rfl ?_
      refine G_goto (tgt := 25) dX5_split_120 (by decide) ?_
      refine G_sub [0, 4, 5, 6, 7, 8] rfl ?_
      rw [nI_1 j]
      exact z
set_option maxHeartbeats 200000 in
theorem lp_splitM (ht : isTree ly t) (hc : tc S = nI c) (h80 : c ≤ 80) {q first : Int32} {P : Option Value → VH → Prop} (hP : P none (hp ly (mRun S t q first c))) : ∀ m j, j + m = c → G K MX5_split 12 0 0 0 0 135 [(5, .int (nI j)), (4, .int first), (0, .ref t), (1, .int q), (2, .ref 1)] [] (hp ly (mRun S t q first j)) (QcP K P) (XcP K noX) := by
  intro m
  induction m with
  | zero =>
    intro j hj
    obtain rfl : j = c := by omega
    refine G_iload dX5_split_135 rfl ?_
    refine G_aload_n dX5_split_137 rfl ?_
    refine G_getN (k := 5) dX5_split_138 cThings rfl wfn_X5_103 (by decide) rfl ?_
    rw [show (mRun S t q first j).2.1 1 5 = nI j from (tc_mRun j).trans hc]
    refine G_icmp_ge (tgt := 201) dX5_split_141 (by decide) (fun c_141 => ?_) (fun c_141 => ?_)
    · exact G_vret dX5_split_201 rfl ⟨Nat.le_refl 0, Nat.le_refl 0⟩ hP
    · exact absurd (nI_le (Nat.le_refl _) (by omega)) c_141
  | succ m ih =>
    intro j hj
    have z := ih (j + 1) (by omega)
    rw [mRun, mStep] at z
    refine G_iload dX5_split_135 rfl ?_
    refine G_aload_n dX5_split_137 rfl ?_
    refine G_getN (k := 5) dX5_split_138 cThings rfl wfn_X5_103 (by decide) rfl ?_
    rw [show (mRun S t q first j).2.1 1 5 = nI c from (tc_mRun j).trans hc]
    refine G_icmp_ge (tgt := 201) dX5_split_141 (by decide) (fun c_141 => ?_) (fun c_141 => ?_)
    · exact absurd c_141 (nI_ge (show j < c by omega) (by omega))
    · refine G_aload_n dX5_split_144 rfl ?_
      refine G_get (k := 6) dX5_split_145 (cTree ht) rfl wfl_X5_39 (by decide) rfl ?_
      refine G_iload dX5_split_148 rfl ?_
      refine G_cVi (As := [_]) dX5_split_150 kV_X3_at wml_X5_48 (sp_X3_at (tHome ht)) rfl (cRow (tHome ht)) rfl rfl rfl (by decide) ⟨Nat.le_refl 0, Nat.le_refl 0⟩ (Nat.le_of_ble_eq_true rfl) ?_
      refine G_iload_n dX5_split_153 rfl ?_
      refine G_icmp_ne (tgt := 195) dX5_split_154 (by decide) (fun c_154 => ?_) (fun c_154 => ?_)
      · refine GS_iinc (v := 1) (L' := [(5, _), (4, _), (0, _), (1, _), (2, _)]) dX5_split_195 rfl (by decide) (by decide) rfl ?_
        refine G_goto (tgt := 135) dX5_split_198 (by decide) ?_
        refine G_sub [0, 1, 2, 3, 4] rfl ?_
        rw [nI_1 j]
        first
          | (rw [if_pos c_154] at z; exact z)
          | (rw [if_neg c_154] at z; exact z)
      · refine G_aload_n dX5_split_157 rfl ?_
        refine G_iload dX5_split_158 rfl ?_
        refine G_iload dX5_split_160 rfl ?_
        refine G_aload_n dX5_split_162 rfl ?_
        refine G_iload_n dX5_split_163 rfl ?_
        refine G_aload_n dX5_split_164 rfl ?_
        refine G_getN (k := 0) dX5_split_165 cThings rfl wfn_X5_119 (by decide) rfl ?_
        refine G_getN (k := 0) dX5_split_168 (cBox bThings) rfl wfn_X5_78 (by decide) rfl ?_
        refine G_iload dX5_split_171 rfl ?_
        refine G_cVi (As := [_]) dX5_split_173 kV_X3_at wml_X5_48 (sp_X3_at bThings.2.2.2.1) rfl (cRow bThings.2.2.2.1) rfl rfl rfl (by decide) ⟨Nat.le_refl 0, Nat.le_refl 0⟩ (Nat.le_of_ble_eq_true rfl) ?_
        refine G_aload_n dX5_split_176 rfl ?_
        refine G_getN (k := 0) dX5_split_177 cThings rfl wfn_X5_119 (by decide) rfl ?_
        refine G_getN (k := 1) dX5_split_180 (cBox bThings) rfl wfn_X5_81 (by decide) rfl ?_
        refine G_iload dX5_split_183 rfl ?_
        refine G_cVi (As := [_]) dX5_split_185 kV_X3_at wml_X5_48 (sp_X3_at bThings.2.2.2.2.1) rfl (cRow bThings.2.2.2.2.1) rfl rfl rfl (by decide) ⟨Nat.le_refl 0, Nat.le_refl 0⟩ (Nat.le_of_ble_eq_true rfl) ?_
        refine G_cVi (As := [_, _, _]) dX5_split_188 kV_X5_quarterOf wml_X5_67 (sp_X5_quarterOf ht) rfl (cTree ht) rfl rfl rfl (by decide) ⟨Nat.le_refl 0, Nat.le_refl 0⟩ (Nat.le_of_ble_eq_true rfl) ?_
        refine G_iadd dX5_split_191 ?_
        refine G_cVv (As := [_, _]) dX5_split_192 kV_X5_settle wml_X5_112 (sp_X5_settle ht) rfl (cTree ht) rfl rfl rfl (by decide) ⟨Nat.le_refl 0, Nat.le_refl 0⟩ (Nat.le_of_ble_eq_true rfl) ?_
        refine GS_iinc (v := 1) (L' := [(5, _), (4, _), (0, _), (1, _), (2, _)]) dX5_split_195 rfl (by decide) (by decide) rfl ?_
        refine G_goto (tgt := 135) dX5_split_198 (by decide) ?_
        refine G_sub [0, 1, 2, 3, 4] rfl ?_
        rw [nI_1 j]
        first
          | (rw [if_pos c_154] at z; exact z)
          | (rw [if_neg c_154] at z; exact z)
set_option maxHeartbeats 200000 in
theorem sp_X5_split (ht : isTree ly t) (hc : tc S = nI c) (h80 : c ≤ 80) {q : Int32} : Sp K MX5_split 12 0 0 [.ref t, .int q, .ref 1] (hp ly S) (fun v u => v = none ∧ u = hp ly (splS S t q c)) noX := by
  refine Sp_of (by decide) (Nat.le_of_ble_eq_true rfl) ?_
  refine G_aload_n dX5_split_0 rfl ?_
  refine G_iload_n dX5_split_1 rfl ?_
  refine G_cVi (As := [_]) dX5_split_2 kV_X5_halfSide wml_X5_75 (sp_X5_halfSide ht) rfl (cTree ht) rfl rfl rfl (by decide) ⟨Nat.le_refl 0, Nat.le_refl 0⟩ (Nat.le_of_ble_eq_true rfl) ?_
  refine GS_istore_n (L' := [(3, _), (0, _), (1, _), (2, _)]) dX5_split_5 (by decide) rfl ?_
  refine G_aload_n dX5_split_6 rfl ?_
  refine G_get (k := 8) dX5_split_7 (cTree ht) rfl wfl_X5_52 (by decide) rfl ?_
  refine GS_istore (L' := [(4, _), (3, _), (0, _), (1, _), (2, _)]) dX5_split_10 (by decide) rfl ?_
  refine G_aload_n dX5_split_12 rfl ?_
  refine G_get (k := 3) dX5_split_13 (cTree ht) rfl wfl_X5_30 (by decide) rfl ?_
  refine G_iload_n dX5_split_16 rfl ?_
  refine G_iload dX5_split_17 rfl ?_
  refine G_cVv (As := [_, _]) dX5_split_19 kV_X3_put wml_X5_87 (sp_X3_put (tFrom ht)) rfl (cRow (tFrom ht)) rfl rfl rfl (by decide) ⟨Nat.le_refl 0, Nat.le_refl 0⟩ (Nat.le_of_ble_eq_true rfl) ?_
  refine G_iconst (v := 0) dX5_split_22 (by decide) ?_
  refine GS_istore (L' := [(5, _), (4, _), (3, _), (0, _), (1, _), (2, _)]) dX5_split_23 (by decide) rfl ?_
  refine G_sub [0, 1, 2, 3, 4, 5] rfl ?_
  refine lp_split4 (S := setR S (t + 15) (rput (tFr S t) 1205 q (tN S t))) ht ?_ 4 0 (by omega)
  refine G_aload_n dX5_split_123 rfl ?_
  refine G_get (k := 4) dX5_split_124 (cTree ht) rfl wfl_X5_33 (by decide) rfl ?_
  refine G_iload_n dX5_split_127 rfl ?_
  refine G_iconst (v := 4) dX5_split_128 (by decide) ?_
  refine G_cVv (As := [_, _]) dX5_split_129 kV_X3_put wml_X5_87 (sp_X3_put (tCount ht)) rfl (cRow (tCount ht)) rfl rfl rfl (by decide) ⟨Nat.le_refl 0, Nat.le_refl 0⟩ (Nat.le_of_ble_eq_true rfl) ?_
  refine G_iconst (v := 0) dX5_split_132 (by decide) ?_
  refine GS_istore (L' := [(5, _), (4, _), (0, _), (1, _), (2, _)]) dX5_split_133 (by decide) rfl ?_
  refine G_sub [0, 1, 2, 3, 4] rfl ?_
  have z := lp_splitM (K := K) (ly := ly) (c := c) (S := setR (qRun (setR S (t + 15) (rput (tFr S t) 1205 q (tN S t))) t q (halfV S t q) 4) (t + 17) (rput (tCt (qRun (setR S (t + 15) (rput (tFr S t) 1205 q (tN S t))) t q (halfV S t q) 4) t) 1205 q 4)) ht (by rw [tc_setR, tc_qRun (isTree_ne ht).1, tc_setR]; exact hc) h80 (q := q) (first := tN S t) (P := fun v u => v = none ∧ u = hp ly (splS S t q c)) ⟨rfl, rfl⟩ c 0 (by omega)
  exact z
set_option maxHeartbeats 200000 in
theorem lp_growR (ht : isTree ly t) (hc : tc S = nI c) (h80 : c ≤ 80) {layer cap : Int32} {Qc : Array Value → State → Outcome → State → Prop} {XC : String → State → State → Prop} (kk : G K MX5_growQuarters 14 0 0 0 0 70 [(0, .ref t), (1, .ref 1), (2, .int layer), (3, .int cap)] [] (hp ly (rRun S t layer c)) Qc XC) : ∀ m j, j + m = c → G K MX5_growQuarters 14 0 0 0 0 35 [(4, .int (nI j)), (0, .ref t), (1, .ref 1), (2, .int layer), (3, .int cap)] [] (hp ly (rRun S t layer j)) Qc XC := by
  intro m
  induction m with
  | zero =>
    intro j hj
    obtain rfl : j = c := by omega
    refine G_iload dX5_growQuarters_35 rfl ?_
    refine G_aload_n dX5_growQuarters_37 rfl ?_
    refine G_getN (k := 5) dX5_growQuarters_38 cThings rfl wfn_X5_103 (by decide) rfl ?_
    rw [show (rRun S t layer j).2.1 1 5 = nI j from (tc_rRun j).trans hc]
    refine G_icmp_ge (tgt := 70) dX5_growQuarters_41 (by decide) (fun c_41 => ?_) (fun c_41 => ?_)
    · refine G_sub [1, 2, 3, 4] rfl ?_
      exact kk
    · exact absurd (nI_le (Nat.le_refl _) (by omega)) c_41
  | succ m ih =>
    intro j hj
    have z := ih (j + 1) (by omega)
    rw [rRun, rStep] at z
    refine G_iload dX5_growQuarters_35 rfl ?_
    refine G_aload_n dX5_growQuarters_37 rfl ?_
    refine G_getN (k := 5) dX5_growQuarters_38 cThings rfl wfn_X5_103 (by decide) rfl ?_
    rw [show (rRun S t layer j).2.1 1 5 = nI c from (tc_rRun j).trans hc]
    refine G_icmp_ge (tgt := 70) dX5_growQuarters_41 (by decide) (fun c_41 => ?_) (fun c_41 => ?_)
    · exact absurd c_41 (nI_ge (show j < c by omega) (by omega))
    · refine G_aload_n dX5_growQuarters_44 rfl ?_
      refine G_iload dX5_growQuarters_45 rfl ?_
      refine G_iload_n dX5_growQuarters_47 rfl ?_
      refine G_cVi (As := [_, _]) dX5_growQuarters_48 kV_X4_isIn wml_X5_108 sp_X4_isIn rfl cThings rfl rfl rfl (by decide) ⟨Nat.le_refl 0, Nat.le_refl 0⟩ (Nat.le_of_ble_eq_true rfl) ?_
      refine G_if_eq (tgt := 64) dX5_growQuarters_51 (by decide) (fun c_51 => ?_) (fun c_51 => ?_)
      · refine GS_iinc (v := 1) (L' := [(4, _), (0, _), (1, _), (2, _), (3, _)]) dX5_growQuarters_64 rfl (by decide) (by decide) rfl ?_
        refine G_goto (tgt := 35) dX5_growQuarters_67 (by decide) ?_
        refine G_sub [0, 1, 2, 3, 4] rfl ?_
        rw [nI_1 j]
        first
          | (rw [if_pos c_51] at z; exact z)
          | (rw [if_neg c_51] at z; exact z)
      · refine G_aload_n dX5_growQuarters_54 rfl ?_
        refine G_iload dX5_growQuarters_55 rfl ?_
        refine G_aload_n dX5_growQuarters_57 rfl ?_
        refine G_get (k := 9) dX5_growQuarters_58 (cTree ht) rfl wfl_X5_60 (by decide) rfl ?_
        refine G_cVv (As := [_, _]) dX5_growQuarters_61 kV_X5_settle wml_X5_112 (sp_X5_settle ht) rfl (cTree ht) rfl rfl rfl (by decide) ⟨Nat.le_refl 0, Nat.le_refl 0⟩ (Nat.le_of_ble_eq_true rfl) ?_
        refine GS_iinc (v := 1) (L' := [(4, _), (0, _), (1, _), (2, _), (3, _)]) dX5_growQuarters_64 rfl (by decide) (by decide) rfl ?_
        refine G_goto (tgt := 35) dX5_growQuarters_67 (by decide) ?_
        refine G_sub [0, 1, 2, 3, 4] rfl ?_
        rw [nI_1 j]
        first
          | (rw [if_pos c_51] at z; exact z)
          | (rw [if_neg c_51] at z; exact z)
set_option maxHeartbeats 200000 in
theorem lp_growG (ht : isTree ly t) (h80 : c ≤ 80) {layer cap : Int32} {P : Option Value → VH → Prop} : ∀ f sq (S : St), sq + f = 1205 → tc S = nI c → P none (hp ly (gRun S t c cap f sq)) → G K MX5_growQuarters 14 0 0 0 0 73 [(4, .int (nI sq)), (0, .ref t), (1, .ref 1), (2, .int layer), (3, .int cap)] [] (hp ly S) (QcP K P) (XcP K noX) := by
  intro f
  induction f with
  | zero =>
    intro j S hj hc hP
    obtain rfl : j = 1205 := by omega
    refine G_iload dX5_growQuarters_73 rfl ?_
    refine G_sipush (v := 1205) dX5_growQuarters_75 (by decide) ?_
    refine G_icmp_ge (tgt := 125) dX5_growQuarters_78 (by decide) (fun c_78 => ?_) (fun c_78 => ?_)
    · exact G_vret dX5_growQuarters_125 rfl ⟨Nat.le_refl 0, Nat.le_refl 0⟩ hP
    · exact absurd (by decide) c_78
  | succ f ih =>
    intro j S hj hc hP
    rw [gRun] at hP
    refine G_iload dX5_growQuarters_73 rfl ?_
    refine G_sipush (v := 1205) dX5_growQuarters_75 (by decide) ?_
    refine G_icmp_ge (tgt := 125) dX5_growQuarters_78 (by decide) (fun c_78 => ?_) (fun c_78 => ?_)
    · exact absurd c_78 (nI_ge (show j < 1205 by omega) (by decide))
    · refine G_iload dX5_growQuarters_81 rfl ?_
      refine G_aload_n dX5_growQuarters_83 rfl ?_
      refine G_get (k := 8) dX5_growQuarters_84 (cTree ht) rfl wfl_X5_52 (by decide) rfl ?_
      refine G_icmp_ge (tgt := 125) dX5_growQuarters_87 (by decide) (fun c_87 => ?_) (fun c_87 => ?_)
      · exact G_vret dX5_growQuarters_125 rfl ⟨Nat.le_refl 0, Nat.le_refl 0⟩ (by rw [if_neg (fun z => absurd (Int32.lt_of_lt_of_le z c_87) Int32.lt_irrefl)] at hP; exact hP)
      · refine G_aload_n dX5_growQuarters_90 rfl ?_
        refine G_get (k := 2) dX5_growQuarters_91 (cTree ht) rfl wfl_X5_27 (by decide) rfl ?_
        refine G_iload dX5_growQuarters_94 rfl ?_
        refine G_cVi (As := [_]) dX5_growQuarters_96 kV_X3_at wml_X5_48 (sp_X3_at (tHeld ht)) rfl (cRow (tHeld ht)) rfl rfl rfl (by decide) ⟨Nat.le_refl 0, Nat.le_refl 0⟩ (Nat.le_of_ble_eq_true rfl) ?_
        refine G_iload_n dX5_growQuarters_99 rfl ?_
        refine G_icmp_le (tgt := 119) dX5_growQuarters_100 (by decide) (fun c_100 => ?_) (fun c_100 => ?_)
        · refine GS_iinc (v := 1) (L' := [(4, _), (0, _), (1, _), (2, _), (3, _)]) dX5_growQuarters_119 rfl (by decide) (by decide) rfl ?_
          refine G_goto (tgt := 73) dX5_growQuarters_122 (by decide) ?_
          refine G_sub [0, 1, 2, 3, 4] rfl ?_
          rw [nI_1 j]
          rw [if_pos (i32_nle c_87)] at hP
          first
            | (have e : gStep S t c cap j = S := by (unfold gStep; rw [if_neg (fun z => absurd (Int32.lt_of_lt_of_le z.1 c_100) Int32.lt_irrefl)])
               rw [e] at hP
               exact ih (j + 1) _ (by omega) hc hP)
            | (have e : gStep S t c cap j = S := by (unfold gStep; rw [if_neg (fun z => absurd (Int32.lt_of_lt_of_le z.2 c_109) Int32.lt_irrefl)])
               rw [e] at hP
               exact ih (j + 1) _ (by omega) hc hP)
            | (have e : gStep S t c cap j = splS S t (nI j) c := by (unfold gStep; rw [if_pos ⟨i32_nle c_100, i32_nle c_109⟩])
               rw [e] at hP
               exact ih (j + 1) _ (by omega) ((tc_splS (isTree_ne ht).1).trans hc) hP)
        · refine G_aload_n dX5_growQuarters_103 rfl ?_
          refine G_iload dX5_growQuarters_104 rfl ?_
          refine G_cVi (As := [_]) dX5_growQuarters_106 kV_X5_halfSide wml_X5_75 (sp_X5_halfSide ht) rfl (cTree ht) rfl rfl rfl (by decide) ⟨Nat.le_refl 0, Nat.le_refl 0⟩ (Nat.le_of_ble_eq_true rfl) ?_
          refine G_if_le (tgt := 119) dX5_growQuarters_109 (by decide) (fun c_109 => ?_) (fun c_109 => ?_)
          · refine GS_iinc (v := 1) (L' := [(4, _), (0, _), (1, _), (2, _), (3, _)]) dX5_growQuarters_119 rfl (by decide) (by decide) rfl ?_
            refine G_goto (tgt := 73) dX5_growQuarters_122 (by decide) ?_
            refine G_sub [0, 1, 2, 3, 4] rfl ?_
            rw [nI_1 j]
            rw [if_pos (i32_nle c_87)] at hP
            first
              | (have e : gStep S t c cap j = S := by (unfold gStep; rw [if_neg (fun z => absurd (Int32.lt_of_lt_of_le z.1 c_100) Int32.lt_irrefl)])
                 rw [e] at hP
                 exact ih (j + 1) _ (by omega) hc hP)
              | (have e : gStep S t c cap j = S := by (unfold gStep; rw [if_neg (fun z => absurd (Int32.lt_of_lt_of_le z.2 c_109) Int32.lt_irrefl)])
                 rw [e] at hP
                 exact ih (j + 1) _ (by omega) hc hP)
              | (have e : gStep S t c cap j = splS S t (nI j) c := by (unfold gStep; rw [if_pos ⟨i32_nle c_100, i32_nle c_109⟩])
                 rw [e] at hP
                 exact ih (j + 1) _ (by omega) ((tc_splS (isTree_ne ht).1).trans hc) hP)
          · refine G_aload_n dX5_growQuarters_112 rfl ?_
            refine G_iload dX5_growQuarters_113 rfl ?_
            refine G_aload_n dX5_growQuarters_115 rfl ?_
            refine G_cVv (As := [_, _]) dX5_growQuarters_116 kV_X5_split wml_X5_115 (sp_X5_split ht hc h80) rfl (cTree ht) rfl rfl rfl (by decide) ⟨Nat.le_refl 0, Nat.le_refl 0⟩ (Nat.le_of_ble_eq_true rfl) ?_
            refine GS_iinc (v := 1) (L' := [(4, _), (0, _), (1, _), (2, _), (3, _)]) dX5_growQuarters_119 rfl (by decide) (by decide) rfl ?_
            refine G_goto (tgt := 73) dX5_growQuarters_122 (by decide) ?_
            refine G_sub [0, 1, 2, 3, 4] rfl ?_
            rw [nI_1 j]
            rw [if_pos (i32_nle c_87)] at hP
            first
              | (have e : gStep S t c cap j = S := by (unfold gStep; rw [if_neg (fun z => absurd (Int32.lt_of_lt_of_le z.1 c_100) Int32.lt_irrefl)])
                 rw [e] at hP
                 exact ih (j + 1) _ (by omega) hc hP)
              | (have e : gStep S t c cap j = S := by (unfold gStep; rw [if_neg (fun z => absurd (Int32.lt_of_lt_of_le z.2 c_109) Int32.lt_irrefl)])
                 rw [e] at hP
                 exact ih (j + 1) _ (by omega) hc hP)
              | (have e : gStep S t c cap j = splS S t (nI j) c := by (unfold gStep; rw [if_pos ⟨i32_nle c_100, i32_nle c_109⟩])
                 rw [e] at hP
                 exact ih (j + 1) _ (by omega) ((tc_splS (isTree_ne ht).1).trans hc) hP)
set_option maxHeartbeats 200000 in
theorem sp_X5_growQuarters (ht : isTree ly t) (hc : tc S = nI c) (h80 : c ≤ 80) {layer cap : Int32} : Sp K MX5_growQuarters 14 0 0 [.ref t, .ref 1, .int layer, .int cap] (hp ly S) (fun v u => v = none ∧ u = hp ly (growS S t c layer cap)) noX := by
  refine Sp_of (by decide) (Nat.le_of_ble_eq_true rfl) ?_
  refine G_aload_n dX5_growQuarters_0 rfl ?_
  refine G_cVv (As := []) dX5_growQuarters_1 kV_X5_fell wml_X5_94 (sp_X5_fell ht) rfl (cTree ht) rfl rfl rfl (by decide) ⟨Nat.le_refl 0, Nat.le_refl 0⟩ (Nat.le_of_ble_eq_true rfl) ?_
  refine G_aload_n dX5_growQuarters_4 rfl ?_
  refine G_aload_n dX5_growQuarters_5 rfl ?_
  refine G_iconst (v := 0) dX5_growQuarters_6 (by decide) ?_
  refine G_cVi (As := [_]) dX5_growQuarters_7 kV_X5_addNode wml_X5_97 (sp_X5_addNode ht) rfl (cTree ht) rfl rfl rfl (by decide) ⟨Nat.le_refl 0, Nat.le_refl 0⟩ (Nat.le_of_ble_eq_true rfl) ?_
  refine G_setI (k := 9) dX5_growQuarters_10 (sTree ht).1 (sTree ht).2.1 (sTree ht).2.2 rfl rfl wfl_X5_60 (by decide) rfl rfl ?_
  refine G_aload_n dX5_growQuarters_13 rfl ?_
  refine G_get (k := 0) dX5_growQuarters_14 (cTree ht) rfl wfl_X5_14 (by decide) rfl ?_
  refine G_aload_n dX5_growQuarters_17 rfl ?_
  refine G_get (k := 9) dX5_growQuarters_18 (cTree ht) rfl wfl_X5_60 (by decide) rfl ?_
  refine G_iconst (v := 0) dX5_growQuarters_21 (by decide) ?_
  refine G_iconst (v := 0) dX5_growQuarters_22 (by decide) ?_
  refine G_sipush (v := 1023) dX5_growQuarters_23 (by decide) ?_
  refine G_sipush (v := 1023) dX5_growQuarters_26 (by decide) ?_
  refine G_cVv (As := [_, _, _, _, _]) dX5_growQuarters_29 kV_X0_put wml_X5_100 (sp_X0_put (bTree ht)) rfl (cBox (bTree ht)) rfl rfl rfl (by decide) ⟨Nat.le_refl 0, Nat.le_refl 0⟩ (Nat.le_of_ble_eq_true rfl) ?_
  refine G_iconst (v := 0) dX5_growQuarters_32 (by decide) ?_
  refine GS_istore (L' := [(4, _), (0, _), (1, _), (2, _), (3, _)]) dX5_growQuarters_33 (by decide) rfl ?_
  refine G_sub [0, 1, 2, 3, 4] rfl ?_
  refine lp_growR (S := seedS S t) ht ((tc_seedS (isTree_ne ht).1).trans hc) h80 ?_ c 0 (by omega)
  refine G_iconst (v := 0) dX5_growQuarters_70 (by decide) ?_
  refine GS_istore (L' := [(4, _), (0, _), (1, _), (2, _), (3, _)]) dX5_growQuarters_71 (by decide) rfl ?_
  refine G_sub [0, 1, 2, 3, 4] rfl ?_
  exact lp_growG ht h80 1205 0 _ (by omega) ((tc_rRun c).trans ((tc_seedS (isTree_ne ht).1).trans hc)) ⟨rfl, rfl⟩
end GQ
end
section
/-! packing: what orderToPack, cutLeaves, cutNodes and growPacked do, step by step -/
def mapA (φ : Int32 → Int32) (g : Nat → Int32) (j : Nat) : Nat → Int32 := fun k => if k < j then φ (g k) else g k
set_option maxHeartbeats 200000 in
theorem mapA_s {φ : Int32 → Int32} {g : Nat → Int32} {j : Nat} : mapA φ g (j + 1) = upd (mapA φ g j) j (φ (g j)) := by
  funext k
  unfold mapA upd
  by_cases hk : k = j
  · subst hk
    rw [if_pos (by omega), if_pos rfl]
  · rw [if_neg hk]
    show (if k < j + 1 then φ (g k) else g k) = if k < j then φ (g k) else g k
    by_cases q : k < j
    · rw [if_pos q, if_pos (by omega)]
    · rw [if_neg q, if_neg (by omega)]
set_option maxHeartbeats 200000 in
theorem mapA_0 {φ : Int32 → Int32} {g : Nat → Int32} : mapA φ g 0 = g := by funext k; unfold mapA; rw [if_neg (by omega)]
set_option maxHeartbeats 200000 in
theorem mapA_at {φ : Int32 → Int32} {g : Nat → Int32} {j : Nat} : mapA φ g j j = g j := by unfold mapA; rw [if_neg (by omega)]
def fX (S : St) (b n : Nat) (z : Int32) : Int32 := (2 * bX S b n z + bW S b n z) * 128 + z
def fY0 (S : St) (b n : Nat) (z : Int32) : Int32 := (2 * bY S b n z + bH S b n z) * 128 + z
def rem128 (z : Int32) : Int32 := z - z / 128 * 128
def fY (S : St) (b n : Nat) (z : Int32) : Int32 := fY0 S b n (rem128 z)
/-- how many slices, looked for from s on -/
def slN (count fan : Int32) (f s : Nat) : Nat := match f with
  | 0 => s
  | f + 1 => if nI s * nI s * fan < count then slN count fan f (s + 1) else s
set_option maxHeartbeats 200000 in
theorem slN_le {count fan : Int32} : ∀ f s, slN count fan f s ≤ s + f := by
  intro f
  induction f with
  | zero => intro s; exact Nat.le_refl s
  | succ f ih =>
    intro s
    rw [slN]
    split
    · have := ih (s + 1); omega
    · omega
def lenN (m fn : Nat) : Nat := if 1 < slN (nI m) (nI fn) 80 0 * fn then slN (nI m) (nI fn) 80 0 * fn else 1
def soR (f : Nat → Int32) (len n k a : Nat) : Nat → Int32 := match k with
  | 0 => f
  | k + 1 => if a < n then soR (srtA f a a ((if a + len < n then a + len else n) - a)) len n k (a + len) else f
def otp (S : St) (b n m fn : Nat) (g : Nat → Int32) : Nat → Int32 :=
  mapA rem128 (soR (mapA (fY S b n) (srtA (mapA (fX S b n) g m) 0 0 m) m) (lenN m fn) m (m + 1) 0) m
abbrev oS (S : St) (t : Nat) (g : Nat → Int32) : St := setR S (t + 23) g
/-- boxes that the keys are not among -/
def offK (t b : Nat) : Prop := b + 2 ≠ t + 23 ∧ b + 4 ≠ t + 23 ∧ b + 6 ≠ t + 23 ∧ b + 8 ≠ t + 23
set_option maxHeartbeats 200000 in
theorem bX_o {S : St} {t b n : Nat} {g : Nat → Int32} {z : Int32} (h : offK t b) : bX (oS S t g) b n z = bX S b n z := by show rat ((setR S (t + 23) g).1 (b + 2)) n z = _; rw [setR_ne h.1]
set_option maxHeartbeats 200000 in
theorem bY_o {S : St} {t b n : Nat} {g : Nat → Int32} {z : Int32} (h : offK t b) : bY (oS S t g) b n z = bY S b n z := by show rat ((setR S (t + 23) g).1 (b + 4)) n z = _; rw [setR_ne h.2.1]
set_option maxHeartbeats 200000 in
theorem bW_o {S : St} {t b n : Nat} {g : Nat → Int32} {z : Int32} (h : offK t b) : bW (oS S t g) b n z = bW S b n z := by show rat ((setR S (t + 23) g).1 (b + 6)) n z = _; rw [setR_ne h.2.2.1]
set_option maxHeartbeats 200000 in
theorem bH_o {S : St} {t b n : Nat} {g : Nat → Int32} {z : Int32} (h : offK t b) : bH (oS S t g) b n z = bH S b n z := by show rat ((setR S (t + 23) g).1 (b + 8)) n z = _; rw [setR_ne h.2.2.2]
set_option maxHeartbeats 200000 in
theorem ky_o {S : St} {t : Nat} {g : Nat → Int32} : (oS S t g).1 (t + 23) = g := setR_eq
section PK
variable {K : GK} {ly : Nat} {S : St} {t c b n m fn : Nat}

set_option maxHeartbeats 200000 in
theorem lp_slice {h : VH} {count fan : Int32} {P : Option Value → VH → Prop} : ∀ f s, s + f = 80 → P (some (.int (nI (slN count fan f s) * fan))) h → G K MX5_sliceLength 2 0 0 0 0 2 [(2, .int (nI s)), (0, .int count), (1, .int fan)] [] h (QcP K P) (XcP K noX) := by
  intro f
  induction f with
  | zero =>
    intro s hs q
    obtain rfl : s = 80 := by omega
    refine G_iload_n dX5_sliceLength_2 rfl ?_
    refine G_bipush (v := 80) dX5_sliceLength_3 (by decide) ?_
    refine G_icmp_ge (tgt := 23) dX5_sliceLength_5 (by decide) (fun c_5 => ?_) (fun c_5 => ?_)
    · refine G_iload_n dX5_sliceLength_23 rfl ?_
      refine G_iload_n dX5_sliceLength_24 rfl ?_
      refine G_imul dX5_sliceLength_25 ?_
      exact G_iret dX5_sliceLength_26 rfl rfl ⟨Nat.le_refl 0, Nat.le_refl 0⟩ q
    · exact absurd (by decide) c_5
  | succ f ih =>
    intro s hs q
    rw [slN] at q
    refine G_iload_n dX5_sliceLength_2 rfl ?_
    refine G_bipush (v := 80) dX5_sliceLength_3 (by decide) ?_
    refine G_icmp_ge (tgt := 23) dX5_sliceLength_5 (by decide) (fun c_5 => ?_) (fun c_5 => ?_)
    · exact absurd c_5 (nI_ge (show s < 80 by omega) (by decide))
    · refine G_iload_n dX5_sliceLength_8 rfl ?_
      refine G_iload_n dX5_sliceLength_9 rfl ?_
      refine G_imul dX5_sliceLength_10 ?_
      refine G_iload_n dX5_sliceLength_11 rfl ?_
      refine G_imul dX5_sliceLength_12 ?_
      refine G_iload_n dX5_sliceLength_13 rfl ?_
      refine G_icmp_ge (tgt := 23) dX5_sliceLength_14 (by decide) (fun c_14 => ?_) (fun c_14 => ?_)
      · refine G_iload_n dX5_sliceLength_23 rfl ?_
        refine G_iload_n dX5_sliceLength_24 rfl ?_
        refine G_imul dX5_sliceLength_25 ?_
        exact G_iret dX5_sliceLength_26 rfl rfl ⟨Nat.le_refl 0, Nat.le_refl 0⟩ (by rw [if_neg (fun z => absurd (Int32.lt_of_lt_of_le z c_14) Int32.lt_irrefl)] at q; exact q)
      · refine GS_iinc (v := 1) (L' := [(2, _), (0, _), (1, _)]) dX5_sliceLength_17 rfl (by decide) (by decide) rfl ?_
        refine G_goto (tgt := 2) dX5_sliceLength_20 (by decide) ?_
        refine G_sub [0, 1, 2] rfl ?_
        rw [nI_1 s]
        rw [if_pos (i32_nle c_14)] at q
        exact ih (s + 1) (by omega) q
set_option maxHeartbeats 200000 in
theorem sp_X5_sliceLength {h : VH} {count fan : Int32} : Sp K MX5_sliceLength 2 0 0 [.int count, .int fan] h (fun v u => v = some (.int (nI (slN count fan 80 0) * fan)) ∧ u = h) noX := by
  refine Sp_of (by decide) (Nat.le_of_ble_eq_true rfl) ?_
  refine G_iconst (v := 0) dX5_sliceLength_0 (by decide) ?_
  refine GS_istore_n (L' := [(2, _), (0, _), (1, _)]) dX5_sliceLength_1 (by decide) rfl ?_
  refine G_sub [0, 1, 2] rfl ?_
  exact lp_slice 80 0 rfl ⟨rfl, rfl⟩
set_option maxHeartbeats 200000 in
theorem lp_otp1 (ht : isTree ly t) (hb : isBoxes ly b n) (ho : offK t b) (hm : m ≤ 80) {g : Nat → Int32} {Qc : Array Value → State → Outcome → State → Prop} {XC : String → State → State → Prop} (kk : G K MX5_orderToPack 8 0 0 0 0 48 [(0, .ref t), (1, .ref b), (2, .int (nI m)), (3, .int (nI fn))] [] (hp ly (oS S t (mapA (fX S b n) g m))) Qc XC) : ∀ d j, j + d = m → G K MX5_orderToPack 8 0 0 0 0 3 [(4, .int (nI j)), (0, .ref t), (1, .ref b), (2, .int (nI m)), (3, .int (nI fn))] [] (hp ly (oS S t (mapA (fX S b n) g j))) Qc XC := by
  intro d
  induction d with
  | zero =>
    intro j hj
    obtain rfl : j = m := by omega
    refine G_iload dX5_orderToPack_3 rfl ?_
    refine G_iload_n dX5_orderToPack_5 rfl ?_
    refine G_icmp_ge (tgt := 48) dX5_orderToPack_6 (by decide) (fun c_6 => ?_) (fun c_6 => ?_)
    · refine G_sub [1, 2, 3, 4] rfl ?_
      exact kk
    · exact absurd (nI_le (Nat.le_refl _) (by omega)) c_6
  | succ d ih =>
    intro j hj
    have hj8 : j < 80 := by omega
    have z := ih (j + 1) (by omega)
    rw [mapA_s] at z
    have e0 : rat ((oS S t (mapA (fX S b n) g j)).1 (t + 23)) 80 (nI j) = g j := by rw [rat_nI hj8 (by decide), ky_o, mapA_at]
    refine G_iload dX5_orderToPack_3 rfl ?_
    refine G_iload_n dX5_orderToPack_5 rfl ?_
    refine G_icmp_ge (tgt := 48) dX5_orderToPack_6 (by decide) (fun c_6 => ?_) (fun c_6 => ?_)
    · exact absurd c_6 (nI_ge (show j < m by omega) (by omega))
    · refine G_aload_n dX5_orderToPack_9 rfl ?_
      refine G_get (k := 7) dX5_orderToPack_10 (cTree ht) rfl wfl_X5_42 (by decide) rfl ?_
      refine G_iload dX5_orderToPack_13 rfl ?_
      refine G_cVi (As := [_]) dX5_orderToPack_15 kV_X3_at wml_X5_48 (sp_X3_at (tKeys ht)) rfl (cRow (tKeys ht)) rfl rfl rfl (by decide) ⟨Nat.le_refl 0, Nat.le_refl 0⟩ (Nat.le_of_ble_eq_true rfl) ?_
      refine GS_istore (L' := [(5, _), (4, _), (0, _), (1, _), (2, _), (3, _)]) dX5_orderToPack_18 (by decide) rfl ?_
      refine G_aload_n dX5_orderToPack_20 rfl ?_
      refine G_get (k := 7) dX5_orderToPack_21 (cTree ht) rfl wfl_X5_42 (by decide) rfl ?_
      refine G_iload dX5_orderToPack_24 rfl ?_
      refine G_aload_n dX5_orderToPack_26 rfl ?_
      refine G_iload dX5_orderToPack_27 rfl ?_
      refine G_cVi (As := [_]) dX5_orderToPack_29 kV_X0_twiceMiddleX wml_X5_131 (sp_X0_twiceMiddleX hb) rfl (cBox hb) rfl rfl rfl (by decide) ⟨Nat.le_refl 0, Nat.le_refl 0⟩ (Nat.le_of_ble_eq_true rfl) ?_
      refine G_sipush (v := 128) dX5_orderToPack_32 (by decide) ?_
      refine G_imul dX5_orderToPack_35 ?_
      refine G_iload dX5_orderToPack_36 rfl ?_
      refine G_iadd dX5_orderToPack_38 ?_
      refine G_cVv (As := [_, _]) dX5_orderToPack_39 kV_X3_put wml_X5_87 (sp_X3_put (tKeys ht)) rfl (cRow (tKeys ht)) rfl rfl rfl (by decide) ⟨Nat.le_refl 0, Nat.le_refl 0⟩ (Nat.le_of_ble_eq_true rfl) ?_
      refine GS_iinc (v := 1) (L' := [(4, _), (5, _), (0, _), (1, _), (2, _), (3, _)]) dX5_orderToPack_42 rfl (by decide) (by decide) rfl ?_
      refine G_goto (tgt := 3) dX5_orderToPack_45 (by decide) ?_
      refine G_sub [0, 2, 3, 4, 5] rfl ?_
      rw [nI_1 j]
      rw [e0, bX_o ho, bW_o ho, setR_twice, rput_nI hj8 (by decide), ky_o]
      exact z
set_option maxHeartbeats 200000 in
theorem lp_otp2 (ht : isTree ly t) (hb : isBoxes ly b n) (ho : offK t b) (hm : m ≤ 80) {g : Nat → Int32} {Qc : Array Value → State → Outcome → State → Prop} {XC : String → State → State → Prop} (kk : G K MX5_orderToPack 8 0 0 0 0 109 [(0, .ref t), (1, .ref b), (2, .int (nI m)), (3, .int (nI fn))] [] (hp ly (oS S t (mapA (fY S b n) g m))) Qc XC) : ∀ d j, j + d = m → G K MX5_orderToPack 8 0 0 0 0 60 [(4, .int (nI j)), (0, .ref t), (1, .ref b), (2, .int (nI m)), (3, .int (nI fn))] [] (hp ly (oS S t (mapA (fY S b n) g j))) Qc XC := by
  intro d
  induction d with
  | zero =>
    intro j hj
    obtain rfl : j = m := by omega
    refine G_iload dX5_orderToPack_60 rfl ?_
    refine G_iload_n dX5_orderToPack_62 rfl ?_
    refine G_icmp_ge (tgt := 109) dX5_orderToPack_63 (by decide) (fun c_63 => ?_) (fun c_63 => ?_)
    · refine G_sub [1, 2, 3, 4] rfl ?_
      exact kk
    · exact absurd (nI_le (Nat.le_refl _) (by omega)) c_63
  | succ d ih =>
    intro j hj
    have hj8 : j < 80 := by omega
    have z := ih (j + 1) (by omega)
    rw [mapA_s] at z
    have e0 : rat ((oS S t (mapA (fY S b n) g j)).1 (t + 23)) 80 (nI j) = g j := by rw [rat_nI hj8 (by decide), ky_o, mapA_at]
    refine G_iload dX5_orderToPack_60 rfl ?_
    refine G_iload_n dX5_orderToPack_62 rfl ?_
    refine G_icmp_ge (tgt := 109) dX5_orderToPack_63 (by decide) (fun c_63 => ?_) (fun c_63 => ?_)
    · exact absurd c_63 (nI_ge (show j < m by omega) (by omega))
    · refine G_aload_n dX5_orderToPack_66 rfl ?_
      refine G_get (k := 7) dX5_orderToPack_67 (cTree ht) rfl wfl_X5_42 (by decide) rfl ?_
      refine G_iload dX5_orderToPack_70 rfl ?_
      refine G_cVi (As := [_]) dX5_orderToPack_72 kV_X3_at wml_X5_48 (sp_X3_at (tKeys ht)) rfl (cRow (tKeys ht)) rfl rfl rfl (by decide) ⟨Nat.le_refl 0, Nat.le_refl 0⟩ (Nat.le_of_ble_eq_true rfl) ?_
      refine G_sipush (v := 128) dX5_orderToPack_75 (by decide) ?_
      refine G_irem dX5_orderToPack_78 (by decide) ?_
      refine GS_istore (L' := [(5, _), (4, _), (0, _), (1, _), (2, _), (3, _)]) dX5_orderToPack_79 (by decide) rfl ?_
      refine G_aload_n dX5_orderToPack_81 rfl ?_
      refine G_get (k := 7) dX5_orderToPack_82 (cTree ht) rfl wfl_X5_42 (by decide) rfl ?_
      refine G_iload dX5_orderToPack_85 rfl ?_
      refine G_aload_n dX5_orderToPack_87 rfl ?_
      refine G_iload dX5_orderToPack_88 rfl ?_
      refine G_cVi (As := [_]) dX5_orderToPack_90 kV_X0_twiceMiddleY wml_X5_137 (sp_X0_twiceMiddleY hb) rfl (cBox hb) rfl rfl rfl (by decide) ⟨Nat.le_refl 0, Nat.le_refl 0⟩ (Nat.le_of_ble_eq_true rfl) ?_
      refine G_sipush (v := 128) dX5_orderToPack_93 (by decide) ?_
      refine G_imul dX5_orderToPack_96 ?_
      refine G_iload dX5_orderToPack_97 rfl ?_
      refine G_iadd dX5_orderToPack_99 ?_
      refine G_cVv (As := [_, _]) dX5_orderToPack_100 kV_X3_put wml_X5_87 (sp_X3_put (tKeys ht)) rfl (cRow (tKeys ht)) rfl rfl rfl (by decide) ⟨Nat.le_refl 0, Nat.le_refl 0⟩ (Nat.le_of_ble_eq_true rfl) ?_
      refine GS_iinc (v := 1) (L' := [(4, _), (5, _), (0, _), (1, _), (2, _), (3, _)]) dX5_orderToPack_103 rfl (by decide) (by decide) rfl ?_
      refine G_goto (tgt := 60) dX5_orderToPack_106 (by decide) ?_
      refine G_sub [0, 2, 3, 4, 5] rfl ?_
      rw [nI_1 j]
      rw [e0, bY_o ho, bH_o ho, setR_twice, rput_nI hj8 (by decide), ky_o]
      exact z
set_option maxHeartbeats 200000 in
theorem lp_otp4 (ht : isTree ly t) (hb : isBoxes ly b n) (ho : offK t b) (hm : m ≤ 80) {g : Nat → Int32} {Qc : Array Value → State → Outcome → State → Prop} {XC : String → State → State → Prop} (kk : G K MX5_orderToPack 8 0 0 0 0 194 [(0, .ref t), (1, .ref b), (2, .int (nI m)), (3, .int (nI fn))] [] (hp ly (oS S t (mapA (rem128) g m))) Qc XC) : ∀ d j, j + d = m → G K MX5_orderToPack 8 0 0 0 0 160 [(5, .int (nI j)), (0, .ref t), (1, .ref b), (2, .int (nI m)), (3, .int (nI fn))] [] (hp ly (oS S t (mapA (rem128) g j))) Qc XC := by
  intro d
  induction d with
  | zero =>
    intro j hj
    obtain rfl : j = m := by omega
    refine G_iload dX5_orderToPack_160 rfl ?_
    refine G_iload_n dX5_orderToPack_162 rfl ?_
    refine G_icmp_ge (tgt := 194) dX5_orderToPack_163 (by decide) (fun c_163 => ?_) (fun c_163 => ?_)
    · refine G_sub [1, 2, 3, 4] rfl ?_
      exact kk
    · exact absurd (nI_le (Nat.le_refl _) (by omega)) c_163
  | succ d ih =>
    intro j hj
    have hj8 : j < 80 := by omega
    have z := ih (j + 1) (by omega)
    rw [mapA_s] at z
    have e0 : rat ((oS S t (mapA (rem128) g j)).1 (t + 23)) 80 (nI j) = g j := by rw [rat_nI hj8 (by decide), ky_o, mapA_at]
    refine G_iload dX5_orderToPack_160 rfl ?_
    refine G_iload_n dX5_orderToPack_162 rfl ?_
    refine G_icmp_ge (tgt := 194) dX5_orderToPack_163 (by decide) (fun c_163 => ?_) (fun c_163 => ?_)
    · exact absurd c_163 (nI_ge (show j < m by omega) (by omega))
    · refine G_aload_n dX5_orderToPack_166 rfl ?_
      refine G_get (k := 7) dX5_orderToPack_167 (cTree ht) rfl wfl_X5_42 (by decide) rfl ?_
      refine G_iload dX5_orderToPack_170 rfl ?_
      refine G_aload_n dX5_orderToPack_172 rfl ?_
      refine G_get (k := 7) dX5_orderToPack_173 (cTree ht) rfl wfl_X5_42 (by decide) rfl ?_
      refine G_iload dX5_orderToPack_176 rfl ?_
      refine G_cVi (As := [_]) dX5_orderToPack_178 kV_X3_at wml_X5_48 (sp_X3_at (tKeys ht)) rfl (cRow (tKeys ht)) rfl rfl rfl (by decide) ⟨Nat.le_refl 0, Nat.le_refl 0⟩ (Nat.le_of_ble_eq_true rfl) ?_
      refine G_sipush (v := 128) dX5_orderToPack_181 (by decide) ?_
      refine G_irem dX5_orderToPack_184 (by decide) ?_
      refine G_cVv (As := [_, _]) dX5_orderToPack_185 kV_X3_put wml_X5_87 (sp_X3_put (tKeys ht)) rfl (cRow (tKeys ht)) rfl rfl rfl (by decide) ⟨Nat.le_refl 0, Nat.le_refl 0⟩ (Nat.le_of_ble_eq_true rfl) ?_
      refine GS_iinc (v := 1) (L' := [(5, _), (0, _), (1, _), (2, _), (3, _)]) dX5_orderToPack_188 rfl (by decide) (by decide) rfl ?_
      refine G_goto (tgt := 160) dX5_orderToPack_191 (by decide) ?_
      refine G_sub [0, 1, 2, 3, 4] rfl ?_
      rw [nI_1 j]
      rw [e0, setR_twice, rput_nI hj8 (by decide), ky_o]
      exact z
set_option maxHeartbeats 200000 in
theorem lp_otp3 (ht : isTree ly t) (hm : m ≤ 80) {len : Nat} (hlen : 1 ≤ len) (hl2 : len ≤ 700) {Qc : Array Value → State → Outcome → State → Prop} {XC : String → State → State → Prop} : ∀ k a (g : Nat → Int32), a ≤ m + len → m < a + k → (G K MX5_orderToPack 8 0 0 0 0 157 [(0, .ref t), (1, .ref b), (2, .int (nI m)), (3, .int (nI fn))] [] (hp ly (oS S t (soR g len m k a))) Qc XC) → G K MX5_orderToPack 8 0 0 0 0 123 [(5, .int (nI a)), (4, .int (nI len)), (0, .ref t), (1, .ref b), (2, .int (nI m)), (3, .int (nI fn))] [] (hp ly (oS S t g)) Qc XC := by
  intro k
  induction k with
  | zero =>
    intro a g ha hk kk
    refine G_iload dX5_orderToPack_123 rfl ?_
    refine G_iload_n dX5_orderToPack_125 rfl ?_
    refine G_icmp_ge (tgt := 157) dX5_orderToPack_126 (by decide) (fun c_126 => ?_) (fun c_126 => ?_)
    · refine G_sub [2, 3, 4, 5] rfl ?_
      exact kk
    · exact absurd (nI_le (show m ≤ a by omega) (by omega)) c_126
  | succ k ih =>
    intro a g ha hk kk
    rw [soR] at kk
    rcases Nat.lt_or_ge a m with h1 | h1
    · rw [if_pos h1] at kk
      have hmin : (if nI m < nI (a + len) then nI m else nI (a + len)) = nI (if a + len < m then a + len else m) := by
        rcases Nat.lt_or_ge (a + len) m with q | q
        · rw [if_neg (nI_nlt (by omega) (by omega)), if_pos q]
        · rcases Nat.lt_or_ge m (a + len) with q2 | q2
          · rw [if_pos (nI_lt q2 (by omega)), if_neg (by omega)]
          · rw [if_neg (nI_nlt q2 (by omega)), if_neg (by omega), show a + len = m by omega]
      refine G_iload dX5_orderToPack_123 rfl ?_
      refine G_iload_n dX5_orderToPack_125 rfl ?_
      refine G_icmp_ge (tgt := 157) dX5_orderToPack_126 (by decide) (fun c_126 => ?_) (fun c_126 => ?_)
      · exact absurd c_126 (nI_ge h1 (by omega))
      · refine G_aload_n dX5_orderToPack_129 rfl ?_
        refine G_get (k := 7) dX5_orderToPack_130 (cTree ht) rfl wfl_X5_42 (by decide) rfl ?_
        refine G_iload dX5_orderToPack_133 rfl ?_
        refine G_iload dX5_orderToPack_135 rfl ?_
        refine G_iload dX5_orderToPack_137 rfl ?_
        refine G_iadd dX5_orderToPack_139 ?_
        rw [nI_add a len]
        refine G_iload_n dX5_orderToPack_140 rfl ?_
        refine G_min dX5_orderToPack_141 wml_X5_148 (by decide) ⟨Nat.le_refl 0, Nat.le_refl 0⟩ (Nat.le_of_ble_eq_true rfl) ?_
        rw [hmin]
        refine G_cVv (As := [_, _]) dX5_orderToPack_144 kV_X3_sortPart wml_X5_134 (sp_X3_sortPart (a0 := a) (b0 := if a + len < m then a + len else m) (tKeys ht) (by decide) (by split <;> omega) (by split <;> omega)) rfl (cRow (tKeys ht)) rfl rfl rfl (by decide) ⟨Nat.le_refl 0, Nat.le_refl 0⟩ (Nat.le_of_ble_eq_true rfl) ?_
        refine G_iload dX5_orderToPack_147 rfl ?_
        refine G_iload dX5_orderToPack_149 rfl ?_
        refine G_iadd dX5_orderToPack_151 ?_
        refine GS_istore (L' := [(5, _), (4, _), (0, _), (1, _), (2, _), (3, _)]) dX5_orderToPack_152 (by decide) rfl ?_
        refine G_goto (tgt := 123) dX5_orderToPack_154 (by decide) ?_
        refine G_sub [0, 1, 2, 3, 4, 5] rfl ?_
        rw [nI_add a len, setR_twice, ky_o]
        exact ih (a + len) _ (by omega) (by omega) kk
    · rw [if_neg (by omega)] at kk
      refine G_iload dX5_orderToPack_123 rfl ?_
      refine G_iload_n dX5_orderToPack_125 rfl ?_
      refine G_icmp_ge (tgt := 157) dX5_orderToPack_126 (by decide) (fun c_126 => ?_) (fun c_126 => ?_)
      · refine G_sub [2, 3, 4, 5] rfl ?_
        exact kk
      · exact absurd (nI_le h1 (by omega)) c_126
set_option maxHeartbeats 200000 in
theorem sp_X5_orderToPack (ht : isTree ly t) (hb : isBoxes ly b n) (ho : offK t b) (hm : m ≤ 80) (hf : fn ≤ 8) : Sp K MX5_orderToPack 8 0 0 [.ref t, .ref b, .int (nI m), .int (nI fn)] (hp ly S) (fun v u => v = none ∧ u = hp ly (setR S (t + 23) (otp S b n m fn (tKy S t)))) noX := by
  refine Sp_of (by decide) (Nat.le_of_ble_eq_true rfl) ?_
  have hs := slN_le (count := nI m) (fan := nI fn) 80 0
  have hs7 : slN (nI m) (nI fn) 80 0 * fn ≤ 640 := Nat.le_trans (Nat.mul_le_mul hs hf) (by omega)
  have hl7 : lenN m fn ≤ 700 := by unfold lenN; split <;> omega
  have hlen : (if (1 : Int32) < nI (slN (nI m) (nI fn) 80 0 * fn) then nI (slN (nI m) (nI fn) 80 0 * fn) else 1) = nI (lenN m fn) := by
    rw [show (1 : Int32) = nI 1 from rfl]
    unfold lenN
    rcases Nat.lt_or_ge 1 (slN (nI m) (nI fn) 80 0 * fn) with q | q
    · rw [if_pos (nI_lt q (by omega)), if_pos q]
    · rw [if_neg (nI_nlt q (by decide)), if_neg (Nat.not_lt.mpr q)]
  refine G_iconst (v := 0) dX5_orderToPack_0 (by decide) ?_
  refine GS_istore (L' := [(4, _), (0, _), (1, _), (2, _), (3, _)]) dX5_orderToPack_1 (by decide) rfl ?_
  refine G_sub [0, 1, 2, 3, 4] rfl ?_
  have z := lp_otp1 (K := K) (ly := ly) (S := S) (t := t) (b := b) (n := n) (m := m) (fn := fn) ht hb ho hm (g := tKy S t) (Qc := QcP K (fun v u => v = none ∧ u = hp ly (setR S (t + 23) (otp S b n m fn (tKy S t))))) (XC := XcP K noX) (by
    refine G_aload_n dX5_orderToPack_48 rfl ?_
    refine G_get (k := 7) dX5_orderToPack_49 (cTree ht) rfl wfl_X5_42 (by decide) rfl ?_
    refine G_iconst (v := 0) dX5_orderToPack_52 (by decide) ?_
    refine G_iload_n dX5_orderToPack_53 rfl ?_
    refine G_cVv (As := [_, _]) dX5_orderToPack_54 kV_X3_sortPart wml_X5_134 (sp_X3_sortPart (a0 := 0) (b0 := m) (tKeys ht) (by decide) (Nat.zero_le _) hm) rfl (cRow (tKeys ht)) rfl rfl rfl (by decide) ⟨Nat.le_refl 0, Nat.le_refl 0⟩ (Nat.le_of_ble_eq_true rfl) ?_
    refine G_iconst (v := 0) dX5_orderToPack_57 (by decide) ?_
    refine GS_istore (L' := [(4, _), (0, _), (1, _), (2, _), (3, _)]) dX5_orderToPack_58 (by decide) rfl ?_
    refine G_sub [0, 1, 2, 3, 4] rfl ?_
    rw [setR_twice, ky_o]
    have z := lp_otp2 (K := K) (ly := ly) (S := S) (t := t) (b := b) (n := n) (m := m) (fn := fn) ht hb ho hm (g := srtA (mapA (fX S b n) (tKy S t) m) 0 0 m) (Qc := QcP K (fun v u => v = none ∧ u = hp ly (setR S (t + 23) (otp S b n m fn (tKy S t))))) (XC := XcP K noX) (by
      refine G_iconst (v := 1) dX5_orderToPack_109 (by decide) ?_
      refine G_iload_n dX5_orderToPack_110 rfl ?_
      refine G_iload_n dX5_orderToPack_111 rfl ?_
      refine G_cSi (As := [_, _]) dX5_orderToPack_112 kT_X5_sliceLength wml_X5_140 sp_X5_sliceLength rfl rfl (by decide) ⟨Nat.le_refl 0, Nat.le_refl 0⟩ (Nat.le_of_ble_eq_true rfl) ?_
      rw [show nI (slN (nI m) (nI fn) 80 0) * nI fn = nI (slN (nI m) (nI fn) 80 0 * fn) from pk_mul _ _]
      refine G_max dX5_orderToPack_115 wml_X5_143 (by decide) ⟨Nat.le_refl 0, Nat.le_refl 0⟩ (Nat.le_of_ble_eq_true rfl) ?_
      rw [hlen]
      refine GS_istore (L' := [(4, _), (0, _), (1, _), (2, _), (3, _)]) dX5_orderToPack_118 (by decide) rfl ?_
      refine G_iconst (v := 0) dX5_orderToPack_120 (by decide) ?_
      refine GS_istore (L' := [(5, _), (4, _), (0, _), (1, _), (2, _), (3, _)]) dX5_orderToPack_121 (by decide) rfl ?_
      refine G_sub [0, 1, 2, 3, 4, 5] rfl ?_
      refine lp_otp3 (S := S) ht hm (len := lenN m fn) (by unfold lenN; split <;> omega) hl7 (m + 1) 0 _ (by omega) (by omega) ?_
      refine G_iconst (v := 0) dX5_orderToPack_157 (by decide) ?_
      refine GS_istore (L' := [(5, _), (0, _), (1, _), (2, _), (3, _)]) dX5_orderToPack_158 (by decide) rfl ?_
      refine G_sub [0, 1, 2, 3, 4] rfl ?_
      have z := lp_otp4 (K := K) (ly := ly) (S := S) (t := t) (b := b) (n := n) (m := m) (fn := fn) ht hb ho hm (g := soR (mapA (fY S b n) (srtA (mapA (fX S b n) (tKy S t) m) 0 0 m) m) (lenN m fn) m (m + 1) 0) (Qc := QcP K (fun v u => v = none ∧ u = hp ly (setR S (t + 23) (otp S b n m fn (tKy S t))))) (XC := XcP K noX) (by
        exact G_vret dX5_orderToPack_194 rfl ⟨Nat.le_refl 0, Nat.le_refl 0⟩ ⟨rfl, rfl⟩) m 0 (by omega)
      rw [mapA_0] at z
      exact z) m 0 (by omega)
    rw [mapA_0] at z
    exact z) m 0 (by omega)
  rw [mapA_0, show oS S t (tKy S t) = S from setR_self] at z
  exact z
end PK
end
section
def boxAs (S : St) (t : Nat) (a : Int32) (b n : Nat) (z : Int32) : St := bput S (t + 1) 1205 a (bX S b n z) (bY S b n z) (bW S b n z) (bH S b n z)
def clStep (t b n : Nat) (fan : Int32) (p : St × Int32) (i : Nat) : St × Int32 :=
  if p.2 = -1 ∨ fan ≤ rat (tHd p.1 t) 1205 p.2 then
    (settS (strS (boxAs (addNS p.1 t 0) t (tN p.1 t) b n (rat (tKy p.1 t) 80 (nI i))) (t + 1) 1205 (tN p.1 t) b n (rat (tKy p.1 t) 80 (nI i))) t (rat (tKy p.1 t) 80 (nI i)) (tN p.1 t), tN p.1 t)
  else (settS (strS p.1 (t + 1) 1205 p.2 b n (rat (tKy p.1 t) 80 (nI i))) t (rat (tKy p.1 t) 80 (nI i)) p.2, p.2)
def clRun (S : St) (t b n : Nat) (fan : Int32) (i : Nat) : St × Int32 := match i with
  | 0 => (S, -1)
  | i + 1 => clStep t b n fan (clRun S t b n fan i) i
def cnEnd (S : St) (t : Nat) (i a z : Int32) : St :=
  let S4 := strS S (t + 1) 1205 a (t + 1) 1205 z
  let S5 := setR S4 (t + 19) (rput (tBl S4 t) 1205 i z)
  setR S5 (t + 17) (rput (tCt S5 t) 1205 a (tCt S5 t a.toNatClampNeg + 1))
def cnNew (S : St) (t : Nat) (level i z : Int32) : St :=
  let S2 := boxAs (addNS S t level) t (tN S t) (t + 1) 1205 z
  setR S2 (t + 15) (rput (tFr S2 t) 1205 (tN S t) i)
def cnStep (t s : Nat) (fan level : Int32) (p : St × Int32) (j : Nat) : St × Int32 :=
  if p.2 = -1 ∨ fan ≤ rat (tCt p.1 t) 1205 p.2 then (cnEnd (cnNew p.1 t level (nI (s + j)) (rat (tKy p.1 t) 80 (nI j))) t (nI (s + j)) (tN p.1 t) (rat (tKy p.1 t) 80 (nI j)), tN p.1 t)
  else (cnEnd p.1 t (nI (s + j)) p.2 (rat (tKy p.1 t) 80 (nI j)), p.2)
def cnRun (S : St) (t s : Nat) (fan level : Int32) (j : Nat) : St × Int32 := match j with
  | 0 => (S, -1)
  | j + 1 => cnStep t s fan level (cnRun S t s fan level j) j
def filN (s : Nat) (g : Nat → Int32) (j : Nat) : Nat → Int32 := fun k => if k < j then nI (s + k) else g k
set_option maxHeartbeats 200000 in
theorem filN_s {s : Nat} {g : Nat → Int32} {j : Nat} : filN s g (j + 1) = upd (filN s g j) j (nI (s + j)) := by
  funext k
  unfold filN upd
  by_cases hk : k = j
  · subst hk
    rw [if_pos (by omega), if_pos rfl]
  · rw [if_neg hk]
    show (if k < j + 1 then nI (s + k) else g k) = if k < j then nI (s + k) else g k
    by_cases q : k < j
    · rw [if_pos q, if_pos (by omega)]
    · rw [if_neg q, if_neg (by omega)]
set_option maxHeartbeats 200000 in
theorem filN_0 {s : Nat} {g : Nat → Int32} : filN s g 0 = g := by funext k; unfold filN; rw [if_neg (by omega)]
def gpPre (S : St) (t fn s N : Nat) : St :=
  let S1 := setR S (t + 23) (filN s (tKy S t) (N - s))
  setR S1 (t + 23) (otp S1 (t + 1) 1205 (N - s) fn (tKy S1 t))
def gpStep (S : St) (t fn s N level : Nat) : St := (cnRun (gpPre S t fn s N) t s (nI fn) (nI level) (N - s)).1
def nN (S : St) (t : Nat) : Nat := (tN S t).toNatClampNeg
def gpR (S : St) (t fn f s level : Nat) : St := match f with
  | 0 => S
  | f + 1 => if 1 < nN S t - s then gpR (gpStep S t fn s (nN S t) level) t fn f (nN S t) (level + 1) else S
def gpOk (S : St) (t fn f s level : Nat) : Prop := match f with
  | 0 => True
  | f + 1 => tN S t = nI (nN S t) ∧ s ≤ nN S t ∧ nN S t ≤ s + 80 ∧ nN S t ≤ 1205 ∧ (1 < nN S t - s → gpOk (gpStep S t fn s (nN S t) level) t fn f (nN S t) (level + 1))
def pk1 (S : St) (t c : Nat) (layer : Int32) : St := setR (fellS S t) (t + 23) (kfil (tKy (fellS S t) t) (inL (fellS S t) layer) nI c)
def pk3 (S : St) (t c fn : Nat) (layer : Int32) : St := (clRun (setR (pk1 S t c layer) (t + 23) (otp (pk1 S t c layer) 2 80 (cnt (inL (fellS S t) layer) c) fn (tKy (pk1 S t c layer) t))) t 2 80 (nI fn) (cnt (inL (fellS S t) layer) c)).1
def growP (S : St) (t c fn : Nat) (layer : Int32) : St := if cnt (inL (fellS S t) layer) c = 0 then pk1 S t c layer else setI (gpR (pk3 S t c fn layer) t fn 10 0 1) t 9 (tN (gpR (pk3 S t c fn layer) t fn 10 0 1) t - 1)
section PL
variable {K : GK} {ly : Nat} {S : St} {t c b n m fn : Nat}
set_option maxHeartbeats 200000 in
theorem lp_cutLeaves (ht : isTree ly t) (hb : isBoxes ly b n) (hm : m ≤ 80) {fan : Int32} {P : Option Value → VH → Prop} (hP : P none (hp ly (clRun S t b n fan m).1)) : ∀ d j, j + d = m → G K MX5_cutLeaves 10 0 0 0 0 6 [(5, .int (nI j)), (4, .int (clRun S t b n fan j).2), (0, .ref t), (1, .ref b), (2, .int (nI m)), (3, .int fan)] [] (hp ly (clRun S t b n fan j).1) (QcP K P) (XcP K noX) := by
  intro d
  induction d with
  | zero =>
    intro j hj
    obtain rfl : j = m := by omega
    refine G_iload dX5_cutLeaves_6 rfl ?_
    refine G_iload_n dX5_cutLeaves_8 rfl ?_
    refine G_icmp_ge (tgt := 84) dX5_cutLeaves_9 (by decide) (fun c_9 => ?_) (fun c_9 => ?_)
    · exact G_vret dX5_cutLeaves_84 rfl ⟨Nat.le_refl 0, Nat.le_refl 0⟩ hP
    · exact absurd (nI_le (Nat.le_refl _) (by omega)) c_9
  | succ d ih =>
    intro j hj
    have z := ih (j + 1) (by omega)
    rw [clRun, clStep] at z
    refine G_iload dX5_cutLeaves_6 rfl ?_
    refine G_iload_n dX5_cutLeaves_8 rfl ?_
    refine G_icmp_ge (tgt := 84) dX5_cutLeaves_9 (by decide) (fun c_9 => ?_) (fun c_9 => ?_)
    · exact absurd c_9 (nI_ge (show j < m by omega) (by omega))
    · refine G_aload_n dX5_cutLeaves_12 rfl ?_
      refine G_get (k := 7) dX5_cutLeaves_13 (cTree ht) rfl wfl_X5_42 (by decide) rfl ?_
      refine G_iload dX5_cutLeaves_16 rfl ?_
      refine G_cVi (As := [_]) dX5_cutLeaves_18 kV_X3_at wml_X5_48 (sp_X3_at (tKeys ht)) rfl (cRow (tKeys ht)) rfl rfl rfl (by decide) ⟨Nat.le_refl 0, Nat.le_refl 0⟩ (Nat.le_of_ble_eq_true rfl) ?_
      refine GS_istore (L' := [(6, _), (5, _), (4, _), (0, _), (1, _), (2, _), (3, _)]) dX5_cutLeaves_21 (by decide) rfl ?_
      refine G_iload dX5_cutLeaves_23 rfl ?_
      refine G_iconst (v := (-1)) dX5_cutLeaves_25 (by decide) ?_
      refine G_icmp_eq (tgt := 42) dX5_cutLeaves_26 (by decide) (fun c_26 => ?_) (fun c_26 => ?_)
      · refine G_aload_n dX5_cutLeaves_42 rfl ?_
        refine G_iconst (v := 0) dX5_cutLeaves_43 (by decide) ?_
        refine G_cVi (As := [_]) dX5_cutLeaves_44 kV_X5_addNode wml_X5_97 (sp_X5_addNode ht) rfl (cTree ht) rfl rfl rfl (by decide) ⟨Nat.le_refl 0, Nat.le_refl 0⟩ (Nat.le_of_ble_eq_true rfl) ?_
        refine GS_istore (L' := [(4, _), (6, _), (5, _), (0, _), (1, _), (2, _), (3, _)]) dX5_cutLeaves_47 (by decide) rfl ?_
        refine G_aload_n dX5_cutLeaves_49 rfl ?_
        refine G_iload dX5_cutLeaves_50 rfl ?_
        refine G_aload_n dX5_cutLeaves_52 rfl ?_
        refine G_iload dX5_cutLeaves_53 rfl ?_
        refine G_cVv (As := [_, _, _]) dX5_cutLeaves_55 kV_X5_copyBox wml_X5_151 (sp_X5_copyBox ht hb) rfl (cTree ht) rfl rfl rfl (by decide) ⟨Nat.le_refl 0, Nat.le_refl 0⟩ (Nat.le_of_ble_eq_true rfl) ?_
        refine G_aload_n dX5_cutLeaves_58 rfl ?_
        refine G_get (k := 0) dX5_cutLeaves_59 (cTree ht) rfl wfl_X5_14 (by decide) rfl ?_
        refine G_iload dX5_cutLeaves_62 rfl ?_
        refine G_aload_n dX5_cutLeaves_64 rfl ?_
        refine G_iload dX5_cutLeaves_65 rfl ?_
        refine G_cVv (As := [_, _, _]) dX5_cutLeaves_67 kV_X0_stretchOver wml_X5_155 (sp_X0_stretchOver (bTree ht) hb) rfl (cBox (bTree ht)) rfl rfl rfl (by decide) ⟨Nat.le_refl 0, Nat.le_refl 0⟩ (Nat.le_of_ble_eq_true rfl) ?_
        refine G_aload_n dX5_cutLeaves_70 rfl ?_
        refine G_iload dX5_cutLeaves_71 rfl ?_
        refine G_iload dX5_cutLeaves_73 rfl ?_
        refine G_cVv (As := [_, _]) dX5_cutLeaves_75 kV_X5_settle wml_X5_112 (sp_X5_settle ht) rfl (cTree ht) rfl rfl rfl (by decide) ⟨Nat.le_refl 0, Nat.le_refl 0⟩ (Nat.le_of_ble_eq_true rfl) ?_
        refine GS_iinc (v := 1) (L' := [(5, _), (4, _), (6, _), (0, _), (1, _), (2, _), (3, _)]) dX5_cutLeaves_78 rfl (by decide) (by decide) rfl ?_
        refine G_goto (tgt := 6) dX5_cutLeaves_81 (by decide) ?_
        refine G_sub [0, 1, 3, 4, 5, 6] rfl ?_
        rw [nI_1 j]
        first
          | (rw [if_pos (Or.inl c_26)] at z; exact z)
          | (rw [if_pos (Or.inr (i32_nlt c_39))] at z; exact z)
          | (rw [if_neg (fun q => q.elim c_26 (fun q => absurd (Int32.lt_of_lt_of_le c_39 q) Int32.lt_irrefl))] at z; exact z)
      · refine G_aload_n dX5_cutLeaves_29 rfl ?_
        refine G_get (k := 2) dX5_cutLeaves_30 (cTree ht) rfl wfl_X5_27 (by decide) rfl ?_
        refine G_iload dX5_cutLeaves_33 rfl ?_
        refine G_cVi (As := [_]) dX5_cutLeaves_35 kV_X3_at wml_X5_48 (sp_X3_at (tHeld ht)) rfl (cRow (tHeld ht)) rfl rfl rfl (by decide) ⟨Nat.le_refl 0, Nat.le_refl 0⟩ (Nat.le_of_ble_eq_true rfl) ?_
        refine G_iload_n dX5_cutLeaves_38 rfl ?_
        refine G_icmp_lt (tgt := 58) dX5_cutLeaves_39 (by decide) (fun c_39 => ?_) (fun c_39 => ?_)
        · refine G_aload_n dX5_cutLeaves_58 rfl ?_
          refine G_get (k := 0) dX5_cutLeaves_59 (cTree ht) rfl wfl_X5_14 (by decide) rfl ?_
          refine G_iload dX5_cutLeaves_62 rfl ?_
          refine G_aload_n dX5_cutLeaves_64 rfl ?_
          refine G_iload dX5_cutLeaves_65 rfl ?_
          refine G_cVv (As := [_, _, _]) dX5_cutLeaves_67 kV_X0_stretchOver wml_X5_155 (sp_X0_stretchOver (bTree ht) hb) rfl (cBox (bTree ht)) rfl rfl rfl (by decide) ⟨Nat.le_refl 0, Nat.le_refl 0⟩ (Nat.le_of_ble_eq_true rfl) ?_
          refine G_aload_n dX5_cutLeaves_70 rfl ?_
          refine G_iload dX5_cutLeaves_71 rfl ?_
          refine G_iload dX5_cutLeaves_73 rfl ?_
          refine G_cVv (As := [_, _]) dX5_cutLeaves_75 kV_X5_settle wml_X5_112 (sp_X5_settle ht) rfl (cTree ht) rfl rfl rfl (by decide) ⟨Nat.le_refl 0, Nat.le_refl 0⟩ (Nat.le_of_ble_eq_true rfl) ?_
          refine GS_iinc (v := 1) (L' := [(5, _), (6, _), (4, _), (0, _), (1, _), (2, _), (3, _)]) dX5_cutLeaves_78 rfl (by decide) (by decide) rfl ?_
          refine G_goto (tgt := 6) dX5_cutLeaves_81 (by decide) ?_
          refine G_sub [0, 2, 3, 4, 5, 6] rfl ?_
          rw [nI_1 j]
          first
            | (rw [if_pos (Or.inl c_26)] at z; exact z)
            | (rw [if_pos (Or.inr (i32_nlt c_39))] at z; exact z)
            | (rw [if_neg (fun q => q.elim c_26 (fun q => absurd (Int32.lt_of_lt_of_le c_39 q) Int32.lt_irrefl))] at z; exact z)
        · refine G_aload_n dX5_cutLeaves_42 rfl ?_
          refine G_iconst (v := 0) dX5_cutLeaves_43 (by decide) ?_
          refine G_cVi (As := [_]) dX5_cutLeaves_44 kV_X5_addNode wml_X5_97 (sp_X5_addNode ht) rfl (cTree ht) rfl rfl rfl (by decide) ⟨Nat.le_refl 0, Nat.le_refl 0⟩ (Nat.le_of_ble_eq_true rfl) ?_
          refine GS_istore (L' := [(4, _), (6, _), (5, _), (0, _), (1, _), (2, _), (3, _)]) dX5_cutLeaves_47 (by decide) rfl ?_
          refine G_aload_n dX5_cutLeaves_49 rfl ?_
          refine G_iload dX5_cutLeaves_50 rfl ?_
          refine G_aload_n dX5_cutLeaves_52 rfl ?_
          refine G_iload dX5_cutLeaves_53 rfl ?_
          refine G_cVv (As := [_, _, _]) dX5_cutLeaves_55 kV_X5_copyBox wml_X5_151 (sp_X5_copyBox ht hb) rfl (cTree ht) rfl rfl rfl (by decide) ⟨Nat.le_refl 0, Nat.le_refl 0⟩ (Nat.le_of_ble_eq_true rfl) ?_
          refine G_aload_n dX5_cutLeaves_58 rfl ?_
          refine G_get (k := 0) dX5_cutLeaves_59 (cTree ht) rfl wfl_X5_14 (by decide) rfl ?_
          refine G_iload dX5_cutLeaves_62 rfl ?_
          refine G_aload_n dX5_cutLeaves_64 rfl ?_
          refine G_iload dX5_cutLeaves_65 rfl ?_
          refine G_cVv (As := [_, _, _]) dX5_cutLeaves_67 kV_X0_stretchOver wml_X5_155 (sp_X0_stretchOver (bTree ht) hb) rfl (cBox (bTree ht)) rfl rfl rfl (by decide) ⟨Nat.le_refl 0, Nat.le_refl 0⟩ (Nat.le_of_ble_eq_true rfl) ?_
          refine G_aload_n dX5_cutLeaves_70 rfl ?_
          refine G_iload dX5_cutLeaves_71 rfl ?_
          refine G_iload dX5_cutLeaves_73 rfl ?_
          refine G_cVv (As := [_, _]) dX5_cutLeaves_75 kV_X5_settle wml_X5_112 (sp_X5_settle ht) rfl (cTree ht) rfl rfl rfl (by decide) ⟨Nat.le_refl 0, Nat.le_refl 0⟩ (Nat.le_of_ble_eq_true rfl) ?_
          refine GS_iinc (v := 1) (L' := [(5, _), (4, _), (6, _), (0, _), (1, _), (2, _), (3, _)]) dX5_cutLeaves_78 rfl (by decide) (by decide) rfl ?_
          refine G_goto (tgt := 6) dX5_cutLeaves_81 (by decide) ?_
          refine G_sub [0, 1, 3, 4, 5, 6] rfl ?_
          rw [nI_1 j]
          first
            | (rw [if_pos (Or.inl c_26)] at z; exact z)
            | (rw [if_pos (Or.inr (i32_nlt c_39))] at z; exact z)
            | (rw [if_neg (fun q => q.elim c_26 (fun q => absurd (Int32.lt_of_lt_of_le c_39 q) Int32.lt_irrefl))] at z; exact z)
set_option maxHeartbeats 200000 in
theorem sp_X5_cutLeaves (ht : isTree ly t) (hb : isBoxes ly b n) (hm : m ≤ 80) {fan : Int32} : Sp K MX5_cutLeaves 10 0 0 [.ref t, .ref b, .int (nI m), .int fan] (hp ly S) (fun v u => v = none ∧ u = hp ly (clRun S t b n fan m).1) noX := by
  refine Sp_of (by decide) (Nat.le_of_ble_eq_true rfl) ?_
  refine G_iconst (v := (-1)) dX5_cutLeaves_0 (by decide) ?_
  refine GS_istore (L' := [(4, _), (0, _), (1, _), (2, _), (3, _)]) dX5_cutLeaves_1 (by decide) rfl ?_
  refine G_iconst (v := 0) dX5_cutLeaves_3 (by decide) ?_
  refine GS_istore (L' := [(5, _), (4, _), (0, _), (1, _), (2, _), (3, _)]) dX5_cutLeaves_4 (by decide) rfl ?_
  refine G_sub [0, 1, 2, 3, 4, 5] rfl ?_
  exact lp_cutLeaves (S := S) ht hb hm ⟨rfl, rfl⟩ m 0 (by omega)
set_option maxHeartbeats 200000 in
theorem lp_cutNodes (ht : isTree ly t) {s : Nat} (hm : s + m ≤ 1205) {fan level : Int32} {P : Option Value → VH → Prop} (hP : P none (hp ly (cnRun S t s fan level m).1)) : ∀ d j, j + d = m → G K MX5_cutNodes 10 0 0 0 0 6 [(6, .int (nI (s + j))), (5, .int (cnRun S t s fan level j).2), (0, .ref t), (1, .int (nI s)), (2, .int (nI (s + m))), (3, .int fan), (4, .int level)] [] (hp ly (cnRun S t s fan level j).1) (QcP K P) (XcP K noX) := by
  intro d
  induction d with
  | zero =>
    intro j hj
    obtain rfl : j = m := by omega
    refine G_iload dX5_cutNodes_6 rfl ?_
    refine G_iload_n dX5_cutNodes_8 rfl ?_
    refine G_icmp_ge (tgt := 117) dX5_cutNodes_9 (by decide) (fun c_9 => ?_) (fun c_9 => ?_)
    · exact G_vret dX5_cutNodes_117 rfl ⟨Nat.le_refl 0, Nat.le_refl 0⟩ hP
    · exact absurd (nI_le (Nat.le_refl _) (by omega)) c_9
  | succ d ih =>
    intro j hj
    have z := ih (j + 1) (by omega)
    rw [cnRun, cnStep] at z
    have esub : nI (s + j) - nI s = nI j := by rw [pk_sub (by omega), Nat.add_sub_cancel_left]
    refine G_iload dX5_cutNodes_6 rfl ?_
    refine G_iload_n dX5_cutNodes_8 rfl ?_
    refine G_icmp_ge (tgt := 117) dX5_cutNodes_9 (by decide) (fun c_9 => ?_) (fun c_9 => ?_)
    · exact absurd c_9 (nI_ge (show s + j < s + m by omega) (by omega))
    · refine G_aload_n dX5_cutNodes_12 rfl ?_
      refine G_get (k := 7) dX5_cutNodes_13 (cTree ht) rfl wfl_X5_42 (by decide) rfl ?_
      refine G_iload dX5_cutNodes_16 rfl ?_
      refine G_iload_n dX5_cutNodes_18 rfl ?_
      refine G_isub dX5_cutNodes_19 ?_
      rw [esub]
      refine G_cVi (As := [_]) dX5_cutNodes_20 kV_X3_at wml_X5_48 (sp_X3_at (tKeys ht)) rfl (cRow (tKeys ht)) rfl rfl rfl (by decide) ⟨Nat.le_refl 0, Nat.le_refl 0⟩ (Nat.le_of_ble_eq_true rfl) ?_
      refine GS_istore (L' := [(7, _), (6, _), (5, _), (0, _), (1, _), (2, _), (3, _), (4, _)]) dX5_cutNodes_23 (by decide) rfl ?_
      refine G_iload dX5_cutNodes_25 rfl ?_
      refine G_iconst (v := (-1)) dX5_cutNodes_27 (by decide) ?_
      refine G_icmp_eq (tgt := 44) dX5_cutNodes_28 (by decide) (fun c_28 => ?_) (fun c_28 => ?_)
      · refine G_aload_n dX5_cutNodes_44 rfl ?_
        refine G_iload dX5_cutNodes_45 rfl ?_
        refine G_cVi (As := [_]) dX5_cutNodes_47 kV_X5_addNode wml_X5_97 (sp_X5_addNode ht) rfl (cTree ht) rfl rfl rfl (by decide) ⟨Nat.le_refl 0, Nat.le_refl 0⟩ (Nat.le_of_ble_eq_true rfl) ?_
        refine GS_istore (L' := [(5, _), (7, _), (6, _), (0, _), (1, _), (2, _), (3, _), (4, _)]) dX5_cutNodes_50 (by decide) rfl ?_
        refine G_aload_n dX5_cutNodes_52 rfl ?_
        refine G_iload dX5_cutNodes_53 rfl ?_
        refine G_aload_n dX5_cutNodes_55 rfl ?_
        refine G_get (k := 0) dX5_cutNodes_56 (cTree ht) rfl wfl_X5_14 (by decide) rfl ?_
        refine G_iload dX5_cutNodes_59 rfl ?_
        refine G_cVv (As := [_, _, _]) dX5_cutNodes_61 kV_X5_copyBox wml_X5_151 (sp_X5_copyBox ht (bTree ht)) rfl (cTree ht) rfl rfl rfl (by decide) ⟨Nat.le_refl 0, Nat.le_refl 0⟩ (Nat.le_of_ble_eq_true rfl) ?_
        refine G_aload_n dX5_cutNodes_64 rfl ?_
        refine G_get (k := 3) dX5_cutNodes_65 (cTree ht) rfl wfl_X5_30 (by decide) rfl ?_
        refine G_iload dX5_cutNodes_68 rfl ?_
        refine G_iload dX5_cutNodes_70 rfl ?_
        refine G_cVv (As := [_, _]) dX5_cutNodes_72 kV_X3_put wml_X5_87 (sp_X3_put (tFrom ht)) rfl (cRow (tFrom ht)) rfl rfl rfl (by decide) ⟨Nat.le_refl 0, Nat.le_refl 0⟩ (Nat.le_of_ble_eq_true rfl) ?_
        refine G_aload_n dX5_cutNodes_75 rfl ?_
        refine G_get (k := 0) dX5_cutNodes_76 (cTree ht) rfl wfl_X5_14 (by decide) rfl ?_
        refine G_iload dX5_cutNodes_79 rfl ?_
        refine G_aload_n dX5_cutNodes_81 rfl ?_
        refine G_get (k := 0) dX5_cutNodes_82 (cTree ht) rfl wfl_X5_14 (by decide) rfl ?_
        refine G_iload dX5_cutNodes_85 rfl ?_
        refine G_cVv (As := [_, _, _]) dX5_cutNodes_87 kV_X0_stretchOver wml_X5_155 (sp_X0_stretchOver (bTree ht) (bTree ht)) rfl (cBox (bTree ht)) rfl rfl rfl (by decide) ⟨Nat.le_refl 0, Nat.le_refl 0⟩ (Nat.le_of_ble_eq_true rfl) ?_
        refine G_aload_n dX5_cutNodes_90 rfl ?_
        refine G_get (k := 5) dX5_cutNodes_91 (cTree ht) rfl wfl_X5_36 (by decide) rfl ?_
        refine G_iload dX5_cutNodes_94 rfl ?_
        refine G_iload dX5_cutNodes_96 rfl ?_
        refine G_cVv (As := [_, _]) dX5_cutNodes_98 kV_X3_put wml_X5_87 (sp_X3_put (tBelow ht)) rfl (cRow (tBelow ht)) rfl rfl rfl (by decide) ⟨Nat.le_refl 0, Nat.le_refl 0⟩ (Nat.le_of_ble_eq_true rfl) ?_
        refine G_aload_n dX5_cutNodes_101 rfl ?_
        refine G_get (k := 4) dX5_cutNodes_102 (cTree ht) rfl wfl_X5_33 (by decide) rfl ?_
        refine G_iload dX5_cutNodes_105 rfl ?_
        refine G_iconst (v := 1) dX5_cutNodes_107 (by decide) ?_
        refine G_cVv (As := [_, _]) dX5_cutNodes_108 kV_X3_addTo wml_X5_91 (sp_X3_addTo (tCount ht)) rfl (cRow (tCount ht)) rfl rfl rfl (by decide) ⟨Nat.le_refl 0, Nat.le_refl 0⟩ (Nat.le_of_ble_eq_true rfl) ?_
        refine GS_iinc (v := 1) (L' := [(6, _), (5, _), (7, _), (0, _), (1, _), (2, _), (3, _), (4, _)]) dX5_cutNodes_111 rfl (by decide) (by decide) rfl ?_
        refine G_goto (tgt := 6) dX5_cutNodes_114 (by decide) ?_
        refine G_sub [0, 1, 3, 4, 5, 6, 7] rfl ?_
        rw [nI_1 (s + j)]
        first
          | (rw [if_pos (Or.inl c_28)] at z; exact z)
          | (rw [if_pos (Or.inr (i32_nlt c_41))] at z; exact z)
          | (rw [if_neg (fun q => q.elim c_28 (fun q => absurd (Int32.lt_of_lt_of_le c_41 q) Int32.lt_irrefl))] at z; exact z)
      · refine G_aload_n dX5_cutNodes_31 rfl ?_
        refine G_get (k := 4) dX5_cutNodes_32 (cTree ht) rfl wfl_X5_33 (by decide) rfl ?_
        refine G_iload dX5_cutNodes_35 rfl ?_
        refine G_cVi (As := [_]) dX5_cutNodes_37 kV_X3_at wml_X5_48 (sp_X3_at (tCount ht)) rfl (cRow (tCount ht)) rfl rfl rfl (by decide) ⟨Nat.le_refl 0, Nat.le_refl 0⟩ (Nat.le_of_ble_eq_true rfl) ?_
        refine G_iload_n dX5_cutNodes_40 rfl ?_
        refine G_icmp_lt (tgt := 75) dX5_cutNodes_41 (by decide) (fun c_41 => ?_) (fun c_41 => ?_)
        · refine G_aload_n dX5_cutNodes_75 rfl ?_
          refine G_get (k := 0) dX5_cutNodes_76 (cTree ht) rfl wfl_X5_14 (by decide) rfl ?_
          refine G_iload dX5_cutNodes_79 rfl ?_
          refine G_aload_n dX5_cutNodes_81 rfl ?_
          refine G_get (k := 0) dX5_cutNodes_82 (cTree ht) rfl wfl_X5_14 (by decide) rfl ?_
          refine G_iload dX5_cutNodes_85 rfl ?_
          refine G_cVv (As := [_, _, _]) dX5_cutNodes_87 kV_X0_stretchOver wml_X5_155 (sp_X0_stretchOver (bTree ht) (bTree ht)) rfl (cBox (bTree ht)) rfl rfl rfl (by decide) ⟨Nat.le_refl 0, Nat.le_refl 0⟩ (Nat.le_of_ble_eq_true rfl) ?_
          refine G_aload_n dX5_cutNodes_90 rfl ?_
          refine G_get (k := 5) dX5_cutNodes_91 (cTree ht) rfl wfl_X5_36 (by decide) rfl ?_
          refine G_iload dX5_cutNodes_94 rfl ?_
          refine G_iload dX5_cutNodes_96 rfl ?_
          refine G_cVv (As := [_, _]) dX5_cutNodes_98 kV_X3_put wml_X5_87 (sp_X3_put (tBelow ht)) rfl (cRow (tBelow ht)) rfl rfl rfl (by decide) ⟨Nat.le_refl 0, Nat.le_refl 0⟩ (Nat.le_of_ble_eq_true rfl) ?_
          refine G_aload_n dX5_cutNodes_101 rfl ?_
          refine G_get (k := 4) dX5_cutNodes_102 (cTree ht) rfl wfl_X5_33 (by decide) rfl ?_
          refine G_iload dX5_cutNodes_105 rfl ?_
          refine G_iconst (v := 1) dX5_cutNodes_107 (by decide) ?_
          refine G_cVv (As := [_, _]) dX5_cutNodes_108 kV_X3_addTo wml_X5_91 (sp_X3_addTo (tCount ht)) rfl (cRow (tCount ht)) rfl rfl rfl (by decide) ⟨Nat.le_refl 0, Nat.le_refl 0⟩ (Nat.le_of_ble_eq_true rfl) ?_
          refine GS_iinc (v := 1) (L' := [(6, _), (7, _), (5, _), (0, _), (1, _), (2, _), (3, _), (4, _)]) dX5_cutNodes_111 rfl (by decide) (by decide) rfl ?_
          refine G_goto (tgt := 6) dX5_cutNodes_114 (by decide) ?_
          refine G_sub [0, 2, 3, 4, 5, 6, 7] rfl ?_
          rw [nI_1 (s + j)]
          first
            | (rw [if_pos (Or.inl c_28)] at z; exact z)
            | (rw [if_pos (Or.inr (i32_nlt c_41))] at z; exact z)
            | (rw [if_neg (fun q => q.elim c_28 (fun q => absurd (Int32.lt_of_lt_of_le c_41 q) Int32.lt_irrefl))] at z; exact z)
        · refine G_aload_n dX5_cutNodes_44 rfl ?_
          refine G_iload dX5_cutNodes_45 rfl ?_
          refine G_cVi (As := [_]) dX5_cutNodes_47 kV_X5_addNode wml_X5_97 (sp_X5_addNode ht) rfl (cTree ht) rfl rfl rfl (by decide) ⟨Nat.le_refl 0, Nat.le_refl 0⟩ (Nat.le_of_ble_eq_true rfl) ?_
          refine GS_istore (L' := [(5, _), (7, _), (6, _), (0, _), (1, _), (2, _), (3, _), (4, _)]) dX5_cutNodes_50 (by decide) rfl ?_
          refine G_aload_n dX5_cutNodes_52 rfl ?_
          refine G_iload dX5_cutNodes_53 rfl ?_
          refine G_aload_n dX5_cutNodes_55 rfl ?_
          refine G_get (k := 0) dX5_cutNodes_56 (cTree ht) rfl wfl_X5_14 (by decide) rfl ?_
          refine G_iload dX5_cutNodes_59 rfl ?_
          refine G_cVv (As := [_, _, _]) dX5_cutNodes_61 kV_X5_copyBox wml_X5_151 (sp_X5_copyBox ht (bTree ht)) rfl (cTree ht) rfl rfl rfl (by decide) ⟨Nat.le_refl 0, Nat.le_refl 0⟩ (Nat.le_of_ble_eq_true rfl) ?_
          refine G_aload_n dX5_cutNodes_64 rfl ?_
          refine G_get (k := 3) dX5_cutNodes_65 (cTree ht) rfl wfl_X5_30 (by decide) rfl ?_
          refine G_iload dX5_cutNodes_68 rfl ?_
          refine G_iload dX5_cutNodes_70 rfl ?_
          refine G_cVv (As := [_, _]) dX5_cutNodes_72 kV_X3_put wml_X5_87 (sp_X3_put (tFrom ht)) rfl (cRow (tFrom ht)) rfl rfl rfl (by decide) ⟨Nat.le_refl 0, Nat.le_refl 0⟩ (Nat.le_of_ble_eq_true rfl) ?_
          refine G_aload_n dX5_cutNodes_75 rfl ?_
          refine G_get (k := 0) dX5_cutNodes_76 (cTree ht) rfl wfl_X5_14 (by decide) rfl ?_
          refine G_iload dX5_cutNodes_79 rfl ?_
          refine G_aload_n dX5_cutNodes_81 rfl ?_
          refine G_get (k := 0) dX5_cutNodes_82 (cTree ht) rfl wfl_X5_14 (by decide) rfl ?_
          refine G_iload dX5_cutNodes_85 rfl ?_
          refine G_cVv (As := [_, _, _]) dX5_cutNodes_87 kV_X0_stretchOver wml_X5_155 (sp_X0_stretchOver (bTree ht) (bTree ht)) rfl (cBox (bTree ht)) rfl rfl rfl (by decide) ⟨Nat.le_refl 0, Nat.le_refl 0⟩ (Nat.le_of_ble_eq_true rfl) ?_
          refine G_aload_n dX5_cutNodes_90 rfl ?_
          refine G_get (k := 5) dX5_cutNodes_91 (cTree ht) rfl wfl_X5_36 (by decide) rfl ?_
          refine G_iload dX5_cutNodes_94 rfl ?_
          refine G_iload dX5_cutNodes_96 rfl ?_
          refine G_cVv (As := [_, _]) dX5_cutNodes_98 kV_X3_put wml_X5_87 (sp_X3_put (tBelow ht)) rfl (cRow (tBelow ht)) rfl rfl rfl (by decide) ⟨Nat.le_refl 0, Nat.le_refl 0⟩ (Nat.le_of_ble_eq_true rfl) ?_
          refine G_aload_n dX5_cutNodes_101 rfl ?_
          refine G_get (k := 4) dX5_cutNodes_102 (cTree ht) rfl wfl_X5_33 (by decide) rfl ?_
          refine G_iload dX5_cutNodes_105 rfl ?_
          refine G_iconst (v := 1) dX5_cutNodes_107 (by decide) ?_
          refine G_cVv (As := [_, _]) dX5_cutNodes_108 kV_X3_addTo wml_X5_91 (sp_X3_addTo (tCount ht)) rfl (cRow (tCount ht)) rfl rfl rfl (by decide) ⟨Nat.le_refl 0, Nat.le_refl 0⟩ (Nat.le_of_ble_eq_true rfl) ?_
          refine GS_iinc (v := 1) (L' := [(6, _), (5, _), (7, _), (0, _), (1, _), (2, _), (3, _), (4, _)]) dX5_cutNodes_111 rfl (by decide) (by decide) rfl ?_
          refine G_goto (tgt := 6) dX5_cutNodes_114 (by decide) ?_
          refine G_sub [0, 1, 3, 4, 5, 6, 7] rfl ?_
          rw [nI_1 (s + j)]
          first
            | (rw [if_pos (Or.inl c_28)] at z; exact z)
            | (rw [if_pos (Or.inr (i32_nlt c_41))] at z; exact z)
            | (rw [if_neg (fun q => q.elim c_28 (fun q => absurd (Int32.lt_of_lt_of_le c_41 q) Int32.lt_irrefl))] at z; exact z)
set_option maxHeartbeats 200000 in
theorem sp_X5_cutNodes (ht : isTree ly t) {s : Nat} (hm : s + m ≤ 1205) {fan level : Int32} : Sp K MX5_cutNodes 10 0 0 [.ref t, .int (nI s), .int (nI (s + m)), .int fan, .int level] (hp ly S) (fun v u => v = none ∧ u = hp ly (cnRun S t s fan level m).1) noX := by
  refine Sp_of (by decide) (Nat.le_of_ble_eq_true rfl) ?_
  refine G_iconst (v := (-1)) dX5_cutNodes_0 (by decide) ?_
  refine GS_istore (L' := [(5, _), (0, _), (1, _), (2, _), (3, _), (4, _)]) dX5_cutNodes_1 (by decide) rfl ?_
  refine G_iload_n dX5_cutNodes_3 rfl ?_
  refine GS_istore (L' := [(6, _), (5, _), (0, _), (1, _), (2, _), (3, _), (4, _)]) dX5_cutNodes_4 (by decide) rfl ?_
  refine G_sub [0, 1, 2, 3, 4, 5, 6] rfl ?_
  exact lp_cutNodes (S := S) ht hm ⟨rfl, rfl⟩ m 0 (by omega)
set_option maxHeartbeats 200000 in
theorem lp_growPf (ht : isTree ly t) (hc : tc S = nI c) (h80 : c ≤ 80) {layer fan : Int32} {Qc : Array Value → State → Outcome → State → Prop} {XC : String → State → State → Prop} (kk : G K MX5_growPacked 14 0 0 0 0 49 [(4, .int (nI (cnt (inL S layer) c))), (0, .ref t), (1, .ref 1), (2, .int layer), (3, .int fan)] [] (hp ly (setR S (t + 23) (kfil (tKy S t) (inL S layer) nI c))) Qc XC) : ∀ d j, j + d = c → G K MX5_growPacked 14 0 0 0 0 10 [(5, .int (nI j)), (4, .int (nI (cnt (inL S layer) j))), (0, .ref t), (1, .ref 1), (2, .int layer), (3, .int fan)] [] (hp ly (setR S (t + 23) (kfil (tKy S t) (inL S layer) nI j))) Qc XC := by
  intro d
  have h12 : 12 ≠ t + 23 := by have := (isTree_ne ht).2.2.1; omega
  induction d with
  | zero =>
    intro j hj
    obtain rfl : j = c := by omega
    refine G_iload dX5_growPacked_10 rfl ?_
    refine G_aload_n dX5_growPacked_12 rfl ?_
    refine G_getN (k := 5) dX5_growPacked_13 cThings rfl wfn_X5_103 (by decide) rfl ?_
    rw [show (setR S (t + 23) (kfil (tKy S t) (inL S layer) nI j)).2.1 1 5 = nI j from hc]
    refine G_icmp_ge (tgt := 49) dX5_growPacked_16 (by decide) (fun c_16 => ?_) (fun c_16 => ?_)
    · refine G_sub [1, 2, 3, 4, 5] rfl ?_
      exact kk
    · exact absurd (nI_le (Nat.le_refl _) (by omega)) c_16
  | succ d ih =>
    intro j hj
    have hj8 : j < 80 := by omega
    have hm := cnt_le (inL S layer) j
    have z := ih (j + 1) (by omega)
    have hin : isin (setR S (t + 23) (kfil (tKy S t) (inL S layer) nI j)) (nI j) layer = isin S (nI j) layer := by show (if rat ((setR S (t + 23) _).1 12) 80 (nI j) = layer then (1 : Int32) else 0) = _; rw [setR_ne h12]; rfl
    refine G_iload dX5_growPacked_10 rfl ?_
    refine G_aload_n dX5_growPacked_12 rfl ?_
    refine G_getN (k := 5) dX5_growPacked_13 cThings rfl wfn_X5_103 (by decide) rfl ?_
    rw [show (setR S (t + 23) (kfil (tKy S t) (inL S layer) nI j)).2.1 1 5 = nI c from hc]
    refine G_icmp_ge (tgt := 49) dX5_growPacked_16 (by decide) (fun c_16 => ?_) (fun c_16 => ?_)
    · exact absurd c_16 (nI_ge (show j < c by omega) (by omega))
    · refine G_aload_n dX5_growPacked_19 rfl ?_
      refine G_iload dX5_growPacked_20 rfl ?_
      refine G_iload_n dX5_growPacked_22 rfl ?_
      refine G_cVi (As := [_, _]) dX5_growPacked_23 kV_X4_isIn wml_X5_108 sp_X4_isIn rfl cThings rfl rfl rfl (by decide) ⟨Nat.le_refl 0, Nat.le_refl 0⟩ (Nat.le_of_ble_eq_true rfl) ?_
      refine G_if_eq (tgt := 43) dX5_growPacked_26 (by decide) (fun c_26 => ?_) (fun c_26 => ?_)
      · refine GS_iinc (v := 1) (L' := [(5, _), (4, _), (0, _), (1, _), (2, _), (3, _)]) dX5_growPacked_43 rfl (by decide) (by decide) rfl ?_
        refine G_goto (tgt := 10) dX5_growPacked_46 (by decide) ?_
        refine G_sub [0, 1, 2, 3, 4, 5] rfl ?_
        rw [hin] at c_26
        rw [nI_1 j]
        first
          | (have e : inL S layer j = false := isin_f (S := S) hj8 c_26; rw [cnt_f e, kfil_f e] at z; exact z)
          | (have e : inL S layer j = true := isin_t (S := S) hj8 c_26; rw [cnt_t e, kfil_t e] at z; rw [nI_1, setR_twice, rput_nI (show cnt (inL S layer) j < 80 by omega) (by decide), setR_eq]; exact z)
      · refine G_aload_n dX5_growPacked_29 rfl ?_
        refine G_get (k := 7) dX5_growPacked_30 (cTree ht) rfl wfl_X5_42 (by decide) rfl ?_
        refine G_iload dX5_growPacked_33 rfl ?_
        refine G_iload dX5_growPacked_35 rfl ?_
        refine G_cVv (As := [_, _]) dX5_growPacked_37 kV_X3_put wml_X5_87 (sp_X3_put (tKeys ht)) rfl (cRow (tKeys ht)) rfl rfl rfl (by decide) ⟨Nat.le_refl 0, Nat.le_refl 0⟩ (Nat.le_of_ble_eq_true rfl) ?_
        refine GS_iinc (v := 1) (L' := [(4, _), (5, _), (0, _), (1, _), (2, _), (3, _)]) dX5_growPacked_40 rfl (by decide) (by decide) rfl ?_
        refine GS_iinc (v := 1) (L' := [(5, _), (4, _), (0, _), (1, _), (2, _), (3, _)]) dX5_growPacked_43 rfl (by decide) (by decide) rfl ?_
        refine G_goto (tgt := 10) dX5_growPacked_46 (by decide) ?_
        refine G_sub [0, 1, 2, 3, 4, 5] rfl ?_
        rw [hin] at c_26
        rw [nI_1 j]
        first
          | (have e : inL S layer j = false := isin_f (S := S) hj8 c_26; rw [cnt_f e, kfil_f e] at z; exact z)
          | (have e : inL S layer j = true := isin_t (S := S) hj8 c_26; rw [cnt_t e, kfil_t e] at z; rw [nI_1, setR_twice, rput_nI (show cnt (inL S layer) j < 80 by omega) (by decide), setR_eq]; exact z)
set_option maxHeartbeats 200000 in
theorem lp_growPn (ht : isTree ly t) {s : Nat} (hs : s + m ≤ 1205) (hm : m ≤ 80) {level fan : Int32} {Qc : Array Value → State → Outcome → State → Prop} {XC : String → State → State → Prop} (kk : G K MX5_growPacked 14 0 0 0 0 143 [(7, .int (nI (s + m))), (6, .int level), (5, .int (nI s)), (0, .ref t), (3, .int fan)] [] (hp ly (setR S (t + 23) (filN s (tKy S t) m))) Qc XC) : ∀ d j, j + d = m → G K MX5_growPacked 14 0 0 0 0 116 [(8, .int (nI (s + j))), (7, .int (nI (s + m))), (6, .int level), (5, .int (nI s)), (0, .ref t), (3, .int fan)] [] (hp ly (setR S (t + 23) (filN s (tKy S t) j))) Qc XC := by
  intro d
  induction d with
  | zero =>
    intro j hj
    obtain rfl : j = m := by omega
    refine G_iload dX5_growPacked_116 rfl ?_
    refine G_iload dX5_growPacked_118 rfl ?_
    refine G_icmp_ge (tgt := 143) dX5_growPacked_120 (by decide) (fun c_120 => ?_) (fun c_120 => ?_)
    · refine G_sub [1, 2, 3, 4, 5] rfl ?_
      exact kk
    · exact absurd (nI_le (Nat.le_refl _) (by omega)) c_120
  | succ d ih =>
    intro j hj
    have z := ih (j + 1) (by omega)
    rw [filN_s] at z
    have esub : nI (s + j) - nI s = nI j := by rw [pk_sub (by omega), Nat.add_sub_cancel_left]
    refine G_iload dX5_growPacked_116 rfl ?_
    refine G_iload dX5_growPacked_118 rfl ?_
    refine G_icmp_ge (tgt := 143) dX5_growPacked_120 (by decide) (fun c_120 => ?_) (fun c_120 => ?_)
    · exact absurd c_120 (nI_ge (show s + j < s + m by omega) (by omega))
    · refine G_aload_n dX5_growPacked_123 rfl ?_
      refine G_get (k := 7) dX5_growPacked_124 (cTree ht) rfl wfl_X5_42 (by decide) rfl ?_
      refine G_iload dX5_growPacked_127 rfl ?_
      refine G_iload dX5_growPacked_129 rfl ?_
      refine G_isub dX5_growPacked_131 ?_
      rw [esub]
      refine G_iload dX5_growPacked_132 rfl ?_
      refine G_cVv (As := [_, _]) dX5_growPacked_134 kV_X3_put wml_X5_87 (sp_X3_put (tKeys ht)) rfl (cRow (tKeys ht)) rfl rfl rfl (by decide) ⟨Nat.le_refl 0, Nat.le_refl 0⟩ (Nat.le_of_ble_eq_true rfl) ?_
      refine GS_iinc (v := 1) (L' := [(8, _), (7, _), (6, _), (5, _), (0, _), (3, _)]) dX5_growPacked_137 rfl (by decide) (by decide) rfl ?_
      refine G_goto (tgt := 116) dX5_growPacked_140 (by decide) ?_
      refine G_sub [0, 1, 2, 3, 4, 5] rfl ?_
      rw [nI_1 (s + j), setR_twice, rput_nI (show j < 80 by omega) (by decide), setR_eq]
      exact z
set_option maxHeartbeats 200000 in
theorem lp_growPl (ht : isTree ly t) (hf : fn ≤ 8) {P : Option Value → VH → Prop} : ∀ f level s (S : St), level + f = 11 → gpOk S t fn f s level → P none (hp ly (setI (gpR S t fn f s level) t 9 (tN (gpR S t fn f s level) t - 1))) → G K MX5_growPacked 14 0 0 0 0 88 [(6, .int (nI level)), (5, .int (nI s)), (0, .ref t), (3, .int (nI fn))] [] (hp ly S) (QcP K P) (XcP K noX) := by
  intro f
  induction f with
  | zero =>
    intro level s S hl hok hP
    obtain rfl : level = 11 := by omega
    refine G_iload dX5_growPacked_88 rfl ?_
    refine G_bipush (v := 11) dX5_growPacked_90 (by decide) ?_
    refine G_icmp_ge (tgt := 178) dX5_growPacked_92 (by decide) (fun c_92 => ?_) (fun c_92 => ?_)
    · refine G_aload_n dX5_growPacked_178 rfl ?_
      refine G_aload_n dX5_growPacked_179 rfl ?_
      refine G_get (k := 8) dX5_growPacked_180 (cTree ht) rfl wfl_X5_52 (by decide) rfl ?_
      refine G_iconst (v := 1) dX5_growPacked_183 (by decide) ?_
      refine G_isub dX5_growPacked_184 ?_
      refine G_setI (k := 9) dX5_growPacked_185 (sTree ht).1 (sTree ht).2.1 (sTree ht).2.2 rfl rfl wfl_X5_60 (by decide) rfl rfl ?_
      exact G_vret dX5_growPacked_188 rfl ⟨Nat.le_refl 0, Nat.le_refl 0⟩ hP
    · exact absurd (by decide) c_92
  | succ f ih =>
    intro level s S hl hok hP
    obtain ⟨hN, h1, h2, h3, h4⟩ := hok
    rw [gpR] at hP
    generalize nN S t = N at hN h1 h2 h3 h4 hP
    have esub : nI N - nI s = nI (N - s) := pk_sub h1
    have hsN : s + (N - s) = N := by omega
    refine G_iload dX5_growPacked_88 rfl ?_
    refine G_bipush (v := 11) dX5_growPacked_90 (by decide) ?_
    refine G_icmp_ge (tgt := 178) dX5_growPacked_92 (by decide) (fun c_92 => ?_) (fun c_92 => ?_)
    · exact absurd c_92 (nI_ge (show level < 11 by omega) (by decide))
    · refine G_aload_n dX5_growPacked_95 rfl ?_
      refine G_get (k := 8) dX5_growPacked_96 (cTree ht) rfl wfl_X5_52 (by decide) rfl ?_
      refine G_iload dX5_growPacked_99 rfl ?_
      rw [show S.2.1 t 8 = nI N from hN]
      refine G_isub dX5_growPacked_101 ?_
      rw [esub]
      refine G_iconst (v := 1) dX5_growPacked_102 (by decide) ?_
      refine G_icmp_le (tgt := 178) dX5_growPacked_103 (by decide) (fun c_103 => ?_) (fun c_103 => ?_)
      · refine G_aload_n dX5_growPacked_178 rfl ?_
        refine G_aload_n dX5_growPacked_179 rfl ?_
        refine G_get (k := 8) dX5_growPacked_180 (cTree ht) rfl wfl_X5_52 (by decide) rfl ?_
        refine G_iconst (v := 1) dX5_growPacked_183 (by decide) ?_
        refine G_isub dX5_growPacked_184 ?_
        refine G_setI (k := 9) dX5_growPacked_185 (sTree ht).1 (sTree ht).2.1 (sTree ht).2.2 rfl rfl wfl_X5_60 (by decide) rfl rfl ?_
        exact G_vret dX5_growPacked_188 rfl ⟨Nat.le_refl 0, Nat.le_refl 0⟩ (by rw [if_neg (fun q => absurd c_103 (nI_ge (a := 1) q (by omega)))] at hP; exact hP)
      · refine G_aload_n dX5_growPacked_106 rfl ?_
        refine G_get (k := 8) dX5_growPacked_107 (cTree ht) rfl wfl_X5_52 (by decide) rfl ?_
        rw [show S.2.1 t 8 = nI N from hN]
        refine GS_istore (L' := [(7, _), (6, _), (5, _), (0, _), (3, _)]) dX5_growPacked_110 (by decide) rfl ?_
        refine G_iload dX5_growPacked_112 rfl ?_
        refine GS_istore (L' := [(8, _), (7, _), (6, _), (5, _), (0, _), (3, _)]) dX5_growPacked_114 (by decide) rfl ?_
        refine G_sub [0, 1, 2, 3, 4, 5] rfl ?_
        have hlt : 1 < N - s := by
          rcases Nat.lt_or_ge 1 (N - s) with q | q
          · exact q
          · exact absurd (show nI (N - s) ≤ nI 1 from nI_le q (by omega)) c_103
        rw [if_pos hlt] at hP
        have z := lp_growPn (K := K) (ly := ly) (S := S) (t := t) ht (s := s) (m := N - s) (by omega) (by omega) (level := nI level) (fan := nI fn) (Qc := QcP K P) (XC := XcP K noX) (by
          rw [hsN]
          refine G_aload_n dX5_growPacked_143 rfl ?_
          refine G_aload_n dX5_growPacked_144 rfl ?_
          refine G_get (k := 0) dX5_growPacked_145 (cTree ht) rfl wfl_X5_14 (by decide) rfl ?_
          refine G_iload dX5_growPacked_148 rfl ?_
          refine G_iload dX5_growPacked_150 rfl ?_
          refine G_isub dX5_growPacked_152 ?_
          rw [esub]
          refine G_iload_n dX5_growPacked_153 rfl ?_
          refine G_cVv (As := [_, _, _]) dX5_growPacked_154 kV_X5_orderToPack wml_X5_120 (sp_X5_orderToPack (m := N - s) ht (bTree ht) ⟨by omega, by omega, by omega, by omega⟩ (by omega) hf) rfl (cTree ht) rfl rfl rfl (by decide) ⟨Nat.le_refl 0, Nat.le_refl 0⟩ (Nat.le_of_ble_eq_true rfl) ?_
          refine G_aload_n dX5_growPacked_157 rfl ?_
          refine G_iload dX5_growPacked_158 rfl ?_
          refine G_iload dX5_growPacked_160 rfl ?_
          refine G_iload_n dX5_growPacked_162 rfl ?_
          refine G_iload dX5_growPacked_163 rfl ?_
          refine G_cVv (As := [_, _, _, _]) dX5_growPacked_165 kV_X5_cutNodes wml_X5_127 (by have q := sp_X5_cutNodes (K := K) (ly := ly) (S := gpPre S t fn s N) (m := N - s) (s := s) (fan := nI fn) (level := nI level) ht (by omega); rw [hsN] at q; exact q) rfl (cTree ht) rfl rfl rfl (by decide) ⟨Nat.le_refl 0, Nat.le_refl 0⟩ (Nat.le_of_ble_eq_true rfl) ?_
          refine G_iload dX5_growPacked_168 rfl ?_
          refine GS_istore (L' := [(5, _), (7, _), (6, _), (0, _), (3, _)]) dX5_growPacked_170 (by decide) rfl ?_
          refine GS_iinc (v := 1) (L' := [(6, _), (5, _), (7, _), (0, _), (3, _)]) dX5_growPacked_172 rfl (by decide) (by decide) rfl ?_
          refine G_goto (tgt := 88) dX5_growPacked_175 (by decide) ?_
          refine G_sub [0, 1, 3, 4] rfl ?_
          rw [nI_1 level]
          exact ih (level + 1) N _ (by omega) (h4 hlt) hP) (N - s) 0 (by omega)
        rw [filN_0, show setR S (t + 23) (tKy S t) = S from setR_self, hsN] at z
        exact z
set_option maxHeartbeats 200000 in
theorem sp_X5_growPacked (ht : isTree ly t) (hc : tc S = nI c) (h80 : c ≤ 80) (hf2 : 2 ≤ fn) (hf : fn ≤ 8) {layer : Int32} (hok : ¬ cnt (inL (fellS S t) layer) c = 0 → gpOk (pk3 S t c fn layer) t fn 10 0 1) : Sp K MX5_growPacked 14 0 0 [.ref t, .ref 1, .int layer, .int (nI fn)] (hp ly S) (fun v u => v = none ∧ u = hp ly (growP S t c fn layer)) noX := by
  refine Sp_of (by decide) (Nat.le_of_ble_eq_true rfl) ?_
  have hne := isTree_ne ht
  have hcf : tc (fellS S t) = nI c := by
    show tc (setI (setI S t 8 0) t 9 0) = _
    rw [tc_setI hne.1, tc_setI hne.1]; exact hc
  have hm := cnt_le (inL (fellS S t) layer) c
  refine G_aload_n dX5_growPacked_0 rfl ?_
  refine G_cVv (As := []) dX5_growPacked_1 kV_X5_fell wml_X5_94 (sp_X5_fell ht) rfl (cTree ht) rfl rfl rfl (by decide) ⟨Nat.le_refl 0, Nat.le_refl 0⟩ (Nat.le_of_ble_eq_true rfl) ?_
  refine G_iconst (v := 0) dX5_growPacked_4 (by decide) ?_
  refine GS_istore (L' := [(4, _), (0, _), (1, _), (2, _), (3, _)]) dX5_growPacked_5 (by decide) rfl ?_
  refine G_iconst (v := 0) dX5_growPacked_7 (by decide) ?_
  refine GS_istore (L' := [(5, _), (4, _), (0, _), (1, _), (2, _), (3, _)]) dX5_growPacked_8 (by decide) rfl ?_
  refine G_sub [0, 1, 2, 3, 4, 5] rfl ?_
  have z := lp_growPf (K := K) (ly := ly) (S := fellS S t) (t := t) (c := c) ht hcf h80 (layer := layer) (fan := nI fn) (Qc := QcP K (fun v u => v = none ∧ u = hp ly (growP S t c fn layer))) (XC := XcP K noX) (by
    refine G_iload dX5_growPacked_49 rfl ?_
    refine G_if_eq (tgt := 59) dX5_growPacked_51 (by decide) (fun c_51 => ?_) (fun c_51 => ?_)
    · have h0 : cnt (inL (fellS S t) layer) c = 0 := by
        rcases Nat.eq_zero_or_pos (cnt (inL (fellS S t) layer) c) with q | q
        · exact q
        · exact absurd c_51 (nI_ne0 q (by omega))
      exact G_vret dX5_growPacked_59 rfl ⟨Nat.le_refl 0, Nat.le_refl 0⟩ ⟨rfl, by unfold growP; rw [if_pos h0]; rfl⟩
    · have h0 : ¬ cnt (inL (fellS S t) layer) c = 0 := fun q => c_51 (by rw [q]; rfl)
      refine G_iload_n dX5_growPacked_54 rfl ?_
      refine G_iconst (v := 2) dX5_growPacked_55 (by decide) ?_
      refine G_icmp_ge (tgt := 60) dX5_growPacked_56 (by decide) (fun c_56 => ?_) (fun c_56 => ?_)
      · refine G_aload_n dX5_growPacked_60 rfl ?_
        refine G_aload_n dX5_growPacked_61 rfl ?_
        refine G_getN (k := 0) dX5_growPacked_62 cThings rfl wfn_X5_119 (by decide) rfl ?_
        refine G_iload dX5_growPacked_65 rfl ?_
        refine G_iload_n dX5_growPacked_67 rfl ?_
        refine G_cVv (As := [_, _, _]) dX5_growPacked_68 kV_X5_orderToPack wml_X5_120 (sp_X5_orderToPack (m := cnt (inL (fellS S t) layer) c) ht bThings ⟨by omega, by omega, by omega, by omega⟩ (by omega) hf) rfl (cTree ht) rfl rfl rfl (by decide) ⟨Nat.le_refl 0, Nat.le_refl 0⟩ (Nat.le_of_ble_eq_true rfl) ?_
        refine G_aload_n dX5_growPacked_71 rfl ?_
        refine G_aload_n dX5_growPacked_72 rfl ?_
        refine G_getN (k := 0) dX5_growPacked_73 cThings rfl wfn_X5_119 (by decide) rfl ?_
        refine G_iload dX5_growPacked_76 rfl ?_
        refine G_iload_n dX5_growPacked_78 rfl ?_
        refine G_cVv (As := [_, _, _]) dX5_growPacked_79 kV_X5_cutLeaves wml_X5_124 (sp_X5_cutLeaves ht bThings (by omega)) rfl (cTree ht) rfl rfl rfl (by decide) ⟨Nat.le_refl 0, Nat.le_refl 0⟩ (Nat.le_of_ble_eq_true rfl) ?_
        refine G_iconst (v := 0) dX5_growPacked_82 (by decide) ?_
        refine GS_istore (L' := [(5, _), (4, _), (0, _), (1, _), (2, _), (3, _)]) dX5_growPacked_83 (by decide) rfl ?_
        refine G_iconst (v := 1) dX5_growPacked_85 (by decide) ?_
        refine GS_istore (L' := [(6, _), (5, _), (4, _), (0, _), (1, _), (2, _), (3, _)]) dX5_growPacked_86 (by decide) rfl ?_
        refine G_sub [0, 1, 3, 6] rfl ?_
        exact lp_growPl ht hf 10 1 0 _ (by omega) (hok h0) ⟨rfl, by unfold growP; rw [if_neg h0]; rfl⟩
      · exact absurd (show nI 2 ≤ nI fn from nI_le hf2 (by omega)) c_56) c 0 (by omega)
  rw [kfil, setR_self] at z
  exact z
end PL
end
section
/-! the index's own methods, both layers there: layer 0 of points, layer 1 of boxes -/
def ip (lr : Nat) : Int32 := if lr = 0 then 1 else 0
set_option maxHeartbeats 200000 in
theorem cLayerG {S : St} {lr : Nat} (h : lr < 2) : (hp 2 S).2[49 + 25 * lr]? = some (.inr (2, [.int (nI lr), .int (ip lr), .ref (50 + 25 * lr), .int (S.2.1 (49 + 25 * lr) 3)])) := by
  rcases (show lr = 0 ∨ lr = 1 by omega) with rfl | rfl
  · exact cLayer0 (by omega)
  · exact cLayer1 (by omega)
set_option maxHeartbeats 200000 in
theorem isT {lr : Nat} (h : lr < 2) : isTree 2 (50 + 25 * lr) := by
  rcases (show lr = 0 ∨ lr = 1 by omega) with rfl | rfl
  · exact Or.inr (Or.inl ⟨rfl, by omega⟩)
  · exact Or.inr (Or.inr ⟨rfl, by omega⟩)
def okM (x : Int32) : Prop := ¬ x < 0 ∧ x < 1024
def okF (x : Int32) : Prop := ¬ x < 0 ∧ ¬ 3000000 < x
set_option maxHeartbeats 200000 in
theorem i32_ge_nlt {x y : Int32} (h : y ≤ x) : ¬ x < y := fun q => absurd (Int32.lt_of_lt_of_le q h) Int32.lt_irrefl
set_option maxHeartbeats 200000 in
theorem ly_at {lr : Nat} (h : lr < 2) : va_rf ((fun j => if j < 2 then some (49 + 25 * j) else none : Nat → Option Nat) (nI lr).toNatClampNeg) = .ref (49 + 25 * lr) := by
  rw [nI_clamp (show lr < 2 ^ 31 by omega)]
  show va_rf (if lr < 2 then some (49 + 25 * lr) else none) = _
  rw [if_pos h]
  rfl
/-- the keys of a layer's things in order -/
def ksr (S : St) (lr c : Nat) (x y : Int32) : Nat → Int32 := srtA (kfil (S.1 16) (inL S (nI lr)) (keyV S x y) c) 0 0 (cnt (inL S (nI lr)) c)
def keyN (S : St) (lr c : Nat) (x y : Int32) (kk : Nat) : Int32 := if cnt (inL S (nI lr)) c < kk then -1 else ksr S lr c x y (kk - 1)
def keyS (S : St) (lr c : Nat) (x y : Int32) : St := setR S 16 (ksr S lr c x y)
set_option maxHeartbeats 200000 in
theorem keyN_no {S : St} {lr c : Nat} {x y : Int32} {kk : Nat} (hk : kk ≤ 80) (hm : cnt (inL S (nI lr)) c ≤ 80) (h : ¬ nI kk ≤ nI (cnt (inL S (nI lr)) c)) : keyN S lr c x y kk = -1 := by
  unfold keyN
  rcases Nat.lt_or_ge (cnt (inL S (nI lr)) c) kk with q | q
  · rw [if_pos q]
  · exact absurd (nI_le q (by omega)) h
set_option maxHeartbeats 200000 in
theorem keyN_yes {S : St} {lr c : Nat} {x y : Int32} {kk : Nat} (hk : kk ≤ 80) (hm : cnt (inL S (nI lr)) c ≤ 80) (h : nI kk ≤ nI (cnt (inL S (nI lr)) c)) : keyN S lr c x y kk = ksr S lr c x y (kk - 1) := by
  unfold keyN
  rw [if_neg (fun q => absurd h (nI_ge q (by omega)))]
/-- pairs of nodes that are visited -/
def smI (g : Nat → Int32) (n : Nat) : Int32 := match n with
  | 0 => 0
  | n + 1 => smI g n + g n
def dnV (S : St) (t : Nat) (u : Int32) (i : Nat) : Int32 := if rat (tCt S t) 1205 u = 0 then u else belV S t u (nI i)
def nbV (S : St) (t : Nat) (u : Int32) : Nat := if rat (tCt S t) 1205 u = 0 then 1 else (rat (tCt S t) 1205 u).toNatClampNeg
def cvp (S : St) (t t' : Nat) (far : Int32) (f : Nat) (u v : Int32) : Int32 := match f with
  | 0 => 0
  | f + 1 => if (rat (tCt S t) 1205 u = 0 ∧ rat (tCt S t') 1205 v = 0) ∨ far < bfar S (t + 1) 1205 u (bX S (t' + 1) 1205 v) (bY S (t' + 1) 1205 v) (bW S (t' + 1) 1205 v) (bH S (t' + 1) 1205 v) then 1
    else 1 + smI (fun i => smI (fun j => cvp S t t' far f (dnV S t u i) (dnV S t' v j)) (nbV S t' v)) (nbV S t u)
def okC (S : St) (t : Nat) : Prop := ∀ u : Int32, ∃ n, n ≤ 8 ∧ rat (tCt S t) 1205 u = nI n
section AP
variable {K : GK} {S : St} {c lr lr2 : Nat} {h : VH}
set_option maxHeartbeats 200000 in
theorem sp_X6_layerAt (hlr : lr < 2) : Sp K MX6_layerAt 2 0 0 [.ref 0, .int (nI lr)] (hp 2 S) (fun v u => v = some (.ref (49 + 25 * lr)) ∧ u = hp 2 S) noX := by
  refine Sp_of (by decide) (Nat.le_of_ble_eq_true rfl) ?_
  refine G_iload_n dX6_layerAt_0 rfl ?_
  refine G_if_lt (tgt := 13) dX6_layerAt_1 (by decide) (fun c_1 => ?_) (fun c_1 => ?_)
  · first
      | exact absurd c_1 (nI_pos (by omega))
      | exact absurd (show nI lr < nI 4 from nI_lt (by omega) (by decide)) c_10
  · refine G_iload_n dX6_layerAt_4 rfl ?_
    refine G_aload_n dX6_layerAt_5 rfl ?_
    refine G_get (k := 1) dX6_layerAt_6 cIdx rfl wfl_X6_18 (by decide) rfl ?_
    refine G_alen (t := 1) dX6_layerAt_9 cLayers rfl ?_
    refine G_icmp_lt (tgt := 24) dX6_layerAt_10 (by decide) (fun c_10 => ?_) (fun c_10 => ?_)
    · refine G_aload_n dX6_layerAt_24 rfl ?_
      refine G_get (k := 1) dX6_layerAt_25 cIdx rfl wfl_X6_18 (by decide) rfl ?_
      refine G_iload_n dX6_layerAt_28 rfl ?_
      refine G_aald dX6_layerAt_29 cLayers (vp_in_nI (show lr < 4 by omega) (by decide)) ?_
      rw [ly_at hlr]
      refine GS_astore_n (L' := [(2, _), (0, _), (1, _)]) dX6_layerAt_30 (by decide) rfl ?_
      refine G_aload_n dX6_layerAt_31 rfl ?_
      refine G_ifnonnull (tgt := 46) dX6_layerAt_32 (by decide) ?_
      refine G_aload_n dX6_layerAt_46 rfl ?_
      exact G_aret dX6_layerAt_47 rfl ⟨Nat.le_refl 0, Nat.le_refl 0⟩ ⟨rfl, rfl⟩
    · first
        | exact absurd c_1 (nI_pos (by omega))
        | exact absurd (show nI lr < nI 4 from nI_lt (by omega) (by decide)) c_10
set_option maxHeartbeats 200000 in
theorem sp_X6_checkIsOfPoints : Sp K MX6_checkIsOfPoints 1 0 0 [.ref 49] (hp 2 S) (fun v u => v = none ∧ u = hp 2 S) noX := by
  refine Sp_of (by decide) (Nat.le_of_ble_eq_true rfl) ?_
  refine G_aload_n dX6_checkIsOfPoints_0 rfl ?_
  refine G_getN (k := 1) dX6_checkIsOfPoints_1 (cLayer0 (show 1 ≤ 2 by omega)) rfl wfn_X6_252 (by decide) rfl ?_
  refine G_if_ne (tgt := 18) dX6_checkIsOfPoints_4 (by decide) (fun c_4 => ?_) (fun c_4 => ?_)
  · exact G_vret dX6_checkIsOfPoints_18 rfl ⟨Nat.le_refl 0, Nat.le_refl 0⟩ ⟨rfl, rfl⟩
  · exact absurd c_4 (by decide)
set_option maxHeartbeats 200000 in
theorem sp_X6_checkIsOfBoxes : Sp K MX6_checkIsOfBoxes 1 0 0 [.ref 74] (hp 2 S) (fun v u => v = none ∧ u = hp 2 S) noX := by
  refine Sp_of (by decide) (Nat.le_of_ble_eq_true rfl) ?_
  refine G_aload_n dX6_checkIsOfBoxes_0 rfl ?_
  refine G_getN (k := 1) dX6_checkIsOfBoxes_1 (cLayer1 (show 2 ≤ 2 by omega)) rfl wfn_X6_252 (by decide) rfl ?_
  refine G_if_eq (tgt := 18) dX6_checkIsOfBoxes_4 (by decide) (fun c_4 => ?_) (fun c_4 => ?_)
  · exact G_vret dX6_checkIsOfBoxes_18 rfl ⟨Nat.le_refl 0, Nat.le_refl 0⟩ ⟨rfl, rfl⟩
  · exact absurd (show (0 : Int32) = 0 from rfl) c_4
set_option maxHeartbeats 200000 in
theorem sp_X6_checkWithinMap {x y : Int32} (hx : okM x) (hy : okM y) : Sp K MX6_checkWithinMap 1 0 0 [.int x, .int y] h (fun v u => v = none ∧ u = h) noX := by
  refine Sp_of (by decide) (Nat.le_of_ble_eq_true rfl) ?_
  refine G_iload_n dX6_checkWithinMap_0 rfl ?_
  refine G_if_lt (tgt := 22) dX6_checkWithinMap_1 (by decide) (fun c_1 => ?_) (fun c_1 => ?_)
  · first
      | exact absurd c_1 hx.1
      | exact absurd hx.2 (i32_ge_nlt c_8)
      | exact absurd c_12 hy.1
      | exact absurd hy.2 c_19
  · refine G_iload_n dX6_checkWithinMap_4 rfl ?_
    refine G_sipush (v := 1024) dX6_checkWithinMap_5 (by decide) ?_
    refine G_icmp_ge (tgt := 22) dX6_checkWithinMap_8 (by decide) (fun c_8 => ?_) (fun c_8 => ?_)
    · first
        | exact absurd c_1 hx.1
        | exact absurd hx.2 (i32_ge_nlt c_8)
        | exact absurd c_12 hy.1
        | exact absurd hy.2 c_19
    · refine G_iload_n dX6_checkWithinMap_11 rfl ?_
      refine G_if_lt (tgt := 22) dX6_checkWithinMap_12 (by decide) (fun c_12 => ?_) (fun c_12 => ?_)
      · first
          | exact absurd c_1 hx.1
          | exact absurd hx.2 (i32_ge_nlt c_8)
          | exact absurd c_12 hy.1
          | exact absurd hy.2 c_19
      · refine G_iload_n dX6_checkWithinMap_15 rfl ?_
        refine G_sipush (v := 1024) dX6_checkWithinMap_16 (by decide) ?_
        refine G_icmp_lt (tgt := 33) dX6_checkWithinMap_19 (by decide) (fun c_19 => ?_) (fun c_19 => ?_)
        · exact G_vret dX6_checkWithinMap_33 rfl ⟨Nat.le_refl 0, Nat.le_refl 0⟩ ⟨rfl, rfl⟩
        · first
            | exact absurd c_1 hx.1
            | exact absurd hx.2 (i32_ge_nlt c_8)
            | exact absurd c_12 hy.1
            | exact absurd hy.2 c_19
set_option maxHeartbeats 200000 in
theorem sp_X6_checkFar {x : Int32} (hx : okF x) : Sp K MX6_checkFar 1 0 0 [.int x] h (fun v u => v = none ∧ u = h) noX := by
  refine Sp_of (by decide) (Nat.le_of_ble_eq_true rfl) ?_
  refine G_iload_n dX6_checkFar_0 rfl ?_
  refine G_if_lt (tgt := 11) dX6_checkFar_1 (by decide) (fun c_1 => ?_) (fun c_1 => ?_)
  · first
      | exact absurd c_1 hx.1
      | exact absurd (i32_nle c_8) hx.2
  · refine G_iload_n dX6_checkFar_4 rfl ?_
    refine G_ldcw dX6_checkFar_5 wk_X6_320 ?_
    refine G_icmp_le (tgt := 22) dX6_checkFar_8 (by decide) (fun c_8 => ?_) (fun c_8 => ?_)
    · exact G_vret dX6_checkFar_22 rfl ⟨Nat.le_refl 0, Nat.le_refl 0⟩ ⟨rfl, rfl⟩
    · first
        | exact absurd c_1 hx.1
        | exact absurd (i32_nle c_8) hx.2
set_option maxHeartbeats 200000 in
theorem sp_X6_checkSize (hlr : lr < 2) {fn : Nat} (hf1 : 1 ≤ fn) (hf2 : 2 ≤ fn ∨ lr = 0) (hf : fn ≤ 8) : Sp K MX6_checkSize 1 0 0 [.ref (49 + 25 * lr), .int (nI fn)] (hp 2 S) (fun v u => v = none ∧ u = hp 2 S) noX := by
  refine Sp_of (by decide) (Nat.le_of_ble_eq_true rfl) ?_
  refine G_aload_n dX6_checkSize_0 rfl ?_
  refine G_getN (k := 1) dX6_checkSize_1 (cLayerG hlr) rfl wfn_X6_252 (by decide) rfl ?_
  refine G_if_eq (tgt := 11) dX6_checkSize_4 (by decide) (fun c_4 => ?_) (fun c_4 => ?_)
  · refine G_iconst (v := 2) dX6_checkSize_11 (by decide) ?_
    refine GS_istore_n (L' := [(2, _), (0, _), (1, _)]) dX6_checkSize_12 (by decide) rfl ?_
    refine G_iload_n dX6_checkSize_13 rfl ?_
    refine G_iload_n dX6_checkSize_14 rfl ?_
    refine G_icmp_lt (tgt := 24) dX6_checkSize_15 (by decide) (fun c_15 => ?_) (fun c_15 => ?_)
    · first
        | exact absurd (show nI 1 ≤ nI fn from nI_le hf1 (by omega)) (fun q => absurd (Int32.lt_of_lt_of_le c_15 q) Int32.lt_irrefl)
        | (rcases hf2 with q | q
           · exact absurd (show nI 2 ≤ nI fn from nI_le q (by omega)) (fun q => absurd (Int32.lt_of_lt_of_le c_15 q) Int32.lt_irrefl)
           · exact absurd c_4 (by rw [q]; decide))
        | exact absurd (show nI fn ≤ nI 8 from nI_le hf (by decide)) c_21
    · refine G_iload_n dX6_checkSize_18 rfl ?_
      refine G_bipush (v := 8) dX6_checkSize_19 (by decide) ?_
      refine G_icmp_le (tgt := 35) dX6_checkSize_21 (by decide) (fun c_21 => ?_) (fun c_21 => ?_)
      · exact G_vret dX6_checkSize_35 rfl ⟨Nat.le_refl 0, Nat.le_refl 0⟩ ⟨rfl, rfl⟩
      · first
          | exact absurd (show nI 1 ≤ nI fn from nI_le hf1 (by omega)) (fun q => absurd (Int32.lt_of_lt_of_le c_15 q) Int32.lt_irrefl)
          | (rcases hf2 with q | q
             · exact absurd (show nI 2 ≤ nI fn from nI_le q (by omega)) (fun q => absurd (Int32.lt_of_lt_of_le c_15 q) Int32.lt_irrefl)
             · exact absurd c_4 (by rw [q]; decide))
          | exact absurd (show nI fn ≤ nI 8 from nI_le hf (by decide)) c_21
  · refine G_iconst (v := 1) dX6_checkSize_7 (by decide) ?_
    refine G_goto (tgt := 12) dX6_checkSize_8 (by decide) ?_
    refine GS_istore_n (L' := [(2, _), (0, _), (1, _)]) dX6_checkSize_12 (by decide) rfl ?_
    refine G_iload_n dX6_checkSize_13 rfl ?_
    refine G_iload_n dX6_checkSize_14 rfl ?_
    refine G_icmp_lt (tgt := 24) dX6_checkSize_15 (by decide) (fun c_15 => ?_) (fun c_15 => ?_)
    · first
        | exact absurd (show nI 1 ≤ nI fn from nI_le hf1 (by omega)) (fun q => absurd (Int32.lt_of_lt_of_le c_15 q) Int32.lt_irrefl)
        | (rcases hf2 with q | q
           · exact absurd (show nI 2 ≤ nI fn from nI_le q (by omega)) (fun q => absurd (Int32.lt_of_lt_of_le c_15 q) Int32.lt_irrefl)
           · exact absurd c_4 (by rw [q]; decide))
        | exact absurd (show nI fn ≤ nI 8 from nI_le hf (by decide)) c_21
    · refine G_iload_n dX6_checkSize_18 rfl ?_
      refine G_bipush (v := 8) dX6_checkSize_19 (by decide) ?_
      refine G_icmp_le (tgt := 35) dX6_checkSize_21 (by decide) (fun c_21 => ?_) (fun c_21 => ?_)
      · exact G_vret dX6_checkSize_35 rfl ⟨Nat.le_refl 0, Nat.le_refl 0⟩ ⟨rfl, rfl⟩
      · first
          | exact absurd (show nI 1 ≤ nI fn from nI_le hf1 (by omega)) (fun q => absurd (Int32.lt_of_lt_of_le c_15 q) Int32.lt_irrefl)
          | (rcases hf2 with q | q
             · exact absurd (show nI 2 ≤ nI fn from nI_le q (by omega)) (fun q => absurd (Int32.lt_of_lt_of_le c_15 q) Int32.lt_irrefl)
             · exact absurd c_4 (by rw [q]; decide))
          | exact absurd (show nI fn ≤ nI 8 from nI_le hf (by decide)) c_21
set_option maxHeartbeats 200000 in
theorem sp_X6_checkRoomFor (hc : tc S = nI c) {m : Nat} (hm : c + m ≤ 80) : Sp K MX6_checkRoomFor 1 0 0 [.ref 0, .int (nI m)] (hp 2 S) (fun v u => v = none ∧ u = hp 2 S) noX := by
  refine Sp_of (by decide) (Nat.le_of_ble_eq_true rfl) ?_
  refine G_aload_n dX6_checkRoomFor_0 rfl ?_
  refine G_get (k := 0) dX6_checkRoomFor_1 cIdx rfl wfl_X6_10 (by decide) rfl ?_
  refine G_getN (k := 5) dX6_checkRoomFor_4 cThings rfl wfn_X6_106 (by decide) rfl ?_
  rw [show S.2.1 1 5 = nI c from hc]
  refine G_iload_n dX6_checkRoomFor_7 rfl ?_
  refine G_iadd dX6_checkRoomFor_8 ?_
  rw [nI_add c m]
  refine G_bipush (v := 80) dX6_checkRoomFor_9 (by decide) ?_
  refine G_icmp_le (tgt := 25) dX6_checkRoomFor_11 (by decide) (fun c_11 => ?_) (fun c_11 => ?_)
  · exact G_vret dX6_checkRoomFor_25 rfl ⟨Nat.le_refl 0, Nat.le_refl 0⟩ ⟨rfl, rfl⟩
  · exact absurd (show nI (c + m) ≤ nI 80 from nI_le hm (by decide)) c_11
set_option maxHeartbeats 200000 in
theorem sp_X6_things : Sp K MX6_things 1 0 0 [.ref 0] (hp 2 S) (fun v u => v = some (.int (tc S)) ∧ u = hp 2 S) noX := by
  refine Sp_of (by decide) (Nat.le_of_ble_eq_true rfl) ?_
  refine G_aload_n dX6_things_0 rfl ?_
  refine G_get (k := 0) dX6_things_1 cIdx rfl wfl_X6_10 (by decide) rfl ?_
  refine G_getN (k := 5) dX6_things_4 cThings rfl wfn_X6_106 (by decide) rfl ?_
  exact G_iret dX6_things_7 rfl rfl ⟨Nat.le_refl 0, Nat.le_refl 0⟩ ⟨rfl, rfl⟩
set_option maxHeartbeats 200000 in
theorem sp_X6_size (hc : tc S = nI c) (h80 : c ≤ 80) (hlr : lr < 2) : Sp K MX6_size 10 0 0 [.ref 0, .int (nI lr)] (hp 2 S) (fun v u => v = some (.int (nI (cnt (inL S (nI lr)) c))) ∧ u = hp 2 S) noX := by
  refine Sp_of (by decide) (Nat.le_of_ble_eq_true rfl) ?_
  refine G_aload_n dX6_size_0 rfl ?_
  refine G_get (k := 0) dX6_size_1 cIdx rfl wfl_X6_10 (by decide) rfl ?_
  refine G_aload_n dX6_size_4 rfl ?_
  refine G_iload_n dX6_size_5 rfl ?_
  refine G_cVr (As := [_]) dX6_size_6 kV_X6_layerAt wml_X6_57 (sp_X6_layerAt hlr) rfl cIdx rfl rfl rfl (by decide) ⟨Nat.le_refl 0, Nat.le_refl 0⟩ (Nat.le_of_ble_eq_true rfl) ?_
  refine G_getN (k := 0) dX6_size_9 (cLayerG hlr) rfl wfn_X6_54 (by decide) rfl ?_
  refine G_cVi (As := [_]) dX6_size_12 kV_X4_countIn wml_X6_137 (sp_X4_countIn hc h80) rfl cThings rfl rfl rfl (by decide) ⟨Nat.le_refl 0, Nat.le_refl 0⟩ (Nat.le_of_ble_eq_true rfl) ?_
  exact G_iret dX6_size_15 rfl rfl ⟨Nat.le_refl 0, Nat.le_refl 0⟩ ⟨rfl, rfl⟩
set_option maxHeartbeats 200000 in
theorem sp_X6_nodes (hlr : lr < 2) : Sp K MX6_nodes 10 0 0 [.ref 0, .int (nI lr)] (hp 2 S) (fun v u => v = some (.int (tN S (50 + 25 * lr))) ∧ u = hp 2 S) noX := by
  refine Sp_of (by decide) (Nat.le_of_ble_eq_true rfl) ?_
  refine G_aload_n dX6_nodes_0 rfl ?_
  refine G_iload_n dX6_nodes_1 rfl ?_
  refine G_cVr (As := [_]) dX6_nodes_2 kV_X6_layerAt wml_X6_57 (sp_X6_layerAt hlr) rfl cIdx rfl rfl rfl (by decide) ⟨Nat.le_refl 0, Nat.le_refl 0⟩ (Nat.le_of_ble_eq_true rfl) ?_
  refine G_getN (k := 2) dX6_nodes_5 (cLayerG hlr) rfl wfn_X6_140 (by decide) rfl ?_
  refine G_getN (k := 8) dX6_nodes_8 (cTree (isT hlr)) rfl wfn_X6_147 (by decide) rfl ?_
  exact G_iret dX6_nodes_11 rfl rfl ⟨Nat.le_refl 0, Nat.le_refl 0⟩ ⟨rfl, rfl⟩
set_option maxHeartbeats 200000 in
theorem sp_X6_depth (hlr : lr < 2) : Sp K MX6_depth 10 0 0 [.ref 0, .int (nI lr)] (hp 2 S) (fun v u => v = some (.int (levV S (50 + 25 * lr))) ∧ u = hp 2 S) noX := by
  refine Sp_of (by decide) (Nat.le_of_ble_eq_true rfl) ?_
  refine G_aload_n dX6_depth_0 rfl ?_
  refine G_iload_n dX6_depth_1 rfl ?_
  refine G_cVr (As := [_]) dX6_depth_2 kV_X6_layerAt wml_X6_57 (sp_X6_layerAt hlr) rfl cIdx rfl rfl rfl (by decide) ⟨Nat.le_refl 0, Nat.le_refl 0⟩ (Nat.le_of_ble_eq_true rfl) ?_
  refine G_getN (k := 2) dX6_depth_5 (cLayerG hlr) rfl wfn_X6_140 (by decide) rfl ?_
  refine G_cVi (As := []) dX6_depth_8 kV_X5_countLevels wml_X6_165 (sp_X5_countLevels (isT hlr)) rfl (cTree (isT hlr)) rfl rfl rfl (by decide) ⟨Nat.le_refl 0, Nat.le_refl 0⟩ (Nat.le_of_ble_eq_true rfl) ?_
  exact G_iret dX6_depth_11 rfl rfl ⟨Nat.le_refl 0, Nat.le_refl 0⟩ ⟨rfl, rfl⟩
set_option maxHeartbeats 200000 in
theorem sp_X6_inBox (hc : tc S = nI c) (h80 : c ≤ 80) (hlr : lr < 2) {x y w h' : Int32} (hx : okM x) (hy : okM y) (hw : okM w) (hh : okM h') : Sp K MX6_inBox 12 0 0 [.ref 0, .int (nI lr), .int x, .int y, .int w, .int h'] (hp 2 S) (fun v u => v = some (.int (nI (cnt (fun k => inL S (nI lr) k && decide (bfar S 2 80 (nI k) x y w h' = 0)) c))) ∧ u = hp 2 S) noX := by
  refine Sp_of (by decide) (Nat.le_of_ble_eq_true rfl) ?_
  refine G_aload_n dX6_inBox_0 rfl ?_
  refine G_iload_n dX6_inBox_1 rfl ?_
  refine G_cVr (As := [_]) dX6_inBox_2 kV_X6_layerAt wml_X6_57 (sp_X6_layerAt hlr) rfl cIdx rfl rfl rfl (by decide) ⟨Nat.le_refl 0, Nat.le_refl 0⟩ (Nat.le_of_ble_eq_true rfl) ?_
  refine GS_astore (L' := [(6, _), (0, _), (1, _), (2, _), (3, _), (4, _), (5, _)]) dX6_inBox_5 (by decide) rfl ?_
  refine G_iload_n dX6_inBox_7 rfl ?_
  refine G_iload_n dX6_inBox_8 rfl ?_
  refine G_cSv (As := [_, _]) dX6_inBox_9 kT_X6_checkWithinMap wml_X6_72 (sp_X6_checkWithinMap hx hy) rfl rfl (by decide) ⟨Nat.le_refl 0, Nat.le_refl 0⟩ (Nat.le_of_ble_eq_true rfl) ?_
  refine G_iload dX6_inBox_12 rfl ?_
  refine G_iload dX6_inBox_14 rfl ?_
  refine G_cSv (As := [_, _]) dX6_inBox_16 kT_X6_checkWithinMap wml_X6_72 (sp_X6_checkWithinMap hw hh) rfl rfl (by decide) ⟨Nat.le_refl 0, Nat.le_refl 0⟩ (Nat.le_of_ble_eq_true rfl) ?_
  refine G_aload_n dX6_inBox_19 rfl ?_
  refine G_get (k := 0) dX6_inBox_20 cIdx rfl wfl_X6_10 (by decide) rfl ?_
  refine G_aload dX6_inBox_23 rfl ?_
  refine G_getN (k := 0) dX6_inBox_25 (cLayerG hlr) rfl wfn_X6_54 (by decide) rfl ?_
  refine G_iload_n dX6_inBox_28 rfl ?_
  refine G_iload_n dX6_inBox_29 rfl ?_
  refine G_iload dX6_inBox_30 rfl ?_
  refine G_iload dX6_inBox_32 rfl ?_
  refine G_cVi (As := [_, _, _, _, _]) dX6_inBox_34 kV_X4_countMeeting wml_X6_200 (sp_X4_countMeeting hc h80) rfl cThings rfl rfl rfl (by decide) ⟨Nat.le_refl 0, Nat.le_refl 0⟩ (Nat.le_of_ble_eq_true rfl) ?_
  exact G_iret dX6_inBox_37 rfl rfl ⟨Nat.le_refl 0, Nat.le_refl 0⟩ ⟨rfl, rfl⟩
set_option maxHeartbeats 200000 in
theorem sp_X6_visited (hlr : lr < 2) {N : Nat} (hN : tN S (50 + 25 * lr) = nI N) (hN2 : N ≤ 1205) {x y w h' : Int32} (hx : okM x) (hy : okM y) (hw : okM w) (hh : okM h') : Sp K MX6_visited 12 0 0 [.ref 0, .int (nI lr), .int x, .int y, .int w, .int h'] (hp 2 S) (fun v u => v = some (.int (nI (cnt (visP S (50 + 25 * lr) x y w h' 0) N))) ∧ u = hp 2 S) noX := by
  refine Sp_of (by decide) (Nat.le_of_ble_eq_true rfl) ?_
  refine G_aload_n dX6_visited_0 rfl ?_
  refine G_iload_n dX6_visited_1 rfl ?_
  refine G_cVr (As := [_]) dX6_visited_2 kV_X6_layerAt wml_X6_57 (sp_X6_layerAt hlr) rfl cIdx rfl rfl rfl (by decide) ⟨Nat.le_refl 0, Nat.le_refl 0⟩ (Nat.le_of_ble_eq_true rfl) ?_
  refine GS_astore (L' := [(6, _), (0, _), (1, _), (2, _), (3, _), (4, _), (5, _)]) dX6_visited_5 (by decide) rfl ?_
  refine G_iload_n dX6_visited_7 rfl ?_
  refine G_iload_n dX6_visited_8 rfl ?_
  refine G_cSv (As := [_, _]) dX6_visited_9 kT_X6_checkWithinMap wml_X6_72 (sp_X6_checkWithinMap hx hy) rfl rfl (by decide) ⟨Nat.le_refl 0, Nat.le_refl 0⟩ (Nat.le_of_ble_eq_true rfl) ?_
  refine G_iload dX6_visited_12 rfl ?_
  refine G_iload dX6_visited_14 rfl ?_
  refine G_cSv (As := [_, _]) dX6_visited_16 kT_X6_checkWithinMap wml_X6_72 (sp_X6_checkWithinMap hw hh) rfl rfl (by decide) ⟨Nat.le_refl 0, Nat.le_refl 0⟩ (Nat.le_of_ble_eq_true rfl) ?_
  refine G_aload dX6_visited_19 rfl ?_
  refine G_getN (k := 2) dX6_visited_21 (cLayerG hlr) rfl wfn_X6_140 (by decide) rfl ?_
  refine G_iload_n dX6_visited_24 rfl ?_
  refine G_iload_n dX6_visited_25 rfl ?_
  refine G_iload dX6_visited_26 rfl ?_
  refine G_iload dX6_visited_28 rfl ?_
  refine G_iconst (v := 0) dX6_visited_30 (by decide) ?_
  refine G_cVi (As := [_, _, _, _, _]) dX6_visited_31 kV_X5_countVisited wml_X6_203 (sp_X5_countVisited (isT hlr) hN hN2) rfl (cTree (isT hlr)) rfl rfl rfl (by decide) ⟨Nat.le_refl 0, Nat.le_refl 0⟩ (Nat.le_of_ble_eq_true rfl) ?_
  exact G_iret dX6_visited_34 rfl rfl ⟨Nat.le_refl 0, Nat.le_refl 0⟩ ⟨rfl, rfl⟩
set_option maxHeartbeats 200000 in
theorem sp_X6_keyOfNearest (hc : tc S = nI c) (h80 : c ≤ 80) (hlr : lr < 2) {x y : Int32} (hx : okM x) (hy : okM y) {kk : Nat} (hk1 : 1 ≤ kk) (hk2 : kk ≤ 80) : Sp K MX6_keyOfNearest 12 0 0 [.ref 0, .int (nI lr), .int x, .int y, .int (nI kk)] (hp 2 S) (fun v u => v = some (.int (keyN S lr c x y kk)) ∧ u = hp 2 (keyS S lr c x y)) noX := by
  refine Sp_of (by decide) (Nat.le_of_ble_eq_true rfl) ?_
  have hm := cnt_le (inL S (nI lr)) c
  refine G_aload_n dX6_keyOfNearest_0 rfl ?_
  refine G_iload_n dX6_keyOfNearest_1 rfl ?_
  refine G_cVr (As := [_]) dX6_keyOfNearest_2 kV_X6_layerAt wml_X6_57 (sp_X6_layerAt hlr) rfl cIdx rfl rfl rfl (by decide) ⟨Nat.le_refl 0, Nat.le_refl 0⟩ (Nat.le_of_ble_eq_true rfl) ?_
  refine GS_astore (L' := [(5, _), (0, _), (1, _), (2, _), (3, _), (4, _)]) dX6_keyOfNearest_5 (by decide) rfl ?_
  refine G_iload_n dX6_keyOfNearest_7 rfl ?_
  refine G_iload_n dX6_keyOfNearest_8 rfl ?_
  refine G_cSv (As := [_, _]) dX6_keyOfNearest_9 kT_X6_checkWithinMap wml_X6_72 (sp_X6_checkWithinMap hx hy) rfl rfl (by decide) ⟨Nat.le_refl 0, Nat.le_refl 0⟩ (Nat.le_of_ble_eq_true rfl) ?_
  refine G_iload dX6_keyOfNearest_12 rfl ?_
  refine G_iconst (v := 1) dX6_keyOfNearest_14 (by decide) ?_
  refine G_icmp_lt (tgt := 25) dX6_keyOfNearest_15 (by decide) (fun c_15 => ?_) (fun c_15 => ?_)
  · first
      | exact absurd (show nI 1 ≤ nI kk from nI_le hk1 (by omega)) (fun q => absurd (Int32.lt_of_lt_of_le c_15 q) Int32.lt_irrefl)
      | exact absurd (show nI kk ≤ nI 80 from nI_le hk2 (by decide)) c_22
  · refine G_iload dX6_keyOfNearest_18 rfl ?_
    refine G_bipush (v := 80) dX6_keyOfNearest_20 (by decide) ?_
    refine G_icmp_le (tgt := 36) dX6_keyOfNearest_22 (by decide) (fun c_22 => ?_) (fun c_22 => ?_)
    · refine G_aload_n dX6_keyOfNearest_36 rfl ?_
      refine G_get (k := 0) dX6_keyOfNearest_37 cIdx rfl wfl_X6_10 (by decide) rfl ?_
      refine G_aload dX6_keyOfNearest_40 rfl ?_
      refine G_getN (k := 0) dX6_keyOfNearest_42 (cLayerG hlr) rfl wfn_X6_54 (by decide) rfl ?_
      refine G_iload_n dX6_keyOfNearest_45 rfl ?_
      refine G_iload_n dX6_keyOfNearest_46 rfl ?_
      refine G_cVi (As := [_, _, _]) dX6_keyOfNearest_47 kV_X4_sortByFar wml_X6_327 (sp_X4_sortByFar hc h80) rfl cThings rfl rfl rfl (by decide) ⟨Nat.le_refl 0, Nat.le_refl 0⟩ (Nat.le_of_ble_eq_true rfl) ?_
      refine GS_istore (L' := [(6, _), (5, _), (0, _), (1, _), (2, _), (3, _), (4, _)]) dX6_keyOfNearest_50 (by decide) rfl ?_
      refine G_iload dX6_keyOfNearest_52 rfl ?_
      refine G_iload dX6_keyOfNearest_54 rfl ?_
      refine G_icmp_le (tgt := 63) dX6_keyOfNearest_56 (by decide) (fun c_56 => ?_) (fun c_56 => ?_)
      · refine G_aload_n dX6_keyOfNearest_63 rfl ?_
        refine G_get (k := 0) dX6_keyOfNearest_64 cIdx rfl wfl_X6_10 (by decide) rfl ?_
        refine G_getN (k := 3) dX6_keyOfNearest_67 cThings rfl wfn_X6_330 (by decide) rfl ?_
        refine G_iload dX6_keyOfNearest_70 rfl ?_
        refine G_iconst (v := 1) dX6_keyOfNearest_72 (by decide) ?_
        refine G_isub dX6_keyOfNearest_73 ?_
        rw [show nI kk - 1 = nI (kk - 1) from pk_sub (b := 1) hk1]
        refine G_cVi (As := [_]) dX6_keyOfNearest_74 kV_X3_at wml_X6_116 (sp_X3_at rKeys) rfl (cRow rKeys) rfl rfl rfl (by decide) ⟨Nat.le_refl 0, Nat.le_refl 0⟩ (Nat.le_of_ble_eq_true rfl) ?_
        first
          | (rw [rat_nI (show kk - 1 < 80 by omega) (by decide)])
          | skip
        exact G_iret dX6_keyOfNearest_77 rfl rfl ⟨Nat.le_refl 0, Nat.le_refl 0⟩ ⟨by first | (rw [keyN_yes (by omega) (by omega) c_56]; rfl) | rw [keyN_no (by omega) (by omega) c_56], rfl⟩
      · refine G_iconst (v := (-1)) dX6_keyOfNearest_59 (by decide) ?_
        refine G_goto (tgt := 77) dX6_keyOfNearest_60 (by decide) ?_
        first
          | (rw [rat_nI (show kk - 1 < 80 by omega) (by decide)])
          | skip
        exact G_iret dX6_keyOfNearest_77 rfl rfl ⟨Nat.le_refl 0, Nat.le_refl 0⟩ ⟨by first | (rw [keyN_yes (by omega) (by omega) c_56]; rfl) | rw [keyN_no (by omega) (by omega) c_56], rfl⟩
    · first
        | exact absurd (show nI 1 ≤ nI kk from nI_le hk1 (by omega)) (fun q => absurd (Int32.lt_of_lt_of_le c_15 q) Int32.lt_irrefl)
        | exact absurd (show nI kk ≤ nI 80 from nI_le hk2 (by decide)) c_22
set_option maxHeartbeats 200000 in
theorem sp_X6_nearest (hc : tc S = nI c) (h80 : c ≤ 80) (hlr : lr < 2) {x y : Int32} (hx : okM x) (hy : okM y) {kk : Nat} (hk1 : 1 ≤ kk) (hk2 : kk ≤ 80) : Sp K MX6_nearest 14 0 0 [.ref 0, .int (nI lr), .int x, .int y, .int (nI kk)] (hp 2 S) (fun v u => v = some (.int (if 0 ≤ keyN S lr c x y kk then keyN S lr c x y kk - keyN S lr c x y kk / 128 * 128 else -1)) ∧ u = hp 2 (keyS S lr c x y)) noX := by
  refine Sp_of (by decide) (Nat.le_of_ble_eq_true rfl) ?_
  refine G_aload_n dX6_nearest_0 rfl ?_
  refine G_iload_n dX6_nearest_1 rfl ?_
  refine G_iload_n dX6_nearest_2 rfl ?_
  refine G_iload_n dX6_nearest_3 rfl ?_
  refine G_iload dX6_nearest_4 rfl ?_
  refine G_cVi (As := [_, _, _, _]) dX6_nearest_6 kV_X6_keyOfNearest wml_X6_206 (sp_X6_keyOfNearest hc h80 hlr hx hy hk1 hk2) rfl cIdx rfl rfl rfl (by decide) ⟨Nat.le_refl 0, Nat.le_refl 0⟩ (Nat.le_of_ble_eq_true rfl) ?_
  refine GS_istore (L' := [(5, _), (0, _), (1, _), (2, _), (3, _), (4, _)]) dX6_nearest_9 (by decide) rfl ?_
  refine G_iload dX6_nearest_11 rfl ?_
  refine G_if_ge (tgt := 20) dX6_nearest_13 (by decide) (fun c_13 => ?_) (fun c_13 => ?_)
  · refine G_iload dX6_nearest_20 rfl ?_
    refine G_sipush (v := 128) dX6_nearest_22 (by decide) ?_
    refine G_irem dX6_nearest_25 (by decide) ?_
    exact G_iret dX6_nearest_26 rfl rfl ⟨Nat.le_refl 0, Nat.le_refl 0⟩ ⟨by first | rw [if_pos c_13] | rw [if_neg c_13], rfl⟩
  · refine G_iconst (v := (-1)) dX6_nearest_16 (by decide) ?_
    refine G_goto (tgt := 26) dX6_nearest_17 (by decide) ?_
    exact G_iret dX6_nearest_26 rfl rfl ⟨Nat.le_refl 0, Nat.le_refl 0⟩ ⟨by first | rw [if_pos c_13] | rw [if_neg c_13], rfl⟩
set_option maxHeartbeats 200000 in
theorem sp_X6_far (hc : tc S = nI c) (h80 : c ≤ 80) (hlr : lr < 2) {x y : Int32} (hx : okM x) (hy : okM y) {kk : Nat} (hk1 : 1 ≤ kk) (hk2 : kk ≤ 80) : Sp K MX6_far 14 0 0 [.ref 0, .int (nI lr), .int x, .int y, .int (nI kk)] (hp 2 S) (fun v u => v = some (.int (if 0 ≤ keyN S lr c x y kk then keyN S lr c x y kk / 128 else -1)) ∧ u = hp 2 (keyS S lr c x y)) noX := by
  refine Sp_of (by decide) (Nat.le_of_ble_eq_true rfl) ?_
  refine G_aload_n dX6_far_0 rfl ?_
  refine G_iload_n dX6_far_1 rfl ?_
  refine G_iload_n dX6_far_2 rfl ?_
  refine G_iload_n dX6_far_3 rfl ?_
  refine G_iload dX6_far_4 rfl ?_
  refine G_cVi (As := [_, _, _, _]) dX6_far_6 kV_X6_keyOfNearest wml_X6_206 (sp_X6_keyOfNearest hc h80 hlr hx hy hk1 hk2) rfl cIdx rfl rfl rfl (by decide) ⟨Nat.le_refl 0, Nat.le_refl 0⟩ (Nat.le_of_ble_eq_true rfl) ?_
  refine GS_istore (L' := [(5, _), (0, _), (1, _), (2, _), (3, _), (4, _)]) dX6_far_9 (by decide) rfl ?_
  refine G_iload dX6_far_11 rfl ?_
  refine G_if_ge (tgt := 20) dX6_far_13 (by decide) (fun c_13 => ?_) (fun c_13 => ?_)
  · refine G_iload dX6_far_20 rfl ?_
    refine G_sipush (v := 128) dX6_far_22 (by decide) ?_
    refine G_idiv dX6_far_25 (by decide) ?_
    exact G_iret dX6_far_26 rfl rfl ⟨Nat.le_refl 0, Nat.le_refl 0⟩ ⟨by first | rw [if_pos c_13] | rw [if_neg c_13], rfl⟩
  · refine G_iconst (v := (-1)) dX6_far_16 (by decide) ?_
    refine G_goto (tgt := 26) dX6_far_17 (by decide) ?_
    exact G_iret dX6_far_26 rfl rfl ⟨Nat.le_refl 0, Nat.le_refl 0⟩ ⟨by first | rw [if_pos c_13] | rw [if_neg c_13], rfl⟩
set_option maxHeartbeats 200000 in
theorem keyS_tree {t : Nat} {x y : Int32} (h : 25 ≤ t) {w' z : Int32} {far : Int32} {k : Nat} : visP (keyS S lr c x y) t x y w' z far k = visP S t x y w' z far k := by
  unfold visP bfar bX bY bW bH keyS
  rw [setR_ne (by omega), setR_ne (by omega), setR_ne (by omega), setR_ne (by omega)]
set_option maxHeartbeats 200000 in
theorem sp_X6_visitedFor (hc : tc S = nI c) (h80 : c ≤ 80) (hlr : lr < 2) {N : Nat} (hN : tN S (50 + 25 * lr) = nI N) (hN2 : N ≤ 1205) {x y : Int32} (hx : okM x) (hy : okM y) {kk : Nat} (hk1 : 1 ≤ kk) (hk2 : kk ≤ 80) : Sp K MX6_visitedFor 14 0 0 [.ref 0, .int (nI lr), .int x, .int y, .int (nI kk)] (hp 2 S) (fun v u => v = some (.int (if 0 ≤ keyN S lr c x y kk then nI (cnt (visP S (50 + 25 * lr) x y 0 0 (keyN S lr c x y kk / 128)) N) else nI N)) ∧ u = hp 2 (keyS S lr c x y)) noX := by
  refine Sp_of (by decide) (Nat.le_of_ble_eq_true rfl) ?_
  refine G_aload_n dX6_visitedFor_0 rfl ?_
  refine G_iload_n dX6_visitedFor_1 rfl ?_
  refine G_iload_n dX6_visitedFor_2 rfl ?_
  refine G_iload_n dX6_visitedFor_3 rfl ?_
  refine G_iload dX6_visitedFor_4 rfl ?_
  refine G_cVi (As := [_, _, _, _]) dX6_visitedFor_6 kV_X6_keyOfNearest wml_X6_206 (sp_X6_keyOfNearest hc h80 hlr hx hy hk1 hk2) rfl cIdx rfl rfl rfl (by decide) ⟨Nat.le_refl 0, Nat.le_refl 0⟩ (Nat.le_of_ble_eq_true rfl) ?_
  refine GS_istore (L' := [(5, _), (0, _), (1, _), (2, _), (3, _), (4, _)]) dX6_visitedFor_9 (by decide) rfl ?_
  refine G_aload_n dX6_visitedFor_11 rfl ?_
  refine G_iload_n dX6_visitedFor_12 rfl ?_
  refine G_cVr (As := [_]) dX6_visitedFor_13 kV_X6_layerAt wml_X6_57 (sp_X6_layerAt hlr) rfl cIdx rfl rfl rfl (by decide) ⟨Nat.le_refl 0, Nat.le_refl 0⟩ (Nat.le_of_ble_eq_true rfl) ?_
  refine G_getN (k := 2) dX6_visitedFor_16 (cLayerG hlr) rfl wfn_X6_140 (by decide) rfl ?_
  refine GS_astore (L' := [(6, _), (5, _), (0, _), (1, _), (2, _), (3, _), (4, _)]) dX6_visitedFor_19 (by decide) rfl ?_
  refine G_iload dX6_visitedFor_21 rfl ?_
  refine G_if_ge (tgt := 34) dX6_visitedFor_23 (by decide) (fun c_23 => ?_) (fun c_23 => ?_)
  · refine G_aload dX6_visitedFor_34 rfl ?_
    refine G_iload_n dX6_visitedFor_36 rfl ?_
    refine G_iload_n dX6_visitedFor_37 rfl ?_
    refine G_iconst (v := 0) dX6_visitedFor_38 (by decide) ?_
    refine G_iconst (v := 0) dX6_visitedFor_39 (by decide) ?_
    refine G_iload dX6_visitedFor_40 rfl ?_
    refine G_sipush (v := 128) dX6_visitedFor_42 (by decide) ?_
    refine G_idiv dX6_visitedFor_45 (by decide) ?_
    refine G_cVi (As := [_, _, _, _, _]) dX6_visitedFor_46 kV_X5_countVisited wml_X6_203 (sp_X5_countVisited (S := keyS S lr c x y) (isT hlr) hN hN2) rfl (cTree (isT hlr)) rfl rfl rfl (by decide) ⟨Nat.le_refl 0, Nat.le_refl 0⟩ (Nat.le_of_ble_eq_true rfl) ?_
    exact G_iret dX6_visitedFor_49 rfl rfl ⟨Nat.le_refl 0, Nat.le_refl 0⟩ ⟨by first | (rw [if_pos c_23]; rw [cnt_cong (fun k _ => keyS_tree (by omega))]) | (rw [if_neg c_23]; rw [← hN]; rfl), rfl⟩
  · refine G_aload dX6_visitedFor_26 rfl ?_
    refine G_getN (k := 8) dX6_visitedFor_28 (cTree (isT hlr)) rfl wfn_X6_147 (by decide) rfl ?_
    refine G_goto (tgt := 49) dX6_visitedFor_31 (by decide) ?_
    exact G_iret dX6_visitedFor_49 rfl rfl ⟨Nat.le_refl 0, Nat.le_refl 0⟩ ⟨by first | (rw [if_pos c_23]; rw [cnt_cong (fun k _ => keyS_tree (by omega))]) | (rw [if_neg c_23]; rw [← hN]; rfl), rfl⟩
set_option maxHeartbeats 200000 in
theorem sp_X6_pairs (hc : tc S = nI c) (h80 : c ≤ 80) (hlr : lr < 2) (hlr2 : lr2 < 2) {far : Int32} (hfar : okF far) : Sp K MX6_pairs 14 0 0 [.ref 0, .int (nI lr), .int (nI lr2), .int far] (hp 2 S) (fun v u => v = some (.int (nI (smN (pairG S c (nI lr) (nI lr2) far) c))) ∧ u = hp 2 S) noX := by
  refine Sp_of (by decide) (Nat.le_of_ble_eq_true rfl) ?_
  refine G_aload_n dX6_pairs_0 rfl ?_
  refine G_iload_n dX6_pairs_1 rfl ?_
  refine G_cVr (As := [_]) dX6_pairs_2 kV_X6_layerAt wml_X6_57 (sp_X6_layerAt hlr) rfl cIdx rfl rfl rfl (by decide) ⟨Nat.le_refl 0, Nat.le_refl 0⟩ (Nat.le_of_ble_eq_true rfl) ?_
  refine GS_astore (L' := [(4, _), (0, _), (1, _), (2, _), (3, _)]) dX6_pairs_5 (by decide) rfl ?_
  refine G_aload_n dX6_pairs_7 rfl ?_
  refine G_iload_n dX6_pairs_8 rfl ?_
  refine G_cVr (As := [_]) dX6_pairs_9 kV_X6_layerAt wml_X6_57 (sp_X6_layerAt hlr2) rfl cIdx rfl rfl rfl (by decide) ⟨Nat.le_refl 0, Nat.le_refl 0⟩ (Nat.le_of_ble_eq_true rfl) ?_
  refine GS_astore (L' := [(5, _), (4, _), (0, _), (1, _), (2, _), (3, _)]) dX6_pairs_12 (by decide) rfl ?_
  refine G_iload_n dX6_pairs_14 rfl ?_
  refine G_cSv (As := [_]) dX6_pairs_15 kT_X6_checkFar wml_X6_210 (sp_X6_checkFar hfar) rfl rfl (by decide) ⟨Nat.le_refl 0, Nat.le_refl 0⟩ (Nat.le_of_ble_eq_true rfl) ?_
  refine G_aload_n dX6_pairs_18 rfl ?_
  refine G_get (k := 0) dX6_pairs_19 cIdx rfl wfl_X6_10 (by decide) rfl ?_
  refine G_aload dX6_pairs_22 rfl ?_
  refine G_getN (k := 0) dX6_pairs_24 (cLayerG hlr) rfl wfn_X6_54 (by decide) rfl ?_
  refine G_aload dX6_pairs_27 rfl ?_
  refine G_getN (k := 0) dX6_pairs_29 (cLayerG hlr2) rfl wfn_X6_54 (by decide) rfl ?_
  refine G_iload_n dX6_pairs_32 rfl ?_
  refine G_cVi (As := [_, _, _]) dX6_pairs_33 kV_X4_countPairs wml_X6_213 (sp_X4_countPairs hc h80) rfl cThings rfl rfl rfl (by decide) ⟨Nat.le_refl 0, Nat.le_refl 0⟩ (Nat.le_of_ble_eq_true rfl) ?_
  exact G_iret dX6_pairs_36 rfl rfl ⟨Nat.le_refl 0, Nat.le_refl 0⟩ ⟨rfl, rfl⟩
set_option maxHeartbeats 200000 in
theorem sp_X6_clusters (hc : tc S = nI c) (h80 : c ≤ 80) (hlr : lr < 2) {far : Int32} (hfar : okF far) : Sp K MX6_clusters 14 0 0 [.ref 0, .int (nI lr), .int far] (hp 2 S) (fun v u => v = some (.int (nI (cnt (rootP S (nI lr) (gOut S c (nI lr) far (S.1 18) c)) c))) ∧ u = hp 2 (setR S 18 (gOut S c (nI lr) far (S.1 18) c))) noX := by
  refine Sp_of (by decide) (Nat.le_of_ble_eq_true rfl) ?_
  refine G_aload_n dX6_clusters_0 rfl ?_
  refine G_iload_n dX6_clusters_1 rfl ?_
  refine G_cVr (As := [_]) dX6_clusters_2 kV_X6_layerAt wml_X6_57 (sp_X6_layerAt hlr) rfl cIdx rfl rfl rfl (by decide) ⟨Nat.le_refl 0, Nat.le_refl 0⟩ (Nat.le_of_ble_eq_true rfl) ?_
  refine GS_astore_n (L' := [(3, _), (0, _), (1, _), (2, _)]) dX6_clusters_5 (by decide) rfl ?_
  refine G_iload_n dX6_clusters_6 rfl ?_
  refine G_cSv (As := [_]) dX6_clusters_7 kT_X6_checkFar wml_X6_210 (sp_X6_checkFar hfar) rfl rfl (by decide) ⟨Nat.le_refl 0, Nat.le_refl 0⟩ (Nat.le_of_ble_eq_true rfl) ?_
  refine G_aload_n dX6_clusters_10 rfl ?_
  refine G_get (k := 0) dX6_clusters_11 cIdx rfl wfl_X6_10 (by decide) rfl ?_
  refine G_aload_n dX6_clusters_14 rfl ?_
  refine G_getN (k := 0) dX6_clusters_15 (cLayerG hlr) rfl wfn_X6_54 (by decide) rfl ?_
  refine G_iload_n dX6_clusters_18 rfl ?_
  refine G_cVv (As := [_, _]) dX6_clusters_19 kV_X4_gatherClusters wml_X6_224 (sp_X4_gatherClusters hc h80) rfl cThings rfl rfl rfl (by decide) ⟨Nat.le_refl 0, Nat.le_refl 0⟩ (Nat.le_of_ble_eq_true rfl) ?_
  refine G_aload_n dX6_clusters_22 rfl ?_
  refine G_get (k := 0) dX6_clusters_23 cIdx rfl wfl_X6_10 (by decide) rfl ?_
  refine G_aload_n dX6_clusters_26 rfl ?_
  refine G_getN (k := 0) dX6_clusters_27 (cLayerG hlr) rfl wfn_X6_54 (by decide) rfl ?_
  refine G_cVi (As := [_]) dX6_clusters_30 kV_X4_countClusters wml_X6_227 (sp_X4_countClusters (S := setR S 18 (gOut S c (nI lr) far (S.1 18) c)) hc h80) rfl cThings rfl rfl rfl (by decide) ⟨Nat.le_refl 0, Nat.le_refl 0⟩ (Nat.le_of_ble_eq_true rfl) ?_
  exact G_iret dX6_clusters_33 rfl rfl ⟨Nat.le_refl 0, Nat.le_refl 0⟩ ⟨rfl, rfl⟩
set_option maxHeartbeats 200000 in
theorem sp_X6_greatest (hc : tc S = nI c) (h80 : c ≤ 80) (hlr : lr < 2) {far : Int32} (hfar : okF far) : Sp K MX6_greatest 14 0 0 [.ref 0, .int (nI lr), .int far] (hp 2 S) (fun v u => v = some (.int (grt S c (nI lr) (gOut S c (nI lr) far (S.1 18) c) c)) ∧ u = hp 2 (setR S 18 (gOut S c (nI lr) far (S.1 18) c))) noX := by
  refine Sp_of (by decide) (Nat.le_of_ble_eq_true rfl) ?_
  have hg : ∀ n, grt (setR S 18 (gOut S c (nI lr) far (S.1 18) c)) c (nI lr) (gOut S c (nI lr) far (S.1 18) c) n = grt S c (nI lr) (gOut S c (nI lr) far (S.1 18) c) n := by
    intro n
    induction n with
    | zero => rfl
    | succ n ih => rw [grt, grt, ih]; rfl
  refine G_aload_n dX6_greatest_0 rfl ?_
  refine G_iload_n dX6_greatest_1 rfl ?_
  refine G_cVr (As := [_]) dX6_greatest_2 kV_X6_layerAt wml_X6_57 (sp_X6_layerAt hlr) rfl cIdx rfl rfl rfl (by decide) ⟨Nat.le_refl 0, Nat.le_refl 0⟩ (Nat.le_of_ble_eq_true rfl) ?_
  refine GS_astore_n (L' := [(3, _), (0, _), (1, _), (2, _)]) dX6_greatest_5 (by decide) rfl ?_
  refine G_iload_n dX6_greatest_6 rfl ?_
  refine G_cSv (As := [_]) dX6_greatest_7 kT_X6_checkFar wml_X6_210 (sp_X6_checkFar hfar) rfl rfl (by decide) ⟨Nat.le_refl 0, Nat.le_refl 0⟩ (Nat.le_of_ble_eq_true rfl) ?_
  refine G_aload_n dX6_greatest_10 rfl ?_
  refine G_get (k := 0) dX6_greatest_11 cIdx rfl wfl_X6_10 (by decide) rfl ?_
  refine G_aload_n dX6_greatest_14 rfl ?_
  refine G_getN (k := 0) dX6_greatest_15 (cLayerG hlr) rfl wfn_X6_54 (by decide) rfl ?_
  refine G_iload_n dX6_greatest_18 rfl ?_
  refine G_cVv (As := [_, _]) dX6_greatest_19 kV_X4_gatherClusters wml_X6_224 (sp_X4_gatherClusters hc h80) rfl cThings rfl rfl rfl (by decide) ⟨Nat.le_refl 0, Nat.le_refl 0⟩ (Nat.le_of_ble_eq_true rfl) ?_
  refine G_aload_n dX6_greatest_22 rfl ?_
  refine G_get (k := 0) dX6_greatest_23 cIdx rfl wfl_X6_10 (by decide) rfl ?_
  refine G_aload_n dX6_greatest_26 rfl ?_
  refine G_getN (k := 0) dX6_greatest_27 (cLayerG hlr) rfl wfn_X6_54 (by decide) rfl ?_
  refine G_cVi (As := [_]) dX6_greatest_30 kV_X4_greatestCluster wml_X6_230 (sp_X4_greatestCluster (S := setR S 18 (gOut S c (nI lr) far (S.1 18) c)) hc h80) rfl cThings rfl rfl rfl (by decide) ⟨Nat.le_refl 0, Nat.le_refl 0⟩ (Nat.le_of_ble_eq_true rfl) ?_
  exact G_iret dX6_greatest_33 rfl rfl ⟨Nat.le_refl 0, Nat.le_refl 0⟩ ⟨by rw [← hg]; rfl, rfl⟩
set_option maxHeartbeats 200000 in
theorem sp_X6_area (h0 : S.2.1 20 2 = 0) : Sp K MX6_area 2 0 0 [.ref 0] (hp 2 S) (fun v u => v = some (.int 0) ∧ u = hp 2 S) noX := by
  refine Sp_of (by decide) (Nat.le_of_ble_eq_true rfl) ?_
  refine G_aload_n dX6_area_0 rfl ?_
  refine G_get (k := 2) dX6_area_1 cIdx rfl wfl_X6_25 (by decide) rfl ?_
  refine G_getN (k := 2) dX6_area_4 cFence rfl wfn_X6_233 (by decide) rfl ?_
  rw [h0]
  refine G_iconst (v := 3) dX6_area_7 (by decide) ?_
  refine G_icmp_ge (tgt := 15) dX6_area_8 (by decide) (fun c_8 => ?_) (fun c_8 => ?_)
  · exact absurd c_8 (by decide)
  · refine G_iconst (v := 0) dX6_area_11 (by decide) ?_
    refine G_goto (tgt := 22) dX6_area_12 (by decide) ?_
    exact G_iret dX6_area_22 rfl rfl ⟨Nat.le_refl 0, Nat.le_refl 0⟩ ⟨rfl, rfl⟩
end AP
end
section
section AQ
variable {K : GK} {S : St} {c lr : Nat} {ly t t' : Nat}
set_option maxHeartbeats 200000 in
theorem Int32_a (a b c : Int32) : a + b + c = a + (b + c) := Int32.add_assoc a b c
set_option maxHeartbeats 200000 in
theorem lp_cvI (ht : isTree ly t) (ht' : isTree ly t') (ok' : okC S t') {far : Int32} {f j : Nat} (hj : j < 11) (ih : ∀ u v : Int32, Sp K MX6_countVisitedPairs (f + 10) 0 0 [.ref t, .int u, .ref t', .int v, .int far, .int (nI (j + 1))] (hp ly S) (fun v2 w => v2 = some (.int (cvp S t t' far f u v)) ∧ w = hp ly S) noX) {u v : Int32} {i : Nat} {base : Int32} {Qc : Array Value → State → Outcome → State → Prop} {XC : String → State → State → Prop} (kk : G K MX6_countVisitedPairs (f + 11) 0 0 0 0 65 [(9, .int (nI (i + 1))), (8, .int (base + smI (fun j2 => cvp S t t' far f (dnV S t u i) (dnV S t' v j2)) (nbV S t' v))), (7, .int (rat (tCt S t') 1205 v)), (6, .int (rat (tCt S t) 1205 u)), (0, .ref t), (1, .int u), (2, .ref t'), (3, .int v), (4, .int far), (5, .int (nI j))] [] (hp ly S) Qc XC) : ∀ d q, q + d = nbV S t' v → G K MX6_countVisitedPairs (f + 11) 0 0 0 0 98 [(11, .int (nI q)), (10, .int (dnV S t u i)), (9, .int (nI i)), (8, .int (base + smI (fun j2 => cvp S t t' far f (dnV S t u i) (dnV S t' v j2)) q)), (7, .int (rat (tCt S t') 1205 v)), (6, .int (rat (tCt S t) 1205 u)), (0, .ref t), (1, .int u), (2, .ref t'), (3, .int v), (4, .int far), (5, .int (nI j))] [] (hp ly S) Qc XC := by
  obtain ⟨n, hn8, hn⟩ := ok' v
  have hb : nbV S t' v = if n = 0 then 1 else n := by
    unfold nbV
    rw [hn]
    rcases Nat.eq_zero_or_pos n with e | e
    · subst e; rfl
    · rw [if_neg (nI_ne0 e (by omega)), if_neg (by omega), nI_clamp (by omega)]
  have hb8 : nbV S t' v ≤ 8 := by rw [hb]; split <;> omega
  have hb1 : 1 ≤ nbV S t' v := by rw [hb]; split <;> omega
  intro d
  induction d with
  | zero =>
    intro q hq
    obtain rfl : q = nbV S t' v := by omega
    refine G_iload dX6_countVisitedPairs_98 rfl ?_
    refine G_if_eq (tgt := 110) dX6_countVisitedPairs_100 (by decide) (fun c_100 => ?_) (fun c_100 => ?_)
    · exact absurd c_100 (nI_ne0 (by omega) (by omega))
    · refine G_iload dX6_countVisitedPairs_103 rfl ?_
      refine G_iload dX6_countVisitedPairs_105 rfl ?_
      refine G_icmp_ge (tgt := 154) dX6_countVisitedPairs_107 (by decide) (fun c_107 => ?_) (fun c_107 => ?_)
      · refine GS_iinc (v := 1) (L' := [(9, _), (11, _), (10, _), (8, _), (7, _), (6, _), (0, _), (1, _), (2, _), (3, _), (4, _), (5, _)]) dX6_countVisitedPairs_154 rfl (by decide) (by decide) rfl ?_
        refine G_goto (tgt := 65) dX6_countVisitedPairs_157 (by decide) ?_
        refine G_sub [0, 3, 4, 5, 6, 7, 8, 9, 10, 11] rfl ?_
        rw [nI_1 i]
        exact kk
      · rw [hn] at c_107
        exact absurd (nI_le (show n ≤ nbV S t' v by rw [hb]; split <;> omega) (by omega)) c_107
  | succ d ih2 =>
    intro q hq
    have z := ih2 (q + 1) (by omega)
    rw [smI, ← Int32_a] at z
    refine G_iload dX6_countVisitedPairs_98 rfl ?_
    refine G_if_eq (tgt := 110) dX6_countVisitedPairs_100 (by decide) (fun c_100 => ?_) (fun c_100 => ?_)
    · refine G_iload dX6_countVisitedPairs_110 rfl ?_
      refine G_if_ne (tgt := 119) dX6_countVisitedPairs_112 (by decide) (fun c_112 => ?_) (fun c_112 => ?_)
      · refine G_aload_n dX6_countVisitedPairs_119 rfl ?_
        refine G_iload_n dX6_countVisitedPairs_120 rfl ?_
        refine G_iload dX6_countVisitedPairs_121 rfl ?_
        refine G_cVi (As := [_, _]) dX6_countVisitedPairs_123 kV_X5_belowAt wml_X6_346 (sp_X5_belowAt ht') rfl (cTree ht') rfl rfl rfl (by omega) ⟨Nat.le_refl 0, Nat.le_refl 0⟩ (Nat.le_of_ble_eq_true rfl) ?_
        first
          | rw [show belV S t' v (nI q) = dnV S t' v q by unfold dnV; rw [if_neg c_112]]
          | (have e9 : dnV S t' v q = v := by (unfold dnV; rw [if_pos c_112])
             rw [show G K MX6_countVisitedPairs (f + 11) 0 0 0 0 126 _ [.int v] (hp ly S) Qc XC = G K MX6_countVisitedPairs (f + 11) 0 0 0 0 126 _ [.int (dnV S t' v q)] (hp ly S) Qc XC by rw [e9]])
        refine GS_istore (L' := [(12, _), (11, _), (10, _), (9, _), (8, _), (7, _), (6, _), (0, _), (1, _), (2, _), (3, _), (4, _), (5, _)]) dX6_countVisitedPairs_126 (by decide) rfl ?_
        refine G_iload dX6_countVisitedPairs_128 rfl ?_
        refine G_aload_n dX6_countVisitedPairs_130 rfl ?_
        refine G_iload dX6_countVisitedPairs_131 rfl ?_
        refine G_aload_n dX6_countVisitedPairs_133 rfl ?_
        refine G_iload dX6_countVisitedPairs_134 rfl ?_
        refine G_iload dX6_countVisitedPairs_136 rfl ?_
        refine G_iload dX6_countVisitedPairs_138 rfl ?_
        refine G_iconst (v := 1) dX6_countVisitedPairs_140 (by decide) ?_
        refine G_iadd dX6_countVisitedPairs_141 ?_
        rw [nI_1 j]
        refine G_cSi (As := [_, _, _, _, _, _]) dX6_countVisitedPairs_142 kT_X6_countVisitedPairs wml_X6_220 (ih _ _) rfl rfl (by omega) ⟨Nat.le_refl 0, Nat.le_refl 0⟩ (Nat.le_of_ble_eq_true rfl) ?_
        refine G_iadd dX6_countVisitedPairs_145 ?_
        refine GS_istore (L' := [(8, _), (12, _), (11, _), (10, _), (9, _), (7, _), (6, _), (0, _), (1, _), (2, _), (3, _), (4, _), (5, _)]) dX6_countVisitedPairs_146 (by decide) rfl ?_
        refine GS_iinc (v := 1) (L' := [(11, _), (8, _), (12, _), (10, _), (9, _), (7, _), (6, _), (0, _), (1, _), (2, _), (3, _), (4, _), (5, _)]) dX6_countVisitedPairs_148 rfl (by decide) (by decide) rfl ?_
        refine G_goto (tgt := 98) dX6_countVisitedPairs_151 (by decide) ?_
        refine G_sub [0, 3, 4, 1, 5, 6, 7, 8, 9, 10, 11, 12] rfl ?_
        rw [nI_1 q]
        exact z
      · refine G_iload_n dX6_countVisitedPairs_115 rfl ?_
        refine G_goto (tgt := 126) dX6_countVisitedPairs_116 (by decide) ?_
        first
          | rw [show belV S t' v (nI q) = dnV S t' v q by unfold dnV; rw [if_neg c_112]]
          | (have e9 : dnV S t' v q = v := by (unfold dnV; rw [if_pos c_112])
             rw [show G K MX6_countVisitedPairs (f + 11) 0 0 0 0 126 _ [.int v] (hp ly S) Qc XC = G K MX6_countVisitedPairs (f + 11) 0 0 0 0 126 _ [.int (dnV S t' v q)] (hp ly S) Qc XC by rw [e9]])
        refine GS_istore (L' := [(12, _), (11, _), (10, _), (9, _), (8, _), (7, _), (6, _), (0, _), (1, _), (2, _), (3, _), (4, _), (5, _)]) dX6_countVisitedPairs_126 (by decide) rfl ?_
        refine G_iload dX6_countVisitedPairs_128 rfl ?_
        refine G_aload_n dX6_countVisitedPairs_130 rfl ?_
        refine G_iload dX6_countVisitedPairs_131 rfl ?_
        refine G_aload_n dX6_countVisitedPairs_133 rfl ?_
        refine G_iload dX6_countVisitedPairs_134 rfl ?_
        refine G_iload dX6_countVisitedPairs_136 rfl ?_
        refine G_iload dX6_countVisitedPairs_138 rfl ?_
        refine G_iconst (v := 1) dX6_countVisitedPairs_140 (by decide) ?_
        refine G_iadd dX6_countVisitedPairs_141 ?_
        rw [nI_1 j]
        refine G_cSi (As := [_, _, _, _, _, _]) dX6_countVisitedPairs_142 kT_X6_countVisitedPairs wml_X6_220 (ih _ _) rfl rfl (by omega) ⟨Nat.le_refl 0, Nat.le_refl 0⟩ (Nat.le_of_ble_eq_true rfl) ?_
        refine G_iadd dX6_countVisitedPairs_145 ?_
        refine GS_istore (L' := [(8, _), (12, _), (11, _), (10, _), (9, _), (7, _), (6, _), (0, _), (1, _), (2, _), (3, _), (4, _), (5, _)]) dX6_countVisitedPairs_146 (by decide) rfl ?_
        refine GS_iinc (v := 1) (L' := [(11, _), (8, _), (12, _), (10, _), (9, _), (7, _), (6, _), (0, _), (1, _), (2, _), (3, _), (4, _), (5, _)]) dX6_countVisitedPairs_148 rfl (by decide) (by decide) rfl ?_
        refine G_goto (tgt := 98) dX6_countVisitedPairs_151 (by decide) ?_
        refine G_sub [0, 3, 4, 1, 5, 6, 7, 8, 9, 10, 11, 12] rfl ?_
        rw [nI_1 q]
        exact z
    · refine G_iload dX6_countVisitedPairs_103 rfl ?_
      refine G_iload dX6_countVisitedPairs_105 rfl ?_
      refine G_icmp_ge (tgt := 154) dX6_countVisitedPairs_107 (by decide) (fun c_107 => ?_) (fun c_107 => ?_)
      · rw [hn] at c_107
        exact absurd c_107 (nI_ge (show q < n by
          have h9 : ¬ q = 0 := fun e => c_100 (by rw [e]; rfl)
          have h8 : q < if n = 0 then 1 else n := by rw [← hb]; omega
          split at h8 <;> omega) (by omega))
      · refine G_iload dX6_countVisitedPairs_110 rfl ?_
        refine G_if_ne (tgt := 119) dX6_countVisitedPairs_112 (by decide) (fun c_112 => ?_) (fun c_112 => ?_)
        · refine G_aload_n dX6_countVisitedPairs_119 rfl ?_
          refine G_iload_n dX6_countVisitedPairs_120 rfl ?_
          refine G_iload dX6_countVisitedPairs_121 rfl ?_
          refine G_cVi (As := [_, _]) dX6_countVisitedPairs_123 kV_X5_belowAt wml_X6_346 (sp_X5_belowAt ht') rfl (cTree ht') rfl rfl rfl (by omega) ⟨Nat.le_refl 0, Nat.le_refl 0⟩ (Nat.le_of_ble_eq_true rfl) ?_
          first
            | rw [show belV S t' v (nI q) = dnV S t' v q by unfold dnV; rw [if_neg c_112]]
            | (have e9 : dnV S t' v q = v := by (unfold dnV; rw [if_pos c_112])
               rw [show G K MX6_countVisitedPairs (f + 11) 0 0 0 0 126 _ [.int v] (hp ly S) Qc XC = G K MX6_countVisitedPairs (f + 11) 0 0 0 0 126 _ [.int (dnV S t' v q)] (hp ly S) Qc XC by rw [e9]])
          refine GS_istore (L' := [(12, _), (11, _), (10, _), (9, _), (8, _), (7, _), (6, _), (0, _), (1, _), (2, _), (3, _), (4, _), (5, _)]) dX6_countVisitedPairs_126 (by decide) rfl ?_
          refine G_iload dX6_countVisitedPairs_128 rfl ?_
          refine G_aload_n dX6_countVisitedPairs_130 rfl ?_
          refine G_iload dX6_countVisitedPairs_131 rfl ?_
          refine G_aload_n dX6_countVisitedPairs_133 rfl ?_
          refine G_iload dX6_countVisitedPairs_134 rfl ?_
          refine G_iload dX6_countVisitedPairs_136 rfl ?_
          refine G_iload dX6_countVisitedPairs_138 rfl ?_
          refine G_iconst (v := 1) dX6_countVisitedPairs_140 (by decide) ?_
          refine G_iadd dX6_countVisitedPairs_141 ?_
          rw [nI_1 j]
          refine G_cSi (As := [_, _, _, _, _, _]) dX6_countVisitedPairs_142 kT_X6_countVisitedPairs wml_X6_220 (ih _ _) rfl rfl (by omega) ⟨Nat.le_refl 0, Nat.le_refl 0⟩ (Nat.le_of_ble_eq_true rfl) ?_
          refine G_iadd dX6_countVisitedPairs_145 ?_
          refine GS_istore (L' := [(8, _), (12, _), (11, _), (10, _), (9, _), (7, _), (6, _), (0, _), (1, _), (2, _), (3, _), (4, _), (5, _)]) dX6_countVisitedPairs_146 (by decide) rfl ?_
          refine GS_iinc (v := 1) (L' := [(11, _), (8, _), (12, _), (10, _), (9, _), (7, _), (6, _), (0, _), (1, _), (2, _), (3, _), (4, _), (5, _)]) dX6_countVisitedPairs_148 rfl (by decide) (by decide) rfl ?_
          refine G_goto (tgt := 98) dX6_countVisitedPairs_151 (by decide) ?_
          refine G_sub [0, 3, 4, 1, 5, 6, 7, 8, 9, 10, 11, 12] rfl ?_
          rw [nI_1 q]
          exact z
        · refine G_iload_n dX6_countVisitedPairs_115 rfl ?_
          refine G_goto (tgt := 126) dX6_countVisitedPairs_116 (by decide) ?_
          first
            | rw [show belV S t' v (nI q) = dnV S t' v q by unfold dnV; rw [if_neg c_112]]
            | (have e9 : dnV S t' v q = v := by (unfold dnV; rw [if_pos c_112])
               rw [show G K MX6_countVisitedPairs (f + 11) 0 0 0 0 126 _ [.int v] (hp ly S) Qc XC = G K MX6_countVisitedPairs (f + 11) 0 0 0 0 126 _ [.int (dnV S t' v q)] (hp ly S) Qc XC by rw [e9]])
          refine GS_istore (L' := [(12, _), (11, _), (10, _), (9, _), (8, _), (7, _), (6, _), (0, _), (1, _), (2, _), (3, _), (4, _), (5, _)]) dX6_countVisitedPairs_126 (by decide) rfl ?_
          refine G_iload dX6_countVisitedPairs_128 rfl ?_
          refine G_aload_n dX6_countVisitedPairs_130 rfl ?_
          refine G_iload dX6_countVisitedPairs_131 rfl ?_
          refine G_aload_n dX6_countVisitedPairs_133 rfl ?_
          refine G_iload dX6_countVisitedPairs_134 rfl ?_
          refine G_iload dX6_countVisitedPairs_136 rfl ?_
          refine G_iload dX6_countVisitedPairs_138 rfl ?_
          refine G_iconst (v := 1) dX6_countVisitedPairs_140 (by decide) ?_
          refine G_iadd dX6_countVisitedPairs_141 ?_
          rw [nI_1 j]
          refine G_cSi (As := [_, _, _, _, _, _]) dX6_countVisitedPairs_142 kT_X6_countVisitedPairs wml_X6_220 (ih _ _) rfl rfl (by omega) ⟨Nat.le_refl 0, Nat.le_refl 0⟩ (Nat.le_of_ble_eq_true rfl) ?_
          refine G_iadd dX6_countVisitedPairs_145 ?_
          refine GS_istore (L' := [(8, _), (12, _), (11, _), (10, _), (9, _), (7, _), (6, _), (0, _), (1, _), (2, _), (3, _), (4, _), (5, _)]) dX6_countVisitedPairs_146 (by decide) rfl ?_
          refine GS_iinc (v := 1) (L' := [(11, _), (8, _), (12, _), (10, _), (9, _), (7, _), (6, _), (0, _), (1, _), (2, _), (3, _), (4, _), (5, _)]) dX6_countVisitedPairs_148 rfl (by decide) (by decide) rfl ?_
          refine G_goto (tgt := 98) dX6_countVisitedPairs_151 (by decide) ?_
          refine G_sub [0, 3, 4, 1, 5, 6, 7, 8, 9, 10, 11, 12] rfl ?_
          rw [nI_1 q]
          exact z
set_option maxHeartbeats 200000 in
theorem lp_cvO (ht : isTree ly t) (ht' : isTree ly t') (ok' : okC S t') {far : Int32} {f j : Nat} (hj : j < 11) (ih : ∀ u v : Int32, Sp K MX6_countVisitedPairs (f + 10) 0 0 [.ref t, .int u, .ref t', .int v, .int far, .int (nI (j + 1))] (hp ly S) (fun v2 w => v2 = some (.int (cvp S t t' far f u v)) ∧ w = hp ly S) noX) {u v : Int32} (ok : okC S t) : ∀ d q, q + d = nbV S t u → G K MX6_countVisitedPairs (f + 11) 0 0 0 0 65 [(9, .int (nI q)), (8, .int (1 + smI (fun i => smI (fun j2 => cvp S t t' far f (dnV S t u i) (dnV S t' v j2)) (nbV S t' v)) q)), (7, .int (rat (tCt S t') 1205 v)), (6, .int (rat (tCt S t) 1205 u)), (0, .ref t), (1, .int u), (2, .ref t'), (3, .int v), (4, .int far), (5, .int (nI j))] [] (hp ly S) (QcP K (fun v2 w => v2 = some (.int (1 + smI (fun i => smI (fun j2 => cvp S t t' far f (dnV S t u i) (dnV S t' v j2)) (nbV S t' v)) (nbV S t u))) ∧ w = hp ly S)) (XcP K noX) := by
  obtain ⟨n, hn8, hn⟩ := ok u
  have hb : nbV S t u = if n = 0 then 1 else n := by
    unfold nbV
    rw [hn]
    rcases Nat.eq_zero_or_pos n with e | e
    · subst e; rfl
    · rw [if_neg (nI_ne0 e (by omega)), if_neg (by omega), nI_clamp (by omega)]
  have hb8 : nbV S t u ≤ 8 := by rw [hb]; split <;> omega
  have hb1 : 1 ≤ nbV S t u := by rw [hb]; split <;> omega
  intro d
  induction d with
  | zero =>
    intro q hq
    obtain rfl : q = nbV S t u := by omega
    refine G_iload dX6_countVisitedPairs_65 rfl ?_
    refine G_if_eq (tgt := 77) dX6_countVisitedPairs_67 (by decide) (fun c_67 => ?_) (fun c_67 => ?_)
    · exact absurd c_67 (nI_ne0 (by omega) (by omega))
    · refine G_iload dX6_countVisitedPairs_70 rfl ?_
      refine G_iload dX6_countVisitedPairs_72 rfl ?_
      refine G_icmp_ge (tgt := 160) dX6_countVisitedPairs_74 (by decide) (fun c_74 => ?_) (fun c_74 => ?_)
      · refine G_iload dX6_countVisitedPairs_160 rfl ?_
        exact G_iret dX6_countVisitedPairs_162 rfl rfl ⟨Nat.le_refl 0, Nat.le_refl 0⟩ ⟨rfl, rfl⟩
      · rw [hn] at c_74
        exact absurd (nI_le (show n ≤ nbV S t u by rw [hb]; split <;> omega) (by omega)) c_74
  | succ d ih2 =>
    intro q hq
    have z := ih2 (q + 1) (by omega)
    rw [smI, ← Int32_a] at z
    refine G_iload dX6_countVisitedPairs_65 rfl ?_
    refine G_if_eq (tgt := 77) dX6_countVisitedPairs_67 (by decide) (fun c_67 => ?_) (fun c_67 => ?_)
    · refine G_iload dX6_countVisitedPairs_77 rfl ?_
      refine G_if_ne (tgt := 86) dX6_countVisitedPairs_79 (by decide) (fun c_79 => ?_) (fun c_79 => ?_)
      · refine G_aload_n dX6_countVisitedPairs_86 rfl ?_
        refine G_iload_n dX6_countVisitedPairs_87 rfl ?_
        refine G_iload dX6_countVisitedPairs_88 rfl ?_
        refine G_cVi (As := [_, _]) dX6_countVisitedPairs_90 kV_X5_belowAt wml_X6_346 (sp_X5_belowAt ht) rfl (cTree ht) rfl rfl rfl (by omega) ⟨Nat.le_refl 0, Nat.le_refl 0⟩ (Nat.le_of_ble_eq_true rfl) ?_
        first
          | rw [show belV S t u (nI q) = dnV S t u q by unfold dnV; rw [if_neg c_79]]
          | (have e9 : dnV S t u q = u := by (unfold dnV; rw [if_pos c_79])
             rw [show G K MX6_countVisitedPairs (f + 11) 0 0 0 0 93 _ [.int u] (hp ly S) _ _ = G K MX6_countVisitedPairs (f + 11) 0 0 0 0 93 _ [.int (dnV S t u q)] (hp ly S) _ _ by rw [e9]])
        refine GS_istore (L' := [(10, _), (9, _), (8, _), (7, _), (6, _), (0, _), (1, _), (2, _), (3, _), (4, _), (5, _)]) dX6_countVisitedPairs_93 (by decide) rfl ?_
        refine G_iconst (v := 0) dX6_countVisitedPairs_95 (by decide) ?_
        refine GS_istore (L' := [(11, _), (10, _), (9, _), (8, _), (7, _), (6, _), (0, _), (1, _), (2, _), (3, _), (4, _), (5, _)]) dX6_countVisitedPairs_96 (by decide) rfl ?_
        refine G_sub [0, 1, 2, 3, 4, 5, 6, 7, 8, 9, 10, 11] rfl ?_
        have y := lp_cvI (i := q) (base := 1 + smI (fun i => smI (fun j2 => cvp S t t' far f (dnV S t u i) (dnV S t' v j2)) (nbV S t' v)) q) ht ht' ok' hj ih z (nbV S t' v) 0 (by omega)
        rw [show smI _ 0 = 0 from rfl, Int32.add_zero] at y
        exact y
      · refine G_iload_n dX6_countVisitedPairs_82 rfl ?_
        refine G_goto (tgt := 93) dX6_countVisitedPairs_83 (by decide) ?_
        first
          | rw [show belV S t u (nI q) = dnV S t u q by unfold dnV; rw [if_neg c_79]]
          | (have e9 : dnV S t u q = u := by (unfold dnV; rw [if_pos c_79])
             rw [show G K MX6_countVisitedPairs (f + 11) 0 0 0 0 93 _ [.int u] (hp ly S) _ _ = G K MX6_countVisitedPairs (f + 11) 0 0 0 0 93 _ [.int (dnV S t u q)] (hp ly S) _ _ by rw [e9]])
        refine GS_istore (L' := [(10, _), (9, _), (8, _), (7, _), (6, _), (0, _), (1, _), (2, _), (3, _), (4, _), (5, _)]) dX6_countVisitedPairs_93 (by decide) rfl ?_
        refine G_iconst (v := 0) dX6_countVisitedPairs_95 (by decide) ?_
        refine GS_istore (L' := [(11, _), (10, _), (9, _), (8, _), (7, _), (6, _), (0, _), (1, _), (2, _), (3, _), (4, _), (5, _)]) dX6_countVisitedPairs_96 (by decide) rfl ?_
        refine G_sub [0, 1, 2, 3, 4, 5, 6, 7, 8, 9, 10, 11] rfl ?_
        have y := lp_cvI (i := q) (base := 1 + smI (fun i => smI (fun j2 => cvp S t t' far f (dnV S t u i) (dnV S t' v j2)) (nbV S t' v)) q) ht ht' ok' hj ih z (nbV S t' v) 0 (by omega)
        rw [show smI _ 0 = 0 from rfl, Int32.add_zero] at y
        exact y
    · refine G_iload dX6_countVisitedPairs_70 rfl ?_
      refine G_iload dX6_countVisitedPairs_72 rfl ?_
      refine G_icmp_ge (tgt := 160) dX6_countVisitedPairs_74 (by decide) (fun c_74 => ?_) (fun c_74 => ?_)
      · rw [hn] at c_74
        exact absurd c_74 (nI_ge (show q < n by
          have h9 : ¬ q = 0 := fun e => c_67 (by rw [e]; rfl)
          have h8 : q < if n = 0 then 1 else n := by rw [← hb]; omega
          split at h8 <;> omega) (by omega))
      · refine G_iload dX6_countVisitedPairs_77 rfl ?_
        refine G_if_ne (tgt := 86) dX6_countVisitedPairs_79 (by decide) (fun c_79 => ?_) (fun c_79 => ?_)
        · refine G_aload_n dX6_countVisitedPairs_86 rfl ?_
          refine G_iload_n dX6_countVisitedPairs_87 rfl ?_
          refine G_iload dX6_countVisitedPairs_88 rfl ?_
          refine G_cVi (As := [_, _]) dX6_countVisitedPairs_90 kV_X5_belowAt wml_X6_346 (sp_X5_belowAt ht) rfl (cTree ht) rfl rfl rfl (by omega) ⟨Nat.le_refl 0, Nat.le_refl 0⟩ (Nat.le_of_ble_eq_true rfl) ?_
          first
            | rw [show belV S t u (nI q) = dnV S t u q by unfold dnV; rw [if_neg c_79]]
            | (have e9 : dnV S t u q = u := by (unfold dnV; rw [if_pos c_79])
               rw [show G K MX6_countVisitedPairs (f + 11) 0 0 0 0 93 _ [.int u] (hp ly S) _ _ = G K MX6_countVisitedPairs (f + 11) 0 0 0 0 93 _ [.int (dnV S t u q)] (hp ly S) _ _ by rw [e9]])
          refine GS_istore (L' := [(10, _), (9, _), (8, _), (7, _), (6, _), (0, _), (1, _), (2, _), (3, _), (4, _), (5, _)]) dX6_countVisitedPairs_93 (by decide) rfl ?_
          refine G_iconst (v := 0) dX6_countVisitedPairs_95 (by decide) ?_
          refine GS_istore (L' := [(11, _), (10, _), (9, _), (8, _), (7, _), (6, _), (0, _), (1, _), (2, _), (3, _), (4, _), (5, _)]) dX6_countVisitedPairs_96 (by decide) rfl ?_
          refine G_sub [0, 1, 2, 3, 4, 5, 6, 7, 8, 9, 10, 11] rfl ?_
          have y := lp_cvI (i := q) (base := 1 + smI (fun i => smI (fun j2 => cvp S t t' far f (dnV S t u i) (dnV S t' v j2)) (nbV S t' v)) q) ht ht' ok' hj ih z (nbV S t' v) 0 (by omega)
          rw [show smI _ 0 = 0 from rfl, Int32.add_zero] at y
          exact y
        · refine G_iload_n dX6_countVisitedPairs_82 rfl ?_
          refine G_goto (tgt := 93) dX6_countVisitedPairs_83 (by decide) ?_
          first
            | rw [show belV S t u (nI q) = dnV S t u q by unfold dnV; rw [if_neg c_79]]
            | (have e9 : dnV S t u q = u := by (unfold dnV; rw [if_pos c_79])
               rw [show G K MX6_countVisitedPairs (f + 11) 0 0 0 0 93 _ [.int u] (hp ly S) _ _ = G K MX6_countVisitedPairs (f + 11) 0 0 0 0 93 _ [.int (dnV S t u q)] (hp ly S) _ _ by rw [e9]])
          refine GS_istore (L' := [(10, _), (9, _), (8, _), (7, _), (6, _), (0, _), (1, _), (2, _), (3, _), (4, _), (5, _)]) dX6_countVisitedPairs_93 (by decide) rfl ?_
          refine G_iconst (v := 0) dX6_countVisitedPairs_95 (by decide) ?_
          refine GS_istore (L' := [(11, _), (10, _), (9, _), (8, _), (7, _), (6, _), (0, _), (1, _), (2, _), (3, _), (4, _), (5, _)]) dX6_countVisitedPairs_96 (by decide) rfl ?_
          refine G_sub [0, 1, 2, 3, 4, 5, 6, 7, 8, 9, 10, 11] rfl ?_
          have y := lp_cvI (i := q) (base := 1 + smI (fun i => smI (fun j2 => cvp S t t' far f (dnV S t u i) (dnV S t' v j2)) (nbV S t' v)) q) ht ht' ok' hj ih z (nbV S t' v) 0 (by omega)
          rw [show smI _ 0 = 0 from rfl, Int32.add_zero] at y
          exact y
set_option maxHeartbeats 200000 in
theorem sp_cvp (ht : isTree ly t) (ht' : isTree ly t') (ok : okC S t) (ok' : okC S t') {far : Int32} : ∀ f j, j + f = 11 → ∀ u v : Int32, Sp K MX6_countVisitedPairs (f + 10) 0 0 [.ref t, .int u, .ref t', .int v, .int far, .int (nI j)] (hp ly S) (fun v2 w => v2 = some (.int (cvp S t t' far f u v)) ∧ w = hp ly S) noX := by
  intro f
  induction f with
  | zero =>
    intro j hj u v
    obtain rfl : j = 11 := by omega
    refine Sp_of (by decide) (Nat.le_of_ble_eq_true rfl) ?_
    refine G_iload dX6_countVisitedPairs_0 rfl ?_
    refine G_bipush (v := 11) dX6_countVisitedPairs_2 (by decide) ?_
    refine G_icmp_lt (tgt := 9) dX6_countVisitedPairs_4 (by decide) (fun c_4 => ?_) (fun c_4 => ?_)
    · exact absurd c_4 (by decide)
    · refine G_iconst (v := 0) dX6_countVisitedPairs_7 (by decide) ?_
      exact G_iret dX6_countVisitedPairs_8 rfl rfl ⟨Nat.le_refl 0, Nat.le_refl 0⟩ ⟨rfl, rfl⟩
  | succ f ih =>
    intro j hj u v
    have hj11 : j < 11 := by omega
    refine Sp_of (by decide) (Nat.le_of_ble_eq_true rfl) ?_
    refine G_iload dX6_countVisitedPairs_0 rfl ?_
    refine G_bipush (v := 11) dX6_countVisitedPairs_2 (by decide) ?_
    refine G_icmp_lt (tgt := 9) dX6_countVisitedPairs_4 (by decide) (fun c_4 => ?_) (fun c_4 => ?_)
    · refine G_aload_n dX6_countVisitedPairs_9 rfl ?_
      refine G_getN (k := 4) dX6_countVisitedPairs_10 (cTree ht) rfl wfn_X6_197 (by decide) rfl ?_
      refine G_iload_n dX6_countVisitedPairs_13 rfl ?_
      refine G_cVi (As := [_]) dX6_countVisitedPairs_14 kV_X3_at wml_X6_116 (sp_X3_at (tCount ht)) rfl (cRow (tCount ht)) rfl rfl rfl (by omega) ⟨Nat.le_refl 0, Nat.le_refl 0⟩ (Nat.le_of_ble_eq_true rfl) ?_
      refine GS_istore (L' := [(6, _), (0, _), (1, _), (2, _), (3, _), (4, _), (5, _)]) dX6_countVisitedPairs_17 (by decide) rfl ?_
      refine G_aload_n dX6_countVisitedPairs_19 rfl ?_
      refine G_getN (k := 4) dX6_countVisitedPairs_20 (cTree ht') rfl wfn_X6_197 (by decide) rfl ?_
      refine G_iload_n dX6_countVisitedPairs_23 rfl ?_
      refine G_cVi (As := [_]) dX6_countVisitedPairs_24 kV_X3_at wml_X6_116 (sp_X3_at (tCount ht')) rfl (cRow (tCount ht')) rfl rfl rfl (by omega) ⟨Nat.le_refl 0, Nat.le_refl 0⟩ (Nat.le_of_ble_eq_true rfl) ?_
      refine GS_istore (L' := [(7, _), (6, _), (0, _), (1, _), (2, _), (3, _), (4, _), (5, _)]) dX6_countVisitedPairs_27 (by decide) rfl ?_
      refine G_iload dX6_countVisitedPairs_29 rfl ?_
      refine G_if_ne (tgt := 39) dX6_countVisitedPairs_31 (by decide) (fun c_31 => ?_) (fun c_31 => ?_)
      · refine G_aload_n dX6_countVisitedPairs_39 rfl ?_
        refine G_getN (k := 0) dX6_countVisitedPairs_40 (cTree ht) rfl wfn_X6_172 (by decide) rfl ?_
        refine G_iload_n dX6_countVisitedPairs_43 rfl ?_
        refine G_aload_n dX6_countVisitedPairs_44 rfl ?_
        refine G_getN (k := 0) dX6_countVisitedPairs_45 (cTree ht') rfl wfn_X6_172 (by decide) rfl ?_
        refine G_iload_n dX6_countVisitedPairs_48 rfl ?_
        refine G_cVi (As := [_, _, _]) dX6_countVisitedPairs_49 kV_X0_farBetween wml_X6_342 (sp_X0_farBetween (bTree ht) (bTree ht')) rfl (cBox (bTree ht)) rfl rfl rfl (by omega) ⟨Nat.le_refl 0, Nat.le_refl 0⟩ (Nat.le_of_ble_eq_true rfl) ?_
        refine G_iload dX6_countVisitedPairs_52 rfl ?_
        refine G_icmp_le (tgt := 59) dX6_countVisitedPairs_54 (by decide) (fun c_54 => ?_) (fun c_54 => ?_)
        · refine G_iconst (v := 1) dX6_countVisitedPairs_59 (by decide) ?_
          refine GS_istore (L' := [(8, _), (7, _), (6, _), (0, _), (1, _), (2, _), (3, _), (4, _), (5, _)]) dX6_countVisitedPairs_60 (by decide) rfl ?_
          refine G_iconst (v := 0) dX6_countVisitedPairs_62 (by decide) ?_
          refine GS_istore (L' := [(9, _), (8, _), (7, _), (6, _), (0, _), (1, _), (2, _), (3, _), (4, _), (5, _)]) dX6_countVisitedPairs_63 (by decide) rfl ?_
          refine G_sub [0, 1, 2, 3, 4, 5, 6, 7, 8, 9] rfl ?_
          first
            | (have e9 : cvp S t t' far (f + 1) u v = 1 + smI (fun i => smI (fun j2 => cvp S t t' far f (dnV S t u i) (dnV S t' v j2)) (nbV S t' v)) (nbV S t u) := by (rw [cvp, if_neg (fun q => q.elim (fun q => c_31 q.1) (fun q => absurd (Int32.lt_of_lt_of_le q c_54) Int32.lt_irrefl))])
               rw [e9]
               exact lp_cvO ht ht' ok' hj11 (ih (j + 1) (by omega)) ok (nbV S t u) 0 (by omega))
            | (have e9 : cvp S t t' far (f + 1) u v = 1 + smI (fun i => smI (fun j2 => cvp S t t' far f (dnV S t u i) (dnV S t' v j2)) (nbV S t' v)) (nbV S t u) := by (rw [cvp, if_neg (fun q => q.elim (fun q => c_36 q.2) (fun q => absurd (Int32.lt_of_lt_of_le q c_54) Int32.lt_irrefl))])
               rw [e9]
               exact lp_cvO ht ht' ok' hj11 (ih (j + 1) (by omega)) ok (nbV S t u) 0 (by omega))
        · refine G_iconst (v := 1) dX6_countVisitedPairs_57 (by decide) ?_
          exact G_iret dX6_countVisitedPairs_58 rfl rfl ⟨Nat.le_refl 0, Nat.le_refl 0⟩ ⟨by rw [cvp]; first | rw [if_pos (Or.inr (i32_nle c_54))] | rw [if_pos (Or.inl ⟨c_31, c_36⟩)], rfl⟩
      · refine G_iload dX6_countVisitedPairs_34 rfl ?_
        refine G_if_eq (tgt := 57) dX6_countVisitedPairs_36 (by decide) (fun c_36 => ?_) (fun c_36 => ?_)
        · refine G_iconst (v := 1) dX6_countVisitedPairs_57 (by decide) ?_
          exact G_iret dX6_countVisitedPairs_58 rfl rfl ⟨Nat.le_refl 0, Nat.le_refl 0⟩ ⟨by rw [cvp]; first | rw [if_pos (Or.inr (i32_nle c_54))] | rw [if_pos (Or.inl ⟨c_31, c_36⟩)], rfl⟩
        · refine G_aload_n dX6_countVisitedPairs_39 rfl ?_
          refine G_getN (k := 0) dX6_countVisitedPairs_40 (cTree ht) rfl wfn_X6_172 (by decide) rfl ?_
          refine G_iload_n dX6_countVisitedPairs_43 rfl ?_
          refine G_aload_n dX6_countVisitedPairs_44 rfl ?_
          refine G_getN (k := 0) dX6_countVisitedPairs_45 (cTree ht') rfl wfn_X6_172 (by decide) rfl ?_
          refine G_iload_n dX6_countVisitedPairs_48 rfl ?_
          refine G_cVi (As := [_, _, _]) dX6_countVisitedPairs_49 kV_X0_farBetween wml_X6_342 (sp_X0_farBetween (bTree ht) (bTree ht')) rfl (cBox (bTree ht)) rfl rfl rfl (by omega) ⟨Nat.le_refl 0, Nat.le_refl 0⟩ (Nat.le_of_ble_eq_true rfl) ?_
          refine G_iload dX6_countVisitedPairs_52 rfl ?_
          refine G_icmp_le (tgt := 59) dX6_countVisitedPairs_54 (by decide) (fun c_54 => ?_) (fun c_54 => ?_)
          · refine G_iconst (v := 1) dX6_countVisitedPairs_59 (by decide) ?_
            refine GS_istore (L' := [(8, _), (7, _), (6, _), (0, _), (1, _), (2, _), (3, _), (4, _), (5, _)]) dX6_countVisitedPairs_60 (by decide) rfl ?_
            refine G_iconst (v := 0) dX6_countVisitedPairs_62 (by decide) ?_
            refine GS_istore (L' := [(9, _), (8, _), (7, _), (6, _), (0, _), (1, _), (2, _), (3, _), (4, _), (5, _)]) dX6_countVisitedPairs_63 (by decide) rfl ?_
            refine G_sub [0, 1, 2, 3, 4, 5, 6, 7, 8, 9] rfl ?_
            first
              | (have e9 : cvp S t t' far (f + 1) u v = 1 + smI (fun i => smI (fun j2 => cvp S t t' far f (dnV S t u i) (dnV S t' v j2)) (nbV S t' v)) (nbV S t u) := by (rw [cvp, if_neg (fun q => q.elim (fun q => c_31 q.1) (fun q => absurd (Int32.lt_of_lt_of_le q c_54) Int32.lt_irrefl))])
                 rw [e9]
                 exact lp_cvO ht ht' ok' hj11 (ih (j + 1) (by omega)) ok (nbV S t u) 0 (by omega))
              | (have e9 : cvp S t t' far (f + 1) u v = 1 + smI (fun i => smI (fun j2 => cvp S t t' far f (dnV S t u i) (dnV S t' v j2)) (nbV S t' v)) (nbV S t u) := by (rw [cvp, if_neg (fun q => q.elim (fun q => c_36 q.2) (fun q => absurd (Int32.lt_of_lt_of_le q c_54) Int32.lt_irrefl))])
                 rw [e9]
                 exact lp_cvO ht ht' ok' hj11 (ih (j + 1) (by omega)) ok (nbV S t u) 0 (by omega))
          · refine G_iconst (v := 1) dX6_countVisitedPairs_57 (by decide) ?_
            exact G_iret dX6_countVisitedPairs_58 rfl rfl ⟨Nat.le_refl 0, Nat.le_refl 0⟩ ⟨by rw [cvp]; first | rw [if_pos (Or.inr (i32_nle c_54))] | rw [if_pos (Or.inl ⟨c_31, c_36⟩)], rfl⟩
    · exact absurd (show nI j < nI 11 from nI_lt hj11 (by decide)) c_4
end AQ
end
