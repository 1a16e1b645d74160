/-- a method: its name, its code, how many locals, what it returns -/
abbrev MD : Type := MethodName × ByteArray × Nat × Option FieldType
/-- a cell as the proof sees it: an array by the number of its type, or an object by the number of its class; references are places in the list of cells -/
abbrev VE : Type := (Nat × vp_A) ⊕ (Nat × List Value)
/-- the cells; whether nothing but they has been made since the law's start -/
abbrev VH : Type := Bool × List VE
/-- launch; class numbers and field places; array classes; the script (where, how long, what); where the cells lie; from where on they are ours; what else stays true -/
abbrev GK : Type := Launch × va_G × (Nat → ClassId) × (Nat × Nat × (Nat → Int32)) × (Nat → Nat) × Nat × (State → Prop)
abbrev kL (K : GK) : Launch := K.1
abbrev kD (K : GK) : va_G := K.2.1
abbrev kC (K : GK) : Nat → ClassId := K.2.2.1
abbrev kS (K : GK) : Nat × Nat × (Nat → Int32) := K.2.2.2.1
abbrev kA (K : GK) : Nat → Nat := K.2.2.2.2.1
abbrev kB (K : GK) : Nat := K.2.2.2.2.2.1
abbrev kE (K : GK) : State → Prop := K.2.2.2.2.2.2
abbrev kF (K : GK) : Nat → Prop := fun q => kB K ≤ q
def vv (K : GK) (v : Value) : Value := match v with
  | .ref k => .ref (kA K k)
  | .float _ => .ref (kS K).1
  | .int x => .int x
  | .long x => .long x
  | .double x => .double x
  | .null => .null
  | .retAddr x => .retAddr x
abbrev vl (K : GK) (q : Nat × Value) : Nat × Value := (q.1, vv K q.2)
def va2 (K : GK) (a : vp_A) : vp_A := match a with
  | (n, .inl f) => (n, .inl f)
  | (n, .inr (.inl f)) => (n, .inr (.inl f))
  | (n, .inr (.inr (.inl f))) => (n, .inr (.inr (.inl f)))
  | (n, .inr (.inr (.inr (.inl f)))) => (n, .inr (.inr (.inr (.inl f))))
  | (n, .inr (.inr (.inr (.inr f)))) => (n, .inr (.inr (.inr (.inr (fun j => (f j).map (kA K))))))
def ve (K : GK) (e : VE) : va_E := match e with
  | .inl (t, a) => .inl (kC K t, va2 K a)
  | .inr (c, fs) => .inr (c, fs.map (vv K))
def vW (K : GK) (h : VH) : va_W := h.2.mapIdx (fun k e => (kA K k, ve K e))
theorem vv_cat (K : GK) (v : Value) : (vv K v).category = v.category := by cases v <;> rfl
theorem vv_sum (K : GK) (l : List Value) : ((l.map (vv K)).map fun v => v.category).sum = (l.map fun v => v.category).sum := by
  induction l with
  | nil => rfl
  | cons a l ih => simp only [List.map_cons, List.sum_cons, vv_cat, ih]
theorem vW_at {K : GK} {h : VH} {k : Nat} {e : VE} (he : h.2[k]? = some e) : (vW K h)[k]? = some (kA K k, ve K e) := by
  unfold vW
  rw [List.getElem?_mapIdx, he]
  rfl
theorem vW_some {K : GK} {h : VH} {k : Nat} {q : Nat × va_E} (hq : (vW K h)[k]? = some q) : ∃ e, h.2[k]? = some e ∧ q = (kA K k, ve K e) := by
  unfold vW at hq
  rw [List.getElem?_mapIdx] at hq
  cases he : h.2[k]? with
  | none => rw [he] at hq; cases hq
  | some e => rw [he] at hq; exact ⟨e, rfl, (Option.some.inj hq).symm⟩
theorem vW_set (K : GK) (b b' : Bool) (h : List VE) (k : Nat) (e : VE) : vW K (b, h.set k e) = (vW K (b', h)).set k (kA K k, ve K e) := by
  apply List.ext_getElem?
  intro j
  unfold vW
  rw [List.getElem?_mapIdx, List.getElem?_set, List.getElem?_set, List.length_mapIdx, List.getElem?_mapIdx]
  by_cases hj : k = j
  · subst hj
    by_cases hl : k < h.length
    · rw [if_pos rfl, if_pos hl, if_pos rfl, if_pos hl]; rfl
    · rw [if_pos rfl, if_neg hl, if_pos rfl, if_neg hl]; rfl
  · rw [if_neg hj, if_neg hj]
theorem vW_push (K : GK) (b b' : Bool) (h : List VE) (e : VE) : vW K (b, h ++ [e]) = vW K (b', h) ++ [(kA K h.length, ve K e)] := by
  unfold vW
  simp [List.mapIdx_append]
abbrev gcl : List vw_C := [(RX0, TX0, 4), (RX1, TX1, 3), (RX2, TX2, 4), (RX3, TX3, 1), (RX4, TX4, 6), (RX5, TX5, 10), (RX6, TX6, 5)]
def gty (c : Nat) : Nat → FieldType := match c with
  | 0 => tyX0
  | 1 => tyX1
  | 2 => tyX2
  | 3 => tyX3
  | 4 => tyX4
  | 5 => tyX5
  | _ => tyX6
def gty_ok (ci : Nat) (r : vw_C) : Prop := (∀ w ∈ u_ws r.1 r.2.1 r.2.2, w ∈ tbG) ∧ (∀ k, k < r.2.2 → parseFieldDescriptor (r.2.1 k).2.2.1 = some (gty ci k)) ∧ (∀ a, a < r.2.2 → ∀ b, b < r.2.2 → a ≠ b → (r.2.1 a).2.1 ≠ (r.2.1 b).2.1)
theorem gcl_0 : ∀ w ∈ wsX00, w ∈ tbG := by decide +kernel
theorem gcl_1 : ∀ w ∈ wsX10, w ∈ tbG := by decide +kernel
theorem gcl_2 : ∀ w ∈ wsX20, w ∈ tbG := by decide +kernel
theorem gcl_3 : ∀ w ∈ wsX30, w ∈ tbG := by decide +kernel
theorem gcl_4 : ∀ w ∈ wsX40, w ∈ tbG := by decide +kernel
theorem gcl_5 : ∀ w ∈ wsX50, w ∈ tbG := by decide +kernel
theorem gcl_6 : ∀ w ∈ wsX60, w ∈ tbG := by decide +kernel
theorem gcl_ok (ci : Nat) (r : vw_C) (h : gcl[ci]? = some r) : gty_ok ci r := by
  match ci, h with
  | 0, h => cases h; exact ⟨gcl_0, tyX0_ok, nmX0⟩
  | 1, h => cases h; exact ⟨gcl_1, tyX1_ok, nmX1⟩
  | 2, h => cases h; exact ⟨gcl_2, tyX2_ok, nmX2⟩
  | 3, h => cases h; exact ⟨gcl_3, tyX3_ok, nmX3⟩
  | 4, h => cases h; exact ⟨gcl_4, tyX4_ok, nmX4⟩
  | 5, h => cases h; exact ⟨gcl_5, tyX5_ok, nmX5⟩
  | 6, h => cases h; exact ⟨gcl_6, tyX6_ok, nmX6⟩
  | k + 7, h => simp at h
def gtys : List FieldType := [.int, .object RX2]
def ktys (K : GK) : List (ClassId × FieldType) := gtys.mapIdx (fun i t => (kC K i, t))
theorem ktys_at {K : GK} {i : Nat} {t : FieldType} (h : gtys[i]? = some t) : (ktys K)[i]? = some (kC K i, t) := by
  unfold ktys
  rw [List.getElem?_mapIdx, h]
  rfl
def Rm (d mc ms : Nat) : Room := { frames := d, cells := mc, slots := ms, locals := 64 * d + 40 }
/-- the heap holds the cells -/
def Ph (K : GK) (h : VH) (H : Heap) : Prop := va_P (kD K) gcl (vW K h) H ∧ (h.1 = true → ∀ j : Nat, kA K (h.2.length + j) = H.size + j) ∧ kB K ≤ H.size
/-- what holds of K once and for all -/
def Kok (K : GK) : Prop := (∀ i j : Nat, kA K i = kA K j → i = j) ∧ (∀ k : Nat, kB K ≤ kA K k) ∧ (kL K).stackTraces = false ∧ (kS K).1 < kB K ∧ (kS K).2.1 < 2 ^ 31 ∧ ∀ s U : State, s.WarmedH U.vm → s.heap.size ≤ U.heap.size → (∀ q : Nat, q < s.heap.size → ¬ kB K ≤ q → U.heap[q]? = s.heap[q]?) → kE K s → kE K U
/-- what holds at a method's start, of the state -/
def Kst (K : GK) (s : State) : Prop := (∀ w ∈ tbN, va_Nw w s) ∧ va_K (kD K) gcl (ktys K) s ∧ kB K ≤ s.heap.size ∧ kE K s ∧ va_X (kS K).1 (kS K).2.1 (kS K).2.2 s s.heap
/-- the exception table of a method: the law's isGone alone has one -/
def exT (y : MethodName) : List ExceptionTableEntry := if y.name = "isGone" then tableOf [(0, 8, 9, 115)] else []
def Fr (K : GK) (M : MD) (d mc ms : Nat) (p : Program) (R : Room) (s : State) (m : MethodId) (args : Array Value) (meth : Method) (c : Code) : Prop :=
  p.tables.exec = Jvm.exec ∧ c.code = M.2.1 ∧ c.maxLocals = M.2.2.1 ∧ s.vm.findClass M.1.cls = some m.cls ∧ (∀ w ∈ tbG, w.before args s = true) ∧ meth.sig.returnType = M.2.2.2 ∧ meth.locks = false ∧ (meth.name = M.1.name ∧ c.exceptionTable.toList = exT M.1) ∧ d ≤ R.frames ∧ 64 * d + 40 ≤ R.locals ∧ mc ≤ R.cells ∧ ms ≤ R.slots ∧ Kst K s
theorem va_D_vW {K : GK} (hK : Kok K) (h : VH) : va_D (kF K) (vW K h) := by
  refine ⟨fun i j p q hi hj hpq => ?_, fun k q hk => ?_⟩
  · obtain ⟨e, -, rfl⟩ := vW_some hi
    obtain ⟨e', -, rfl⟩ := vW_some hj
    exact hK.1 i j hpq
  · obtain ⟨e, -, rfl⟩ := vW_some hk
    exact hK.2.1 k
/-- THE JUDGEMENT: from here, with these locals, this stack and these cells, the method comes to its end with Qc or XC -/
def G (K : GK) (M : MD) (d mc ms uc us pc : Nat) (L : List (Nat × Value)) (st : List Value) (h : VH) (Qc : Array Value → State → Outcome → State → Prop) (XC : String → State → State → Prop) : Prop :=
  Kok K → ∀ (p : Program) (e : Env) (R : Room) (s : State) (m : MethodId) (args : Array Value) (below : List Frame) (meth : Method) (c : Code) (H : Heap) (locs : List Loc) (ls : Array Slot),
    Fr K M d mc ms p R s m args meth c → va_S (kF K) s.heap H locs → Ph K h H → lv_has ls M.2.2.1 (L.map (vl K)) →
    W p (kL K) e R s m args below meth c H locs uc us (vx_MQ below Qc XC args s mc ms (kF K)) (F0 m pc ls (st.map (vv K)))
/-- the same with an exception of class E over the frame -/
def GX (K : GK) (M : MD) (d mc ms uc us pc : Nat) (L : List (Nat × Value)) (st : List Value) (h : VH) (E : String) (Qc : Array Value → State → Outcome → State → Prop) (XC : String → State → State → Prop) : Prop :=
  Kok K → ∀ (p : Program) (e : Env) (R : Room) (s : State) (m : MethodId) (args : Array Value) (below : List Frame) (meth : Method) (c : Code) (H : Heap) (locs : List Loc) (ls : Array Slot) (q : Addr) (ce : Cell),
    Fr K M d mc ms p R s m args meth c → va_S (kF K) s.heap H locs → Ph K h H → lv_has ls M.2.2.1 (L.map (vl K)) → H[q]? = some ce → ce.vm = .none → s.vm.findClass E = some ce.cls →
    vx_W p (kL K) e R s m args below meth c H locs uc us (vx_MQ below Qc XC args s mc ms (kF K)) (F0 m pc ls (st.map (vv K))) q
def QcP (K : GK) (P : Option Value → VH → Prop) : Array Value → State → Outcome → State → Prop := fun _ st oc t => (∃ (v : Option Value) (u : VH), oc = .returned (v.map (vv K)) ∧ P v u ∧ Ph K u t.heap) ∧ va_F (kF K) st t
def XcP (K : GK) (X : String → VH → Prop) : String → State → State → Prop := fun E st t => (∃ u : VH, X E u ∧ Ph K u t.heap) ∧ va_F (kF K) st t
def Pc0 (K : GK) (as : List Value) (h : VH) : Array Value → State → Prop := va_Pc (as.map (vv K)) (fun U => Ph K h U.heap ∧ Kst K U)
/-- a method's contract -/
def Sp (K : GK) (M : MD) (d mc ms : Nat) (as : List Value) (h : VH) (P : Option Value → VH → Prop) (X : String → VH → Prop) : Prop :=
  Kok K → vx_Met (kL K) M.1 (Cond.code M.1 M.2.1 M.2.2.1 M.2.2.2 :: tbG) (Rm d mc ms) (Pc0 K as h) (QcP K P) (XcP K X) mc ms (kF K)
abbrev noX : String → VH → Prop := fun _ _ => False
/-- a local by its place -/
def gl (L : List (Nat × Value)) (i : Nat) : Option Value := match L with
  | [] => none
  | q :: L => if q.1 = i then some q.2 else gl L i
theorem gl_mem {L : List (Nat × Value)} {i : Nat} {v : Value} (h : gl L i = some v) : (i, v) ∈ L := by
  induction L with
  | nil => cases h
  | cons q L ih =>
    unfold gl at h
    split at h
    · next e => cases h; rw [← e]; exact List.mem_cons_self
    · exact List.mem_cons_of_mem _ (ih h)
theorem gl_at {K : GK} {ls : Array Slot} {n : Nat} {L : List (Nat × Value)} {i : Nat} {v : Value} (hl : lv_has ls n (L.map (vl K))) (h : gl L i = some v) : ls[i]? = some (.val (vv K v)) :=
  hl.2.2 (i, vv K v) (List.mem_map.mpr ⟨(i, v), gl_mem h, rfl⟩)
/-- a store of one slot: the place's value goes, also a long that lies half in it -/
def gs (L : List (Nat × Value)) (i : Nat) (v : Value) : List (Nat × Value) := (i, v) :: L.filter (fun q => !(q.1 == i) && !(q.1 + 1 == i && q.2.category == 2))
def gs2 (L : List (Nat × Value)) (i : Nat) (v : Value) : List (Nat × Value) := (i, v) :: L.filter (fun q => !(q.1 == i) && (!(q.1 == i + 1) && !(q.1 + 1 == i && q.2.category == 2)))
theorem gs_map (K : GK) (L : List (Nat × Value)) (i : Nat) (v : Value) : (i, vv K v) :: (L.map (vl K)).filter (fun q => !(q.1 == i) && !(q.1 + 1 == i && q.2.category == 2)) = (gs L i v).map (vl K) := by
  unfold gs
  rw [List.map_cons, List.filter_map]
  congr 2
  apply List.filter_congr
  intro q _
  simp [Function.comp, vv_cat]
theorem gs2_map (K : GK) (L : List (Nat × Value)) (i : Nat) (v : Value) : (i, vv K v) :: (L.map (vl K)).filter (fun q => !(q.1 == i) && (!(q.1 == i + 1) && !(q.1 + 1 == i && q.2.category == 2))) = (gs2 L i v).map (vl K) := by
  unfold gs2
  rw [List.map_cons, List.filter_map]
  congr 2
  apply List.filter_congr
  intro q _
  simp [Function.comp, vv_cat]
section GR
variable {K : GK} {M : MD} {d mc ms uc us pc : Nat} {L : List (Nat × Value)} {h : VH} {Qc : Array Value → State → Outcome → State → Prop} {XC : String → State → State → Prop}
theorem G_iconst {rest : List Value} {n : Int} {v : Int32} (hdg : decode M.2.1 pc = .ok (.iconst n, 1)) (hv : Int32.ofInt n = v) (k : G K M d mc ms uc us (pc + 1) L (.int v :: rest) h Qc XC) : G K M d mc ms uc us pc L (rest) h Qc XC := fun hK p e R s m args below meth c H locs ls F hS hP hl => lv_iconst F.1 F.2.1 hdg hv (k hK p e R s m args below meth c H locs ls F hS hP hl)
theorem G_bipush {rest : List Value} {n : Int} {v : Int32} (hdg : decode M.2.1 pc = .ok (.bipush n, 2)) (hv : (Int8.ofInt n).toInt32 = v) (k : G K M d mc ms uc us (pc + 2) L (.int v :: rest) h Qc XC) : G K M d mc ms uc us pc L (rest) h Qc XC := fun hK p e R s m args below meth c H locs ls F hS hP hl => lv_bipush F.1 F.2.1 hdg hv (k hK p e R s m args below meth c H locs ls F hS hP hl)
theorem G_sipush {rest : List Value} {n : Int} {v : Int32} (hdg : decode M.2.1 pc = .ok (.sipush n, 3)) (hv : (Int16.ofInt n).toInt32 = v) (k : G K M d mc ms uc us (pc + 3) L (.int v :: rest) h Qc XC) : G K M d mc ms uc us pc L (rest) h Qc XC := fun hK p e R s m args below meth c H locs ls F hS hP hl => lv_sipush F.1 F.2.1 hdg hv (k hK p e R s m args below meth c H locs ls F hS hP hl)
theorem G_null {rest : List Value} (hdg : decode M.2.1 pc = .ok (.aconst_null, 1)) (k : G K M d mc ms uc us (pc + 1) L (.null :: rest) h Qc XC) : G K M d mc ms uc us pc L (rest) h Qc XC := fun hK p e R s m args below meth c H locs ls F hS hP hl => lv_null F.1 F.2.1 hdg (k hK p e R s m args below meth c H locs ls F hS hP hl)
theorem G_iadd {rest : List Value} {x y : Int32} (hdg : decode M.2.1 pc = .ok (.iadd, 1)) (k : G K M d mc ms uc us (pc + 1) L (.int (x + y) :: rest) h Qc XC) : G K M d mc ms uc us pc L (.int y :: .int x :: rest) h Qc XC := fun hK p e R s m args below meth c H locs ls F hS hP hl => lv_iadd F.1 F.2.1 hdg (k hK p e R s m args below meth c H locs ls F hS hP hl)
theorem G_isub {rest : List Value} {x y : Int32} (hdg : decode M.2.1 pc = .ok (.isub, 1)) (k : G K M d mc ms uc us (pc + 1) L (.int (x - y) :: rest) h Qc XC) : G K M d mc ms uc us pc L (.int y :: .int x :: rest) h Qc XC := fun hK p e R s m args below meth c H locs ls F hS hP hl => lv_isub F.1 F.2.1 hdg (k hK p e R s m args below meth c H locs ls F hS hP hl)
theorem G_imul {rest : List Value} {x y : Int32} (hdg : decode M.2.1 pc = .ok (.imul, 1)) (k : G K M d mc ms uc us (pc + 1) L (.int (x * y) :: rest) h Qc XC) : G K M d mc ms uc us pc L (.int y :: .int x :: rest) h Qc XC := fun hK p e R s m args below meth c H locs ls F hS hP hl => lv_imul F.1 F.2.1 hdg (k hK p e R s m args below meth c H locs ls F hS hP hl)
theorem G_iand {rest : List Value} {x y : Int32} (hdg : decode M.2.1 pc = .ok (.iand, 1)) (k : G K M d mc ms uc us (pc + 1) L (.int (x &&& y) :: rest) h Qc XC) : G K M d mc ms uc us pc L (.int y :: .int x :: rest) h Qc XC := fun hK p e R s m args below meth c H locs ls F hS hP hl => lv_iand F.1 F.2.1 hdg (k hK p e R s m args below meth c H locs ls F hS hP hl)
theorem G_ishr {rest : List Value} {x y : Int32} (hdg : decode M.2.1 pc = .ok (.ishr, 1)) (k : G K M d mc ms uc us (pc + 1) L (.int (x >>> (y &&& 31)) :: rest) h Qc XC) : G K M d mc ms uc us pc L (.int y :: .int x :: rest) h Qc XC := fun hK p e R s m args below meth c H locs ls F hS hP hl => lv_ishr F.1 F.2.1 hdg (k hK p e R s m args below meth c H locs ls F hS hP hl)
theorem G_idiv {rest : List Value} {x y : Int32} (hdg : decode M.2.1 pc = .ok (.idiv, 1)) (hne : ¬ y = 0) (k : G K M d mc ms uc us (pc + 1) L (.int (x / y) :: rest) h Qc XC) : G K M d mc ms uc us pc L (.int y :: .int x :: rest) h Qc XC := fun hK p e R s m args below meth c H locs ls F hS hP hl => lv_idiv F.1 F.2.1 hdg hne (k hK p e R s m args below meth c H locs ls F hS hP hl)
theorem G_irem {rest : List Value} {x y : Int32} (hdg : decode M.2.1 pc = .ok (.irem, 1)) (hne : ¬ y = 0) (k : G K M d mc ms uc us (pc + 1) L (.int (x - x / y * y) :: rest) h Qc XC) : G K M d mc ms uc us pc L (.int y :: .int x :: rest) h Qc XC := fun hK p e R s m args below meth c H locs ls F hS hP hl => lv_irem F.1 F.2.1 hdg hne (k hK p e R s m args below meth c H locs ls F hS hP hl)
theorem G_ladd {rest : List Value} {x y : Int64} (hdg : decode M.2.1 pc = .ok (.ladd, 1)) (k : G K M d mc ms uc us (pc + 1) L (.long (x + y) :: rest) h Qc XC) : G K M d mc ms uc us pc L (.long y :: .long x :: rest) h Qc XC := fun hK p e R s m args below meth c H locs ls F hS hP hl => lv_ladd F.1 F.2.1 hdg (k hK p e R s m args below meth c H locs ls F hS hP hl)
theorem G_lmul {rest : List Value} {x y : Int64} (hdg : decode M.2.1 pc = .ok (.lmul, 1)) (k : G K M d mc ms uc us (pc + 1) L (.long (x * y) :: rest) h Qc XC) : G K M d mc ms uc us pc L (.long y :: .long x :: rest) h Qc XC := fun hK p e R s m args below meth c H locs ls F hS hP hl => lv_lmul F.1 F.2.1 hdg (k hK p e R s m args below meth c H locs ls F hS hP hl)
theorem G_i2l {rest : List Value} {x : Int32} (hdg : decode M.2.1 pc = .ok (.i2l, 1)) (k : G K M d mc ms uc us (pc + 1) L (.long x.toInt64 :: rest) h Qc XC) : G K M d mc ms uc us pc L (.int x :: rest) h Qc XC := fun hK p e R s m args below meth c H locs ls F hS hP hl => lv_i2l F.1 F.2.1 hdg rfl (k hK p e R s m args below meth c H locs ls F hS hP hl)
theorem G_lcmp {rest : List Value} {x y : Int64} (hdg : decode M.2.1 pc = .ok (.lcmp, 1)) (k : G K M d mc ms uc us (pc + 1) L (.int (lg_cmp x y) :: rest) h Qc XC) : G K M d mc ms uc us pc L (.long y :: .long x :: rest) h Qc XC := fun hK p e R s m args below meth c H locs ls F hS hP hl => W.lcmp F.1 F.2.1 hdg (k hK p e R s m args below meth c H locs ls F hS hP hl)
theorem G_pop {rest : List Value} {va : Value} (hdg : decode M.2.1 pc = .ok (.pop, 1)) (hva : va.category = 1) (k : G K M d mc ms uc us (pc + 1) L (rest) h Qc XC) : G K M d mc ms uc us pc L (va :: rest) h Qc XC := fun hK p e R s m args below meth c H locs ls F hS hP hl => lv_pop F.1 F.2.1 hdg ((vv_cat K va).trans hva) (k hK p e R s m args below meth c H locs ls F hS hP hl)
theorem G_dup {rest : List Value} {va : Value} (hdg : decode M.2.1 pc = .ok (.dup, 1)) (hva : va.category = 1) (k : G K M d mc ms uc us (pc + 1) L (va :: va :: rest) h Qc XC) : G K M d mc ms uc us pc L (va :: rest) h Qc XC := fun hK p e R s m args below meth c H locs ls F hS hP hl => lv_dup F.1 F.2.1 hdg ((vv_cat K va).trans hva) (k hK p e R s m args below meth c H locs ls F hS hP hl)
theorem G_dup2 {rest : List Value} {va vb : Value} (hdg : decode M.2.1 pc = .ok (.dup2, 1)) (hva : va.category = 1) (hvb : vb.category = 1) (k : G K M d mc ms uc us (pc + 1) L (va :: vb :: va :: vb :: rest) h Qc XC) : G K M d mc ms uc us pc L (va :: vb :: rest) h Qc XC := fun hK p e R s m args below meth c H locs ls F hS hP hl => lv_dup2_11 F.1 F.2.1 hdg ((vv_cat K va).trans hva) ((vv_cat K vb).trans hvb) (k hK p e R s m args below meth c H locs ls F hS hP hl)
theorem G_goto {rest : List Value} {off : Int} {tgt : Nat} (hdg : decode M.2.1 pc = .ok (.goto off, 3)) (ht : (pc : Int) + off = (tgt : Int)) (k : G K M d mc ms uc us tgt L (rest) h Qc XC) : G K M d mc ms uc us pc L (rest) h Qc XC := fun hK p e R s m args below meth c H locs ls F hS hP hl => lv_goto F.1 F.2.1 hdg ht (k hK p e R s m args below meth c H locs ls F hS hP hl)
theorem G_ifnonnull {rest : List Value} {x : Nat} {off : Int} {tgt : Nat} (hdg : decode M.2.1 pc = .ok (.ifnonnull off, 3)) (ht : (pc : Int) + off = (tgt : Int)) (k : G K M d mc ms uc us tgt L (rest) h Qc XC) : G K M d mc ms uc us pc L (.ref x :: rest) h Qc XC := fun hK p e R s m args below meth c H locs ls F hS hP hl => lv_ifnonnull F.1 F.2.1 hdg ht (k hK p e R s m args below meth c H locs ls F hS hP hl)
theorem G_ifnonnullN {rest : List Value} {off : Int} (hdg : decode M.2.1 pc = .ok (.ifnonnull off, 3)) (k : G K M d mc ms uc us (pc + 3) L (rest) h Qc XC) : G K M d mc ms uc us pc L (.null :: rest) h Qc XC := fun hK p e R s m args below meth c H locs ls F hS hP hl => lv_ifnonnullN F.1 F.2.1 hdg (k hK p e R s m args below meth c H locs ls F hS hP hl)
theorem G_icmp_eq {rest : List Value} {x y : Int32} {off : Int} {tgt : Nat} (hdg : decode M.2.1 pc = .ok (.if_icmp .eq off, 3)) (ht : (pc : Int) + off = (tgt : Int)) (kt : x = y → G K M d mc ms uc us tgt L rest h Qc XC) (kf : ¬ x = y → G K M d mc ms uc us (pc + 3) L rest h Qc XC) : G K M d mc ms uc us pc L (.int y :: .int x :: rest) h Qc XC := fun hK p e R s m args below meth c H locs ls F hS hP hl => lv_icmp_eq F.1 F.2.1 hdg ht (fun q => kt q hK p e R s m args below meth c H locs ls F hS hP hl) (fun q => kf q hK p e R s m args below meth c H locs ls F hS hP hl)
theorem G_if_eq {rest : List Value} {x : Int32} {off : Int} {tgt : Nat} (hdg : decode M.2.1 pc = .ok (.ifCond .eq off, 3)) (ht : (pc : Int) + off = (tgt : Int)) (kt : x = 0 → G K M d mc ms uc us tgt L rest h Qc XC) (kf : ¬ x = 0 → G K M d mc ms uc us (pc + 3) L rest h Qc XC) : G K M d mc ms uc us pc L (.int x :: rest) h Qc XC := fun hK p e R s m args below meth c H locs ls F hS hP hl => lv_if_eq F.1 F.2.1 hdg ht (fun q => kt q hK p e R s m args below meth c H locs ls F hS hP hl) (fun q => kf q hK p e R s m args below meth c H locs ls F hS hP hl)
theorem G_icmp_ne {rest : List Value} {x y : Int32} {off : Int} {tgt : Nat} (hdg : decode M.2.1 pc = .ok (.if_icmp .ne off, 3)) (ht : (pc : Int) + off = (tgt : Int)) (kt : ¬ x = y → G K M d mc ms uc us tgt L rest h Qc XC) (kf : x = y → G K M d mc ms uc us (pc + 3) L rest h Qc XC) : G K M d mc ms uc us pc L (.int y :: .int x :: rest) h Qc XC := fun hK p e R s m args below meth c H locs ls F hS hP hl => lv_icmp_ne F.1 F.2.1 hdg ht (fun q => kt q hK p e R s m args below meth c H locs ls F hS hP hl) (fun q => kf q hK p e R s m args below meth c H locs ls F hS hP hl)
theorem G_if_ne {rest : List Value} {x : Int32} {off : Int} {tgt : Nat} (hdg : decode M.2.1 pc = .ok (.ifCond .ne off, 3)) (ht : (pc : Int) + off = (tgt : Int)) (kt : ¬ x = 0 → G K M d mc ms uc us tgt L rest h Qc XC) (kf : x = 0 → G K M d mc ms uc us (pc + 3) L rest h Qc XC) : G K M d mc ms uc us pc L (.int x :: rest) h Qc XC := fun hK p e R s m args below meth c H locs ls F hS hP hl => lv_if_ne F.1 F.2.1 hdg ht (fun q => kt q hK p e R s m args below meth c H locs ls F hS hP hl) (fun q => kf q hK p e R s m args below meth c H locs ls F hS hP hl)
theorem G_icmp_lt {rest : List Value} {x y : Int32} {off : Int} {tgt : Nat} (hdg : decode M.2.1 pc = .ok (.if_icmp .lt off, 3)) (ht : (pc : Int) + off = (tgt : Int)) (kt : x < y → G K M d mc ms uc us tgt L rest h Qc XC) (kf : ¬ x < y → G K M d mc ms uc us (pc + 3) L rest h Qc XC) : G K M d mc ms uc us pc L (.int y :: .int x :: rest) h Qc XC := fun hK p e R s m args below meth c H locs ls F hS hP hl => lv_icmp_lt F.1 F.2.1 hdg ht (fun q => kt q hK p e R s m args below meth c H locs ls F hS hP hl) (fun q => kf q hK p e R s m args below meth c H locs ls F hS hP hl)
theorem G_if_lt {rest : List Value} {x : Int32} {off : Int} {tgt : Nat} (hdg : decode M.2.1 pc = .ok (.ifCond .lt off, 3)) (ht : (pc : Int) + off = (tgt : Int)) (kt : x < 0 → G K M d mc ms uc us tgt L rest h Qc XC) (kf : ¬ x < 0 → G K M d mc ms uc us (pc + 3) L rest h Qc XC) : G K M d mc ms uc us pc L (.int x :: rest) h Qc XC := fun hK p e R s m args below meth c H locs ls F hS hP hl => lv_if_lt F.1 F.2.1 hdg ht (fun q => kt q hK p e R s m args below meth c H locs ls F hS hP hl) (fun q => kf q hK p e R s m args below meth c H locs ls F hS hP hl)
theorem G_icmp_ge {rest : List Value} {x y : Int32} {off : Int} {tgt : Nat} (hdg : decode M.2.1 pc = .ok (.if_icmp .ge off, 3)) (ht : (pc : Int) + off = (tgt : Int)) (kt : y ≤ x → G K M d mc ms uc us tgt L rest h Qc XC) (kf : ¬ y ≤ x → G K M d mc ms uc us (pc + 3) L rest h Qc XC) : G K M d mc ms uc us pc L (.int y :: .int x :: rest) h Qc XC := fun hK p e R s m args below meth c H locs ls F hS hP hl => lv_icmp_ge F.1 F.2.1 hdg ht (fun q => kt q hK p e R s m args below meth c H locs ls F hS hP hl) (fun q => kf q hK p e R s m args below meth c H locs ls F hS hP hl)
theorem G_if_ge {rest : List Value} {x : Int32} {off : Int} {tgt : Nat} (hdg : decode M.2.1 pc = .ok (.ifCond .ge off, 3)) (ht : (pc : Int) + off = (tgt : Int)) (kt : 0 ≤ x → G K M d mc ms uc us tgt L rest h Qc XC) (kf : ¬ 0 ≤ x → G K M d mc ms uc us (pc + 3) L rest h Qc XC) : G K M d mc ms uc us pc L (.int x :: rest) h Qc XC := fun hK p e R s m args below meth c H locs ls F hS hP hl => lv_if_ge F.1 F.2.1 hdg ht (fun q => kt q hK p e R s m args below meth c H locs ls F hS hP hl) (fun q => kf q hK p e R s m args below meth c H locs ls F hS hP hl)
theorem G_icmp_gt {rest : List Value} {x y : Int32} {off : Int} {tgt : Nat} (hdg : decode M.2.1 pc = .ok (.if_icmp .gt off, 3)) (ht : (pc : Int) + off = (tgt : Int)) (kt : y < x → G K M d mc ms uc us tgt L rest h Qc XC) (kf : ¬ y < x → G K M d mc ms uc us (pc + 3) L rest h Qc XC) : G K M d mc ms uc us pc L (.int y :: .int x :: rest) h Qc XC := fun hK p e R s m args below meth c H locs ls F hS hP hl => lv_icmp_gt F.1 F.2.1 hdg ht (fun q => kt q hK p e R s m args below meth c H locs ls F hS hP hl) (fun q => kf q hK p e R s m args below meth c H locs ls F hS hP hl)
theorem G_if_gt {rest : List Value} {x : Int32} {off : Int} {tgt : Nat} (hdg : decode M.2.1 pc = .ok (.ifCond .gt off, 3)) (ht : (pc : Int) + off = (tgt : Int)) (kt : 0 < x → G K M d mc ms uc us tgt L rest h Qc XC) (kf : ¬ 0 < x → G K M d mc ms uc us (pc + 3) L rest h Qc XC) : G K M d mc ms uc us pc L (.int x :: rest) h Qc XC := fun hK p e R s m args below meth c H locs ls F hS hP hl => lv_if_gt F.1 F.2.1 hdg ht (fun q => kt q hK p e R s m args below meth c H locs ls F hS hP hl) (fun q => kf q hK p e R s m args below meth c H locs ls F hS hP hl)
theorem G_icmp_le {rest : List Value} {x y : Int32} {off : Int} {tgt : Nat} (hdg : decode M.2.1 pc = .ok (.if_icmp .le off, 3)) (ht : (pc : Int) + off = (tgt : Int)) (kt : x ≤ y → G K M d mc ms uc us tgt L rest h Qc XC) (kf : ¬ x ≤ y → G K M d mc ms uc us (pc + 3) L rest h Qc XC) : G K M d mc ms uc us pc L (.int y :: .int x :: rest) h Qc XC := fun hK p e R s m args below meth c H locs ls F hS hP hl => lv_icmp_le F.1 F.2.1 hdg ht (fun q => kt q hK p e R s m args below meth c H locs ls F hS hP hl) (fun q => kf q hK p e R s m args below meth c H locs ls F hS hP hl)
theorem G_if_le {rest : List Value} {x : Int32} {off : Int} {tgt : Nat} (hdg : decode M.2.1 pc = .ok (.ifCond .le off, 3)) (ht : (pc : Int) + off = (tgt : Int)) (kt : x ≤ 0 → G K M d mc ms uc us tgt L rest h Qc XC) (kf : ¬ x ≤ 0 → G K M d mc ms uc us (pc + 3) L rest h Qc XC) : G K M d mc ms uc us pc L (.int x :: rest) h Qc XC := fun hK p e R s m args below meth c H locs ls F hS hP hl => lv_if_le F.1 F.2.1 hdg ht (fun q => kt q hK p e R s m args below meth c H locs ls F hS hP hl) (fun q => kf q hK p e R s m args below meth c H locs ls F hS hP hl)
theorem G_iload_n {rest : List Value} {i : Fin 4} {x : Int32} (hdg : decode M.2.1 pc = .ok (.iload_n i, 1)) (hl0 : gl L i = some (.int x)) (k : G K M d mc ms uc us (pc + 1) L (.int x :: rest) h Qc XC) : G K M d mc ms uc us pc L rest h Qc XC := fun hK p e R s m args below meth c H locs ls F hS hP hl => lv_iload_n F.1 F.2.1 hdg rfl (gl_at hl hl0) (k hK p e R s m args below meth c H locs ls F hS hP hl)
theorem G_iload {rest : List Value} {i : Nat} {x : Int32} (hdg : decode M.2.1 pc = .ok (.iload i, 2)) (hl0 : gl L i = some (.int x)) (k : G K M d mc ms uc us (pc + 2) L (.int x :: rest) h Qc XC) : G K M d mc ms uc us pc L rest h Qc XC := fun hK p e R s m args below meth c H locs ls F hS hP hl => lv_iload F.1 F.2.1 hdg (gl_at hl hl0) (k hK p e R s m args below meth c H locs ls F hS hP hl)
theorem G_lload_n {rest : List Value} {i : Fin 4} {x : Int64} (hdg : decode M.2.1 pc = .ok (.lload_n i, 1)) (hl0 : gl L i = some (.long x)) (k : G K M d mc ms uc us (pc + 1) L (.long x :: rest) h Qc XC) : G K M d mc ms uc us pc L rest h Qc XC := fun hK p e R s m args below meth c H locs ls F hS hP hl => lv_lload_n F.1 F.2.1 hdg rfl (gl_at hl hl0) (k hK p e R s m args below meth c H locs ls F hS hP hl)
theorem G_aload_n {rest : List Value} {i : Fin 4} {x : Nat} (hdg : decode M.2.1 pc = .ok (.aload_n i, 1)) (hl0 : gl L i = some (.ref x)) (k : G K M d mc ms uc us (pc + 1) L (.ref x :: rest) h Qc XC) : G K M d mc ms uc us pc L rest h Qc XC := fun hK p e R s m args below meth c H locs ls F hS hP hl => lv_aload_n F.1 F.2.1 hdg rfl (gl_at hl hl0) (k hK p e R s m args below meth c H locs ls F hS hP hl)
theorem G_aload {rest : List Value} {i : Nat} {x : Nat} (hdg : decode M.2.1 pc = .ok (.aload i, 2)) (hl0 : gl L i = some (.ref x)) (k : G K M d mc ms uc us (pc + 2) L (.ref x :: rest) h Qc XC) : G K M d mc ms uc us pc L rest h Qc XC := fun hK p e R s m args below meth c H locs ls F hS hP hl => lv_aload F.1 F.2.1 hdg (gl_at hl hl0) (k hK p e R s m args below meth c H locs ls F hS hP hl)
theorem G_aloadS {rest : List Value} {i : Fin 4} {x : UInt32} (hdg : decode M.2.1 pc = .ok (.aload_n i, 1)) (hl0 : gl L i = some (.float x)) (k : G K M d mc ms uc us (pc + 1) L (.float x :: rest) h Qc XC) : G K M d mc ms uc us pc L rest h Qc XC := fun hK p e R s m args below meth c H locs ls F hS hP hl => lv_aload_n F.1 F.2.1 hdg rfl (gl_at hl hl0) (k hK p e R s m args below meth c H locs ls F hS hP hl)
theorem G_istore_n {rest : List Value} {i : Fin 4} {x : Int32} (hdg : decode M.2.1 pc = .ok (.istore_n i, 1)) (hi : (i : Nat) < M.2.2.1) (k : G K M d mc ms uc us (pc + 1) (gs L i (.int x)) rest h Qc XC) : G K M d mc ms uc us pc L (.int x :: rest) h Qc XC := fun hK p e R s m args below meth c H locs ls F hS hP hl => lv_istore_n F.1 F.2.1 hdg rfl hl hi (gs_map K L i (.int x)) (fun ls' hl' => k hK p e R s m args below meth c H locs ls' F hS hP hl')
theorem G_istore {rest : List Value} {i : Nat} {x : Int32} (hdg : decode M.2.1 pc = .ok (.istore i, 2)) (hi : (i : Nat) < M.2.2.1) (k : G K M d mc ms uc us (pc + 2) (gs L i (.int x)) rest h Qc XC) : G K M d mc ms uc us pc L (.int x :: rest) h Qc XC := fun hK p e R s m args below meth c H locs ls F hS hP hl => lv_istore F.1 F.2.1 hdg hl hi (gs_map K L i (.int x)) (fun ls' hl' => k hK p e R s m args below meth c H locs ls' F hS hP hl')
theorem G_lstore_n {rest : List Value} {i : Fin 4} {x : Int64} (hdg : decode M.2.1 pc = .ok (.lstore_n i, 1)) (hi : (i : Nat) + 1 < M.2.2.1) (k : G K M d mc ms uc us (pc + 1) (gs2 L i (.long x)) rest h Qc XC) : G K M d mc ms uc us pc L (.long x :: rest) h Qc XC := fun hK p e R s m args below meth c H locs ls F hS hP hl => lv_lstore_n F.1 F.2.1 hdg rfl hl hi (gs2_map K L i (.long x)) (fun ls' hl' => k hK p e R s m args below meth c H locs ls' F hS hP hl')
theorem G_astore_n {rest : List Value} {i : Fin 4} {x : Nat} (hdg : decode M.2.1 pc = .ok (.astore_n i, 1)) (hi : (i : Nat) < M.2.2.1) (k : G K M d mc ms uc us (pc + 1) (gs L i (.ref x)) rest h Qc XC) : G K M d mc ms uc us pc L (.ref x :: rest) h Qc XC := fun hK p e R s m args below meth c H locs ls F hS hP hl => lv_astore_n F.1 F.2.1 hdg rfl hl hi (gs_map K L i (.ref x)) (fun ls' hl' => k hK p e R s m args below meth c H locs ls' F hS hP hl')
theorem G_astore {rest : List Value} {i : Nat} {x : Nat} (hdg : decode M.2.1 pc = .ok (.astore i, 2)) (hi : (i : Nat) < M.2.2.1) (k : G K M d mc ms uc us (pc + 2) (gs L i (.ref x)) rest h Qc XC) : G K M d mc ms uc us pc L (.ref x :: rest) h Qc XC := fun hK p e R s m args below meth c H locs ls F hS hP hl => lv_astore F.1 F.2.1 hdg hl hi (gs_map K L i (.ref x)) (fun ls' hl' => k hK p e R s m args below meth c H locs ls' F hS hP hl')
theorem G_iinc {rest : List Value} {i : Nat} {n : Int} {x v : Int32} (hdg : decode M.2.1 pc = .ok (.iinc i n, 3)) (hl0 : gl L i = some (.int x)) (hv : Int32.ofInt n = v) (hi : i < M.2.2.1) (k : G K M d mc ms uc us (pc + 3) (gs L i (.int (x + v))) rest h Qc XC) : G K M d mc ms uc us pc L rest h Qc XC := by
  intro hK p e R s m args below meth c H locs ls F hS hP hl
  obtain ⟨j, hj⟩ := List.getElem?_of_mem (List.mem_map.mpr ⟨(i, .int x), gl_mem hl0, rfl⟩ : (i, vv K (.int x)) ∈ L.map (vl K))
  exact lv_iinc F.1 F.2.1 hdg hl hj (by rw [hv]) hi (gs_map K L i (.int (x + v))) (fun ls' hl' => k hK p e R s m args below meth c H locs ls' F hS hP hl')
theorem G_ldc {rest : List Value} {idx : Nat} {v : Int32} (hdg : decode M.2.1 pc = .ok (.ldc idx, 2)) (hw : Cond.constant M.1.cls idx v ∈ tbG) (k : G K M d mc ms uc us (pc + 2) L (.int v :: rest) h Qc XC) : G K M d mc ms uc us pc L rest h Qc XC := fun hK p e R s m args below meth c H locs ls F hS hP hl => lv_ldc F.1 F.2.1 F.2.2.2.1 (F.2.2.2.2.1 _ hw) hdg (k hK p e R s m args below meth c H locs ls F hS hP hl)
theorem G_ldcw {rest : List Value} {idx : Nat} {v : Int32} (hdg : decode M.2.1 pc = .ok (.ldc_w idx, 3)) (hw : Cond.constant M.1.cls idx v ∈ tbG) (k : G K M d mc ms uc us (pc + 3) L (.int v :: rest) h Qc XC) : G K M d mc ms uc us pc L rest h Qc XC := fun hK p e R s m args below meth c H locs ls F hS hP hl => lv_ldcw F.1 F.2.1 F.2.2.2.1 (F.2.2.2.2.1 _ hw) hdg (k hK p e R s m args below meth c H locs ls F hS hP hl)
theorem G_ldc2 {rest : List Value} {idx : Nat} {v : Int64} (hdg : decode M.2.1 pc = .ok (.ldc2_w idx, 3)) (hw : Cond.constantLong M.1.cls idx v ∈ tbG) (k : G K M d mc ms uc us (pc + 3) L (.long v :: rest) h Qc XC) : G K M d mc ms uc us pc L rest h Qc XC := fun hK p e R s m args below meth c H locs ls F hS hP hl => lv_ldc2 F.1 F.2.1 F.2.2.2.1 (F.2.2.2.2.1 _ hw) hdg (k hK p e R s m args below meth c H locs ls F hS hP hl)
theorem G_table {rest : List Value} {dflt lo hi : Int} {offs : Array Int} {len : Nat} {x : Int32} {off : Int} {tgt : Nat} (hdg : decode M.2.1 pc = .ok (.tableswitch dflt lo hi offs, len)) (h1 : ¬ x.toInt < lo) (h2 : ¬ hi < x.toInt) (ho : offs[(x.toInt - lo).toNat]? = some off) (ht : (pc : Int) + off = (tgt : Int)) (k : G K M d mc ms uc us tgt L rest h Qc XC) : G K M d mc ms uc us pc L (.int x :: rest) h Qc XC := fun hK p e R s m args below meth c H locs ls F hS hP hl => lv_tableIn F.1 F.2.1 hdg h1 h2 ho ht (k hK p e R s m args below meth c H locs ls F hS hP hl)
end GR
