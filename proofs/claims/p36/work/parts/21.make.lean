set_option maxHeartbeats 200000 in
theorem win_oi : Cond.instanceMethod objectInit ∈ tbG := tb_mem 39 (by decide +kernel) (by decide +kernel)
set_option maxHeartbeats 200000 in
theorem wco_oi : Cond.code objectInit ⟨#[0xb1]⟩ 1 none ∈ tbG := tb_mem 40 (by decide +kernel) (by decide +kernel)
section CN
variable {K : GK} {M : MD} {d mc ms uc us pc : Nat} {L : List (Nat × Value)} {h : VH} {Qc : Array Value → State → Outcome → State → Prop} {XC : String → State → State → Prop}
set_option maxHeartbeats 200000 in
theorem as_self (vm : Vm) (c : ClassId) : vm.assignable c c = true := by
  show vm.assignableAux (255 + 1) c c = true
  rw [Vm.assignableAux]
  simp only [beq_self_eq_true, Bool.true_or]
-- a new array of layers
set_option maxHeartbeats 200000 in
theorem G_newq {rest : List Value} {n : Int32} {N idx : Nat} (hdg : decode M.2.1 pc = .ok (.anewarray idx, 3)) (hb : h.1 = true) (hlink : Cond.classLink M.1.cls idx RX2 ∈ tbG) (hE : ∀ s, kE K s → va_AO RX2 s) (hn : ¬ n < 0) (hN : n.toNatClampNeg = N) (hbytes : N * 4 ≤ 536870912) (hcs : uc + 1 ≤ mc ∧ us + N ≤ ms)
    (kk : G K M d mc ms (uc + 1) (us + N) (pc + 3) L (.ref h.2.length :: rest) (true, h.2 ++ [.inl (1, N, .inr (.inr (.inr (.inr (fun _ => none)))))]) Qc XC) : G K M d mc ms uc us pc L (.int n :: rest) h Qc XC := by
  intro hK p e R s m args below meth c H locs ls F hS hP hl
  have hKs := F.2.2.2.2.2.2.2.2.2.2.2.2
  subst hN
  refine W.anew F.1 F.2.1 F.2.2.2.1 (F.2.2.2.2.1 _ hlink) (va_AO.use (hE s hKs.2.2.2.1)) rfl hdg rfl hn hbytes (Nat.le_trans hcs.1 F.2.2.2.2.2.2.2.2.2.2.1) (Nat.le_trans hcs.2 F.2.2.2.2.2.2.2.2.2.2.2.1) fun cA kcl comp f1 f2 f3 f4 => ?_
  generalize hH1 : H.push ({ cls := cA, slots := Array.replicate n.toNatClampNeg .null, vm := .none } : Cell) = H1
  have z1 : H1.size = H.size + 1 := by rw [← hH1, Array.size_push]
  have e1 : H1[H.size]? = some (arrV cA n.toNatClampNeg (fun _ => .null)) := by rw [← hH1, Array.getElem?_push_size, ← arrV_new]
  have o1 : ∀ q : Nat, q < H.size → H1[q]? = H[q]? := fun q hq => by rw [← hH1, Array.getElem?_push, if_neg (Nat.ne_of_lt hq)]
  have e0 : kA K h.2.length = H.size := hP.2.1 hb 0
  obtain ⟨kA', comp', k1, k2, k3, k4⟩ := (hKs.2.1.2 1 _ (ktys_at rfl)).2
  have ec : cA = kC K 1 := by
    have := f1.symm.trans k4
    exact Option.some.inj this
  have hS1 : va_S (kF K) s.heap H1 locs := ⟨Nat.le_trans hS.1 (by omega), fun x h1 h2 => (o1 x (Nat.lt_of_lt_of_le h1 hS.1)).trans (hS.2.1 x h1 h2), hS.2.2⟩
  have q := kk hK p e R s m args below meth c H1 locs ls F hS1 (Ph_push hb hP (e := .inl (1, n.toNatClampNeg, .inr (.inr (.inr (.inr (fun _ => none)))))) (by
    show H1[H.size]? = some (vp_cell (kC K 1) (n.toNatClampNeg, .inr (.inr (.inr (.inr (fun _ => none))))))
    rw [e1, vp_cell_q, ec]; rfl) z1 o1) hl
  rw [← e0]
  exact q
-- a layer goes into the array
set_option maxHeartbeats 200000 in
theorem G_aast {rest : List Value} {a b n : Nat} {f : Nat → Option Nat} {fs : List Value} {i : Int32} (hdg : decode M.2.1 pc = .ok (.aastore, 1)) (h0 : h.2[a]? = some (.inl (1, n, .inr (.inr (.inr (.inr f)))))) (hb : h.2[b]? = some (.inr (2, fs))) (hin : vp_in i n)
    (kk : G K M d mc ms uc us (pc + 1) L rest (h.1, h.2.set a (.inl (1, n, .inr (.inr (.inr (.inr (va_up f i.toNatClampNeg (some b)))))))) Qc XC) : G K M d mc ms uc us pc L (.ref b :: .int i :: .ref a :: rest) h Qc XC := by
  intro hK p e R s m args below meth c H locs ls F hS hP hl
  have hKa := F.2.2.2.2.2.2.2.2.2.2.2.2.2.1
  have hlt : i.toNatClampNeg < n := Nat.not_le.mp fun q => hin (Or.inr q)
  have hi0 : ¬ i < 0 := fun q => hin (Or.inl q)
  obtain ⟨r', hr', cellV, g1, g2, g3, -⟩ := hP.1 b _ (vW_at hb)
  have hcls := (hKa.1 2 _ (show gcl[2]? = some (RX2, TX2, 4) from rfl)).2
  obtain ⟨kA', comp, k1, k2, k3, -⟩ := (hKa.2 1 _ (ktys_at rfl)).2
  obtain ⟨kE', hkE, -⟩ := Vm.findClass_spec k3
  have ecomp : comp = (kD K).1 2 := Option.some.inj (k3.symm.trans hcls.1)
  refine W.aast F.1 F.2.1 (hP.1 a _ (vW_at h0)) (fun q h => by cases h) (fun h => by cases h) k1 k2 rfl hkE ⟨hi0, by show _ < (arrV _ _ _).slots.size; rw [arrV_size]; exact hlt⟩ g1 (fun q h => by rw [g3] at h; cases h) (by rw [g2, ← ecomp]; exact hkE) (by rw [g2, ecomp]; exact as_self _ _) rfl rfl hdg fun H1 e1 z oq => ?_
  refine kk hK p e R s m args below meth c H1 _ ls F (hS.put z oq (hK.2.1 a)) (Ph_set hK hP h0 ?_ z oq) hl
  show H1[kA K a]? = some (vp_cell _ _)
  rw [e1]
  show _ = some (vp_cell (kC K 1) (n, .inr (.inr (.inr (.inr (fun j => (va_up f i.toNatClampNeg (some b) j).map (kA K)))))))
  rw [show vp_cell (kC K 1) (va2 K (n, .inr (.inr (.inr (.inr f))))) = vp_cell (kC K 1) (n, .inr (.inr (.inr (.inr (fun j => (f j).map (kA K)))))) from rfl, vp_cell_q, vp_cell_q, arrV_store]
  congr 2
  funext q
  by_cases hq : q = i.toNatClampNeg
  · subst hq
    simp [updV, va_up, va_rf]
  · simp [updV, va_up, hq]
set_option maxHeartbeats 200000 in
theorem at_app {h0 l : List VE} {a i : Nat} (ha : h0.length = a) : (h0 ++ l)[a + i]? = l[i]? := by
  rw [List.getElem?_append_right (by omega), show a + i - h0.length = i by omega]
set_option maxHeartbeats 200000 in
theorem set_app {h0 l : List VE} {a i : Nat} {e : VE} (ha : h0.length = a) : (h0 ++ l).set (a + i) e = h0 ++ l.set i e := by
  rw [List.set_append_right _ _ (by omega), show a + i - h0.length = i by omega]
set_option maxHeartbeats 200000 in
theorem len_app {h0 l : List VE} {a b : Nat} (ha : h0.length = a) (hb : a + l.length = b) : (h0 ++ l).length = b := by rw [List.length_append, ha]; exact hb
set_option maxHeartbeats 200000 in
theorem G_heap {st : List Value} {h' : VH} (e : h = h') (kk : G K M d mc ms uc us pc L st h' Qc XC) : G K M d mc ms uc us pc L st h Qc XC := e ▸ kk
-- a new object behind what there is
set_option maxHeartbeats 200000 in
theorem G_newT {rest : List Value} {ci idx N b : Nat} {C : String} {T : u_T} {fs : List Value} {l : List VE} (hdg : decode M.2.1 pc = .ok (.new idx, 3)) (hb : l.length = b) (hc : gcl[ci]? = some (C, T, N)) (hlink : Cond.classLink M.1.cls idx C ∈ tbG) (hinst : Cond.instantiable C N ∈ tbG) (hini : Cond.initialized C ∈ tbG) (hfs : ∀ j, j < N → defaultValue (gty ci j) = vp_V (fs.map (vv K)) j) (hcs : uc + 1 ≤ mc ∧ us + N ≤ ms)
    (kk : G K M d mc ms (uc + 1) (us + N) (pc + 3) L (.ref b :: rest) (true, l ++ [.inr (ci, fs)]) Qc XC) : G K M d mc ms uc us pc L rest (true, l) Qc XC := by
  subst hb
  exact G_new hdg rfl hc hlink hinst hini hfs hcs kk
set_option maxHeartbeats 200000 in
theorem G_newaT {rest : List Value} {n : Int32} {N b : Nat} {l : List VE} (hdg : decode M.2.1 pc = .ok (.newarray .int, 2)) (hb : l.length = b) (hn : ¬ n < 0) (hN : n.toNatClampNeg = N) (hbytes : N * 4 ≤ 536870912) (hcs : uc + 1 ≤ mc ∧ us + N ≤ ms)
    (kk : G K M d mc ms (uc + 1) (us + N) (pc + 2) L (.ref b :: rest) (true, l ++ [.inl (0, N, .inl (fun _ => 0))]) Qc XC) : G K M d mc ms uc us pc L (.int n :: rest) (true, l) Qc XC := by
  subst hb
  exact G_newa hdg rfl war_66 hn hN hbytes hcs kk
set_option maxHeartbeats 200000 in
theorem G_newqT {rest : List Value} {n : Int32} {N b idx : Nat} {l : List VE} (hdg : decode M.2.1 pc = .ok (.anewarray idx, 3)) (hb : l.length = b) (hlink : Cond.classLink M.1.cls idx RX2 ∈ tbG) (hE : ∀ s, kE K s → va_AO RX2 s) (hn : ¬ n < 0) (hN : n.toNatClampNeg = N) (hbytes : N * 4 ≤ 536870912) (hcs : uc + 1 ≤ mc ∧ us + N ≤ ms)
    (kk : G K M d mc ms (uc + 1) (us + N) (pc + 3) L (.ref b :: rest) (true, l ++ [.inl (1, N, .inr (.inr (.inr (.inr (fun _ => none)))))]) Qc XC) : G K M d mc ms uc us pc L (.int n :: rest) (true, l) Qc XC := by
  subst hb
  exact G_newq hdg rfl hlink hE hn hN hbytes hcs kk
-- a final field of the object that is being made
set_option maxHeartbeats 200000 in
theorem G_putFT {rest : List Value} {a ci idx N k : Nat} {C : String} {T : u_T} {fs : List Value} {v : Value} {h0 tl t2 : List VE} (hdg : decode M.2.1 pc = .ok (.putfield idx, 3)) (ha : h0.length = a) (hc : gcl[ci]? = some (C, T, N)) (hlink : Cond.fieldLink M.1.cls idx (T k).1 (T k).2.1 (T k).2.2.1 ∈ tbG) (hk : k < N) (hfin : (T k).2.2.2 = true) (hin2 : M.1.name = "<init>") (hdecl : (T k).1 = M.1.cls) (hn : narrow (gty ci k) (vv K v) = vv K v) (hfit : fits (gty ci k) (vv K v) = true) (hl0 : k < fs.length)
    (kk : G K M d mc ms uc us (pc + 3) L rest (true, h0 ++ .inr (ci, fs.set k v) :: (tl ++ t2)) Qc XC) : G K M d mc ms uc us pc L (v :: .ref a :: rest) (true, (h0 ++ .inr (ci, fs) :: tl) ++ t2) Qc XC := by
  refine G_putF hdg (fs := fs) (ci := ci) ?_ hc hlink hk hfin hin2 hdecl hn hfit hl0 ?_
  · show ((h0 ++ .inr (ci, fs) :: tl) ++ t2)[a]? = _
    rw [List.append_assoc]
    exact at_app (i := 0) ha
  · show G K M d mc ms uc us (pc + 3) L rest (true, ((h0 ++ .inr (ci, fs) :: tl) ++ t2).set a (.inr (ci, fs.set k v))) Qc XC
    rw [List.append_assoc, show ((h0 ++ ((.inr (ci, fs) :: tl) ++ t2)).set a (.inr (ci, fs.set k v))) = h0 ++ ((.inr (ci, fs) :: tl) ++ t2).set 0 (.inr (ci, fs.set k v)) from set_app (i := 0) ha]
    exact kk
-- the same, nothing made since
set_option maxHeartbeats 200000 in
theorem G_putFT0 {rest : List Value} {a ci idx N k : Nat} {C : String} {T : u_T} {fs : List Value} {v : Value} {h0 tl : List VE} (hdg : decode M.2.1 pc = .ok (.putfield idx, 3)) (ha : h0.length = a) (hc : gcl[ci]? = some (C, T, N)) (hlink : Cond.fieldLink M.1.cls idx (T k).1 (T k).2.1 (T k).2.2.1 ∈ tbG) (hk : k < N) (hfin : (T k).2.2.2 = true) (hin2 : M.1.name = "<init>") (hdecl : (T k).1 = M.1.cls) (hn : narrow (gty ci k) (vv K v) = vv K v) (hfit : fits (gty ci k) (vv K v) = true) (hl0 : k < fs.length)
    (kk : G K M d mc ms uc us (pc + 3) L rest (true, h0 ++ .inr (ci, fs.set k v) :: tl) Qc XC) : G K M d mc ms uc us pc L (v :: .ref a :: rest) (true, h0 ++ .inr (ci, fs) :: tl) Qc XC := by
  refine G_putF hdg (fs := fs) (ci := ci) (at_app (i := 0) ha) hc hlink hk hfin hin2 hdecl hn hfit hl0 ?_
  show G K M d mc ms uc us (pc + 3) L rest (true, (h0 ++ .inr (ci, fs) :: tl).set (a + 0) (.inr (ci, fs.set k v))) Qc XC
  rw [set_app ha]
  exact kk
set_option maxHeartbeats 200000 in
theorem G_putT0 {rest : List Value} {a ci idx N k : Nat} {C : String} {T : u_T} {fs : List Value} {v : Value} {h0 tl : List VE} (hdg : decode M.2.1 pc = .ok (.putfield idx, 3)) (ha : h0.length = a) (hc : gcl[ci]? = some (C, T, N)) (hlink : Cond.fieldLink M.1.cls idx (T k).1 (T k).2.1 (T k).2.2.1 ∈ tbG) (hk : k < N) (hfin : (T k).2.2.2 = false) (hn : narrow (gty ci k) (vv K v) = vv K v) (hfit : fits (gty ci k) (vv K v) = true) (hl0 : k < fs.length)
    (kk : G K M d mc ms uc us (pc + 3) L rest (true, h0 ++ .inr (ci, fs.set k v) :: tl) Qc XC) : G K M d mc ms uc us pc L (v :: .ref a :: rest) (true, h0 ++ .inr (ci, fs) :: tl) Qc XC := by
  refine G_put hdg (fs := fs) (ci := ci) (at_app (i := 0) ha) hc hlink hk hfin hn hfit hl0 ?_
  show G K M d mc ms uc us (pc + 3) L rest (true, (h0 ++ .inr (ci, fs) :: tl).set (a + 0) (.inr (ci, fs.set k v))) Qc XC
  rw [set_app ha]
  exact kk
variable {h' : VH}
set_option maxHeartbeats 200000 in
theorem G_cIv {M' : MD} {n d' mc' ms' a idx : Nat} {As rest st : List Value} (hdg : decode M.2.1 pc = .ok (.invokespecial idx, 3)) (hcv : CI M' n) (hlink : Cond.methodLink M.1.cls idx M'.1 ∈ tbG) (hSp : Sp K M' d' mc' ms' (.ref a :: As) h (fun v u => v = none ∧ u = h') noX) (hst : st = As.reverse ++ .ref a :: rest)
    (hn : As.length = n) (hd : d' + 1 ≤ d) (hcs : uc + mc' ≤ mc ∧ us + ms' ≤ ms) (hw : (rest.map fun v => v.category).sum ≤ 8)
    (kk : G K M d mc ms (uc + mc') (us + ms') (pc + 3) L rest h' Qc XC) : G K M d mc ms uc us pc L st h Qc XC :=
  G_callI hdg hcv hlink hSp hst hn hd hcs hw (fun v u q => by obtain ⟨rfl, rfl⟩ := q; exact kk) (fun _ _ q => q.elim)
set_option maxHeartbeats 200000 in
theorem G_cINv {M' : MD} {n d' mc' ms' a idx : Nat} {host : String} {As rest st : List Value} (hdg : decode M.2.1 pc = .ok (.invokespecial idx, 3)) (hcv : CI M' n) (hlink : Cond.methodLinkNest M.1.cls idx M'.1 host ∈ tbN) (hSp : Sp K M' d' mc' ms' (.ref a :: As) h (fun v u => v = none ∧ u = h') noX) (hst : st = As.reverse ++ .ref a :: rest)
    (hn : As.length = n) (hd : d' + 1 ≤ d) (hcs : uc + mc' ≤ mc ∧ us + ms' ≤ ms) (hw : (rest.map fun v => v.category).sum ≤ 8)
    (kk : G K M d mc ms (uc + mc') (us + ms') (pc + 3) L rest h' Qc XC) : G K M d mc ms uc us pc L st h Qc XC :=
  G_callIN hdg hcv hlink hSp hst hn hd hcs hw (fun v u q => by obtain ⟨rfl, rfl⟩ := q; exact kk) (fun _ _ q => q.elim)
end CN
section CM
variable {K : GK} {h0 : List VE} {a : Nat}
def rowL (a n : Nat) : List VE := [.inr (3, [.ref (a + 1)]), .inl (0, n, .inl (fun _ => 0))]
def boxL (a n : Nat) : List VE := .inr (0, [.ref (a + 1), .ref (a + 3), .ref (a + 5), .ref (a + 7)]) :: (((([] ++ rowL (a + 1) n) ++ rowL (a + 3) n) ++ rowL (a + 5) n) ++ rowL (a + 7) n)
def thgL (a : Nat) : List VE := .inr (4, [.ref (a + 1), .ref (a + 10), .ref (a + 12), .ref (a + 14), .ref (a + 16), .int 0]) :: ((((([] ++ boxL (a + 1) 80) ++ rowL (a + 10) 80) ++ rowL (a + 12) 80) ++ rowL (a + 14) 80) ++ rowL (a + 16) 80)
def fenL (a : Nat) : List VE := .inr (1, [.ref (a + 1), .ref (a + 3), .int 0]) :: (([] ++ rowL (a + 1) 8) ++ rowL (a + 3) 8)
def treL0 (a : Nat) : List VE := .inr (5, [.ref (a + 1), .ref (a + 10), .ref (a + 12), .ref (a + 14), .ref (a + 16), .ref (a + 18), .ref (a + 20), .ref (a + 22), .int 0, .int 0]) :: (((((((([] ++ boxL (a + 1) 1205) ++ rowL (a + 10) 1205) ++ rowL (a + 12) 1205) ++ rowL (a + 14) 1205) ++ rowL (a + 16) 1205) ++ rowL (a + 18) 1205) ++ rowL (a + 20) 80) ++ rowL (a + 22) 80)
def treL (a : Nat) : List VE := (treL0 a).set 21 (.inl (0, 80, .inl (rfil (fun _ => 0) 80 (-1) 0)))
def layL (a : Nat) (p q : Int32) : List VE := .inr (2, [.int p, .int q, .ref (a + 1), .int 4]) :: ([] ++ treL (a + 1))
def idxL (a : Nat) : List VE := .inr (6, [.ref (a + 1), .ref (a + 19), .ref (a + 20), .ref (a + 25), .int 0]) :: (((([] ++ thgL (a + 1)) ++ [.inl (1, 4, .inr (.inr (.inr (.inr (fun _ => none)))))]) ++ fenL (a + 20)) ++ treL (a + 25))
abbrev fs0_0 : List Value := [.null, .null, .null, .null]
set_option maxHeartbeats 200000 in
theorem hfs_0 : ∀ j, j < 4 → defaultValue (gty 0 j) = vp_V (fs0_0.map (vv K)) j := by
  intro j hj
  match j, hj with
  | 0, _ => rfl
  | 1, _ => rfl
  | 2, _ => rfl
  | 3, _ => rfl
  | j + 4, hj => exact absurd hj (by omega)
abbrev fs0_1 : List Value := [.null, .null, .int 0]
set_option maxHeartbeats 200000 in
theorem hfs_1 : ∀ j, j < 3 → defaultValue (gty 1 j) = vp_V (fs0_1.map (vv K)) j := by
  intro j hj
  match j, hj with
  | 0, _ => rfl
  | 1, _ => rfl
  | 2, _ => rfl
  | j + 3, hj => exact absurd hj (by omega)
abbrev fs0_2 : List Value := [.int 0, .int 0, .null, .int 0]
set_option maxHeartbeats 200000 in
theorem hfs_2 : ∀ j, j < 4 → defaultValue (gty 2 j) = vp_V (fs0_2.map (vv K)) j := by
  intro j hj
  match j, hj with
  | 0, _ => rfl
  | 1, _ => rfl
  | 2, _ => rfl
  | 3, _ => rfl
  | j + 4, hj => exact absurd hj (by omega)
abbrev fs0_3 : List Value := [.null]
set_option maxHeartbeats 200000 in
theorem hfs_3 : ∀ j, j < 1 → defaultValue (gty 3 j) = vp_V (fs0_3.map (vv K)) j := by
  intro j hj
  match j, hj with
  | 0, _ => rfl
  | j + 1, hj => exact absurd hj (by omega)
abbrev fs0_4 : List Value := [.null, .null, .null, .null, .null, .int 0]
set_option maxHeartbeats 200000 in
theorem hfs_4 : ∀ j, j < 6 → defaultValue (gty 4 j) = vp_V (fs0_4.map (vv K)) j := by
  intro j hj
  match j, hj with
  | 0, _ => rfl
  | 1, _ => rfl
  | 2, _ => rfl
  | 3, _ => rfl
  | 4, _ => rfl
  | 5, _ => rfl
  | j + 6, hj => exact absurd hj (by omega)
abbrev fs0_5 : List Value := [.null, .null, .null, .null, .null, .null, .null, .null, .int 0, .int 0]
set_option maxHeartbeats 200000 in
theorem hfs_5 : ∀ j, j < 10 → defaultValue (gty 5 j) = vp_V (fs0_5.map (vv K)) j := by
  intro j hj
  match j, hj with
  | 0, _ => rfl
  | 1, _ => rfl
  | 2, _ => rfl
  | 3, _ => rfl
  | 4, _ => rfl
  | 5, _ => rfl
  | 6, _ => rfl
  | 7, _ => rfl
  | 8, _ => rfl
  | 9, _ => rfl
  | j + 10, hj => exact absurd hj (by omega)
abbrev fs0_6 : List Value := [.null, .null, .null, .null, .int 0]
set_option maxHeartbeats 200000 in
theorem hfs_6 : ∀ j, j < 5 → defaultValue (gty 6 j) = vp_V (fs0_6.map (vv K)) j := by
  intro j hj
  match j, hj with
  | 0, _ => rfl
  | 1, _ => rfl
  | 2, _ => rfl
  | 3, _ => rfl
  | 4, _ => rfl
  | j + 5, hj => exact absurd hj (by omega)
set_option maxHeartbeats 200000 in
theorem sp_X3_init (ha : h0.length = a) {n : Nat} (hn : n ≤ 100000) : Sp K MX3_init 1 (1) (n) [.ref a, .int (nI n)] (true, h0 ++ [.inr (3, fs0_3)]) (fun v u => v = none ∧ u = (true, h0 ++ rowL a n)) noX := by
  refine Sp_of (by decide) (Nat.le_of_ble_eq_true rfl) ?_
  have hn0 : ¬ nI n < 0 := nI_pos (by omega)
  refine G_aload_n dX3_init_0 rfl ?_
  refine G_objInit dX3_init_1 wml_X3_1 win_oi wco_oi (by decide) (Nat.le_of_ble_eq_true rfl) ?_
  refine G_aload_n dX3_init_4 rfl ?_
  refine G_iload_n dX3_init_5 rfl ?_
  refine G_iconst (v := 0) dX3_init_6 (by decide) ?_
  refine G_max dX3_init_7 wml_X3_7 (by decide) ⟨by omega, by omega⟩ (Nat.le_of_ble_eq_true rfl) ?_
  rw [if_neg hn0]
  refine G_newaT (b := a + 1) (N := n) dX3_init_10 (len_app ha rfl) hn0 (nI_clamp (by omega)) (by omega) (by omega) ?_
  refine G_putFT (ci := 3) (k := 0) dX3_init_12 ha rfl wfl_X3_13 (by decide) rfl rfl rfl rfl rfl (by simp) ?_
  refine G_vret dX3_init_15 rfl (by omega) ⟨rfl, ?_⟩
  rfl
set_option maxHeartbeats 200000 in
theorem sp_X0_init (ha : h0.length = a) {n : Nat} (hn : n ≤ 100000) : Sp K MX0_init 2 (8) (4 * (n + 1)) [.ref a, .int (nI n)] (true, h0 ++ [.inr (0, fs0_0)]) (fun v u => v = none ∧ u = (true, h0 ++ boxL a n)) noX := by
  refine Sp_of (by decide) (Nat.le_of_ble_eq_true rfl) ?_
  refine G_aload_n dX0_init_0 rfl ?_
  refine G_objInit dX0_init_1 wml_X0_1 win_oi wco_oi (by decide) (Nat.le_of_ble_eq_true rfl) ?_
  refine G_aload_n dX0_init_4 rfl ?_
  refine G_newT (b := a + 1) (ci := 3) (fs := fs0_3) dX0_init_5 (len_app ha rfl) rfl wcl_X0_7 wia_X3 wii_X3 hfs_3 (by omega) ?_
  refine G_dup dX0_init_8 rfl ?_
  refine G_iload_n dX0_init_9 rfl ?_
  refine G_cIv (As := [_]) dX0_init_10 kI_X3_init wml_X0_9 (sp_X3_init (len_app (h0 := h0) ha rfl) (by omega)) rfl rfl (by decide) (by omega) (Nat.le_of_ble_eq_true rfl) ?_
  refine G_putFT (ci := 0) (k := 0) dX0_init_13 ha rfl wfl_X0_12 (by decide) rfl rfl rfl rfl rfl (by simp) ?_
  refine G_aload_n dX0_init_16 rfl ?_
  refine G_newT (b := a + 3) (ci := 3) (fs := fs0_3) dX0_init_17 (len_app ha rfl) rfl wcl_X0_7 wia_X3 wii_X3 hfs_3 (by omega) ?_
  refine G_dup dX0_init_20 rfl ?_
  refine G_iload_n dX0_init_21 rfl ?_
  refine G_cIv (As := [_]) dX0_init_22 kI_X3_init wml_X0_9 (sp_X3_init (len_app (h0 := h0) ha rfl) (by omega)) rfl rfl (by decide) (by omega) (Nat.le_of_ble_eq_true rfl) ?_
  refine G_putFT (ci := 0) (k := 1) dX0_init_25 ha rfl wfl_X0_18 (by decide) rfl rfl rfl rfl rfl (by simp) ?_
  refine G_aload_n dX0_init_28 rfl ?_
  refine G_newT (b := a + 5) (ci := 3) (fs := fs0_3) dX0_init_29 (len_app ha rfl) rfl wcl_X0_7 wia_X3 wii_X3 hfs_3 (by omega) ?_
  refine G_dup dX0_init_32 rfl ?_
  refine G_iload_n dX0_init_33 rfl ?_
  refine G_cIv (As := [_]) dX0_init_34 kI_X3_init wml_X0_9 (sp_X3_init (len_app (h0 := h0) ha rfl) (by omega)) rfl rfl (by decide) (by omega) (Nat.le_of_ble_eq_true rfl) ?_
  refine G_putFT (ci := 0) (k := 2) dX0_init_37 ha rfl wfl_X0_21 (by decide) rfl rfl rfl rfl rfl (by simp) ?_
  refine G_aload_n dX0_init_40 rfl ?_
  refine G_newT (b := a + 7) (ci := 3) (fs := fs0_3) dX0_init_41 (len_app ha rfl) rfl wcl_X0_7 wia_X3 wii_X3 hfs_3 (by omega) ?_
  refine G_dup dX0_init_44 rfl ?_
  refine G_iload_n dX0_init_45 rfl ?_
  refine G_cIv (As := [_]) dX0_init_46 kI_X3_init wml_X0_9 (sp_X3_init (len_app (h0 := h0) ha rfl) (by omega)) rfl rfl (by decide) (by omega) (Nat.le_of_ble_eq_true rfl) ?_
  refine G_putFT (ci := 0) (k := 3) dX0_init_49 ha rfl wfl_X0_24 (by decide) rfl rfl rfl rfl rfl (by simp) ?_
  refine G_vret dX0_init_52 rfl (by omega) ⟨rfl, ?_⟩
  rfl
set_option maxHeartbeats 200000 in
theorem sp_X4_init (ha : h0.length = a) : Sp K MX4_init 3 (17) (4 + 4 * 81 + 4 * 81) [.ref a] (true, h0 ++ [.inr (4, fs0_4)]) (fun v u => v = none ∧ u = (true, h0 ++ thgL a)) noX := by
  refine Sp_of (by decide) (Nat.le_of_ble_eq_true rfl) ?_
  refine G_aload_n dX4_init_0 rfl ?_
  refine G_objInit dX4_init_1 wml_X4_3 win_oi wco_oi (by decide) (Nat.le_of_ble_eq_true rfl) ?_
  refine G_aload_n dX4_init_4 rfl ?_
  refine G_newT (b := a + 1) (ci := 0) (fs := fs0_0) dX4_init_5 (len_app ha rfl) rfl wcl_X4_9 wia_X0 wii_X0 hfs_0 (by omega) ?_
  refine G_dup dX4_init_8 rfl ?_
  refine G_bipush (v := 80) dX4_init_9 (by decide) ?_
  refine G_cIv (As := [_]) dX4_init_11 kI_X0_init wml_X4_11 (sp_X0_init (len_app (h0 := h0) ha rfl) (n := 80) (by omega)) rfl rfl (by decide) (by omega) (Nat.le_of_ble_eq_true rfl) ?_
  refine G_putFT (ci := 4) (k := 0) dX4_init_14 ha rfl wfl_X4_14 (by decide) rfl rfl rfl rfl rfl (by simp) ?_
  refine G_aload_n dX4_init_17 rfl ?_
  refine G_newT (b := a + 10) (ci := 3) (fs := fs0_3) dX4_init_18 (len_app ha rfl) rfl wcl_X4_20 wia_X3 wii_X3 hfs_3 (by omega) ?_
  refine G_dup dX4_init_21 rfl ?_
  refine G_bipush (v := 80) dX4_init_22 (by decide) ?_
  refine G_cIv (As := [_]) dX4_init_24 kI_X3_init wml_X4_22 (sp_X3_init (len_app (h0 := h0) ha rfl) (n := 80) (by omega)) rfl rfl (by decide) (by omega) (Nat.le_of_ble_eq_true rfl) ?_
  refine G_putFT (ci := 4) (k := 1) dX4_init_27 ha rfl wfl_X4_23 (by decide) rfl rfl rfl rfl rfl (by simp) ?_
  refine G_aload_n dX4_init_30 rfl ?_
  refine G_newT (b := a + 12) (ci := 3) (fs := fs0_3) dX4_init_31 (len_app ha rfl) rfl wcl_X4_20 wia_X3 wii_X3 hfs_3 (by omega) ?_
  refine G_dup dX4_init_34 rfl ?_
  refine G_bipush (v := 80) dX4_init_35 (by decide) ?_
  refine G_cIv (As := [_]) dX4_init_37 kI_X3_init wml_X4_22 (sp_X3_init (len_app (h0 := h0) ha rfl) (n := 80) (by omega)) rfl rfl (by decide) (by omega) (Nat.le_of_ble_eq_true rfl) ?_
  refine G_putFT (ci := 4) (k := 2) dX4_init_40 ha rfl wfl_X4_27 (by decide) rfl rfl rfl rfl rfl (by simp) ?_
  refine G_aload_n dX4_init_43 rfl ?_
  refine G_newT (b := a + 14) (ci := 3) (fs := fs0_3) dX4_init_44 (len_app ha rfl) rfl wcl_X4_20 wia_X3 wii_X3 hfs_3 (by omega) ?_
  refine G_dup dX4_init_47 rfl ?_
  refine G_bipush (v := 80) dX4_init_48 (by decide) ?_
  refine G_cIv (As := [_]) dX4_init_50 kI_X3_init wml_X4_22 (sp_X3_init (len_app (h0 := h0) ha rfl) (n := 80) (by omega)) rfl rfl (by decide) (by omega) (Nat.le_of_ble_eq_true rfl) ?_
  refine G_putFT (ci := 4) (k := 3) dX4_init_53 ha rfl wfl_X4_30 (by decide) rfl rfl rfl rfl rfl (by simp) ?_
  refine G_aload_n dX4_init_56 rfl ?_
  refine G_newT (b := a + 16) (ci := 3) (fs := fs0_3) dX4_init_57 (len_app ha rfl) rfl wcl_X4_20 wia_X3 wii_X3 hfs_3 (by omega) ?_
  refine G_dup dX4_init_60 rfl ?_
  refine G_bipush (v := 80) dX4_init_61 (by decide) ?_
  refine G_cIv (As := [_]) dX4_init_63 kI_X3_init wml_X4_22 (sp_X3_init (len_app (h0 := h0) ha rfl) (n := 80) (by omega)) rfl rfl (by decide) (by omega) (Nat.le_of_ble_eq_true rfl) ?_
  refine G_putFT (ci := 4) (k := 4) dX4_init_66 ha rfl wfl_X4_33 (by decide) rfl rfl rfl rfl rfl (by simp) ?_
  refine G_vret dX4_init_69 rfl (by omega) ⟨rfl, ?_⟩
  rfl
set_option maxHeartbeats 200000 in
theorem sp_X1_init (ha : h0.length = a) : Sp K MX1_init 3 (4) (18) [.ref a] (true, h0 ++ [.inr (1, fs0_1)]) (fun v u => v = none ∧ u = (true, h0 ++ fenL a)) noX := by
  refine Sp_of (by decide) (Nat.le_of_ble_eq_true rfl) ?_
  refine G_aload_n dX1_init_0 rfl ?_
  refine G_objInit dX1_init_1 wml_X1_3 win_oi wco_oi (by decide) (Nat.le_of_ble_eq_true rfl) ?_
  refine G_aload_n dX1_init_4 rfl ?_
  refine G_newT (b := a + 1) (ci := 3) (fs := fs0_3) dX1_init_5 (len_app ha rfl) rfl wcl_X1_9 wia_X3 wii_X3 hfs_3 (by omega) ?_
  refine G_dup dX1_init_8 rfl ?_
  refine G_bipush (v := 8) dX1_init_9 (by decide) ?_
  refine G_cIv (As := [_]) dX1_init_11 kI_X3_init wml_X1_11 (sp_X3_init (len_app (h0 := h0) ha rfl) (n := 8) (by omega)) rfl rfl (by decide) (by omega) (Nat.le_of_ble_eq_true rfl) ?_
  refine G_putFT (ci := 1) (k := 0) dX1_init_14 ha rfl wfl_X1_14 (by decide) rfl rfl rfl rfl rfl (by simp) ?_
  refine G_aload_n dX1_init_17 rfl ?_
  refine G_newT (b := a + 3) (ci := 3) (fs := fs0_3) dX1_init_18 (len_app ha rfl) rfl wcl_X1_9 wia_X3 wii_X3 hfs_3 (by omega) ?_
  refine G_dup dX1_init_21 rfl ?_
  refine G_bipush (v := 8) dX1_init_22 (by decide) ?_
  refine G_cIv (As := [_]) dX1_init_24 kI_X3_init wml_X1_11 (sp_X3_init (len_app (h0 := h0) ha rfl) (n := 8) (by omega)) rfl rfl (by decide) (by omega) (Nat.le_of_ble_eq_true rfl) ?_
  refine G_putFT (ci := 1) (k := 1) dX1_init_27 ha rfl wfl_X1_20 (by decide) rfl rfl rfl rfl rfl (by simp) ?_
  refine G_vret dX1_init_30 rfl (by omega) ⟨rfl, ?_⟩
  rfl
set_option maxHeartbeats 200000 in
theorem sp_X5_init (ha : h0.length = a) : Sp K MX5_init 3 (23) (4 + 4 * 1206 + 5 * 1206 + 2 * 81) [.ref a] (true, h0 ++ [.inr (5, fs0_5)]) (fun v u => v = none ∧ u = (true, h0 ++ treL a)) noX := by
  refine Sp_of (by decide) (Nat.le_of_ble_eq_true rfl) ?_
  refine G_aload_n dX5_init_0 rfl ?_
  refine G_objInit dX5_init_1 wml_X5_3 win_oi wco_oi (by decide) (Nat.le_of_ble_eq_true rfl) ?_
  refine G_aload_n dX5_init_4 rfl ?_
  refine G_newT (b := a + 1) (ci := 0) (fs := fs0_0) dX5_init_5 (len_app ha rfl) rfl wcl_X5_9 wia_X0 wii_X0 hfs_0 (by omega) ?_
  refine G_dup dX5_init_8 rfl ?_
  refine G_sipush (v := 1205) dX5_init_9 (by decide) ?_
  refine G_cIv (As := [_]) dX5_init_12 kI_X0_init wml_X5_11 (sp_X0_init (len_app (h0 := h0) ha rfl) (n := 1205) (by omega)) rfl rfl (by decide) (by omega) (Nat.le_of_ble_eq_true rfl) ?_
  refine G_putFT (ci := 5) (k := 0) dX5_init_15 ha rfl wfl_X5_14 (by decide) rfl rfl rfl rfl rfl (by simp) ?_
  refine G_aload_n dX5_init_18 rfl ?_
  refine G_newT (b := a + 10) (ci := 3) (fs := fs0_3) dX5_init_19 (len_app ha rfl) rfl wcl_X5_20 wia_X3 wii_X3 hfs_3 (by omega) ?_
  refine G_dup dX5_init_22 rfl ?_
  refine G_sipush (v := 1205) dX5_init_23 (by decide) ?_
  refine G_cIv (As := [_]) dX5_init_26 kI_X3_init wml_X5_22 (sp_X3_init (len_app (h0 := h0) ha rfl) (n := 1205) (by omega)) rfl rfl (by decide) (by omega) (Nat.le_of_ble_eq_true rfl) ?_
  refine G_putFT (ci := 5) (k := 1) dX5_init_29 ha rfl wfl_X5_23 (by decide) rfl rfl rfl rfl rfl (by simp) ?_
  refine G_aload_n dX5_init_32 rfl ?_
  refine G_newT (b := a + 12) (ci := 3) (fs := fs0_3) dX5_init_33 (len_app ha rfl) rfl wcl_X5_20 wia_X3 wii_X3 hfs_3 (by omega) ?_
  refine G_dup dX5_init_36 rfl ?_
  refine G_sipush (v := 1205) dX5_init_37 (by decide) ?_
  refine G_cIv (As := [_]) dX5_init_40 kI_X3_init wml_X5_22 (sp_X3_init (len_app (h0 := h0) ha rfl) (n := 1205) (by omega)) rfl rfl (by decide) (by omega) (Nat.le_of_ble_eq_true rfl) ?_
  refine G_putFT (ci := 5) (k := 2) dX5_init_43 ha rfl wfl_X5_27 (by decide) rfl rfl rfl rfl rfl (by simp) ?_
  refine G_aload_n dX5_init_46 rfl ?_
  refine G_newT (b := a + 14) (ci := 3) (fs := fs0_3) dX5_init_47 (len_app ha rfl) rfl wcl_X5_20 wia_X3 wii_X3 hfs_3 (by omega) ?_
  refine G_dup dX5_init_50 rfl ?_
  refine G_sipush (v := 1205) dX5_init_51 (by decide) ?_
  refine G_cIv (As := [_]) dX5_init_54 kI_X3_init wml_X5_22 (sp_X3_init (len_app (h0 := h0) ha rfl) (n := 1205) (by omega)) rfl rfl (by decide) (by omega) (Nat.le_of_ble_eq_true rfl) ?_
  refine G_putFT (ci := 5) (k := 3) dX5_init_57 ha rfl wfl_X5_30 (by decide) rfl rfl rfl rfl rfl (by simp) ?_
  refine G_aload_n dX5_init_60 rfl ?_
  refine G_newT (b := a + 16) (ci := 3) (fs := fs0_3) dX5_init_61 (len_app ha rfl) rfl wcl_X5_20 wia_X3 wii_X3 hfs_3 (by omega) ?_
  refine G_dup dX5_init_64 rfl ?_
  refine G_sipush (v := 1205) dX5_init_65 (by decide) ?_
  refine G_cIv (As := [_]) dX5_init_68 kI_X3_init wml_X5_22 (sp_X3_init (len_app (h0 := h0) ha rfl) (n := 1205) (by omega)) rfl rfl (by decide) (by omega) (Nat.le_of_ble_eq_true rfl) ?_
  refine G_putFT (ci := 5) (k := 4) dX5_init_71 ha rfl wfl_X5_33 (by decide) rfl rfl rfl rfl rfl (by simp) ?_
  refine G_aload_n dX5_init_74 rfl ?_
  refine G_newT (b := a + 18) (ci := 3) (fs := fs0_3) dX5_init_75 (len_app ha rfl) rfl wcl_X5_20 wia_X3 wii_X3 hfs_3 (by omega) ?_
  refine G_dup dX5_init_78 rfl ?_
  refine G_sipush (v := 1205) dX5_init_79 (by decide) ?_
  refine G_cIv (As := [_]) dX5_init_82 kI_X3_init wml_X5_22 (sp_X3_init (len_app (h0 := h0) ha rfl) (n := 1205) (by omega)) rfl rfl (by decide) (by omega) (Nat.le_of_ble_eq_true rfl) ?_
  refine G_putFT (ci := 5) (k := 5) dX5_init_85 ha rfl wfl_X5_36 (by decide) rfl rfl rfl rfl rfl (by simp) ?_
  refine G_aload_n dX5_init_88 rfl ?_
  refine G_newT (b := a + 20) (ci := 3) (fs := fs0_3) dX5_init_89 (len_app ha rfl) rfl wcl_X5_20 wia_X3 wii_X3 hfs_3 (by omega) ?_
  refine G_dup dX5_init_92 rfl ?_
  refine G_bipush (v := 80) dX5_init_93 (by decide) ?_
  refine G_cIv (As := [_]) dX5_init_95 kI_X3_init wml_X5_22 (sp_X3_init (len_app (h0 := h0) ha rfl) (n := 80) (by omega)) rfl rfl (by decide) (by omega) (Nat.le_of_ble_eq_true rfl) ?_
  refine G_putFT (ci := 5) (k := 6) dX5_init_98 ha rfl wfl_X5_39 (by decide) rfl rfl rfl rfl rfl (by simp) ?_
  refine G_aload_n dX5_init_101 rfl ?_
  refine G_newT (b := a + 22) (ci := 3) (fs := fs0_3) dX5_init_102 (len_app ha rfl) rfl wcl_X5_20 wia_X3 wii_X3 hfs_3 (by omega) ?_
  refine G_dup dX5_init_105 rfl ?_
  refine G_bipush (v := 80) dX5_init_106 (by decide) ?_
  refine G_cIv (As := [_]) dX5_init_108 kI_X3_init wml_X5_22 (sp_X3_init (len_app (h0 := h0) ha rfl) (n := 80) (by omega)) rfl rfl (by decide) (by omega) (Nat.le_of_ble_eq_true rfl) ?_
  refine G_putFT (ci := 5) (k := 7) dX5_init_111 ha rfl wfl_X5_42 (by decide) rfl rfl rfl rfl rfl (by simp) ?_
  refine G_aload_n dX5_init_114 rfl ?_
  refine G_get (k := 6) dX5_init_115 (at_app (i := 0) ha) rfl wfl_X5_39 (by decide) rfl ?_
  refine G_iconst (v := (-1)) dX5_init_118 (by decide) ?_
  refine G_cVv (As := [_]) dX5_init_119 kV_X3_fill wml_X5_45 (sp_X3_fill0 (r := a + 20) (a := a + 21) (n := 80) (f := fun _ => 0) (at_app (i := 20) ha) (at_app (i := 21) ha) (by omega) (by omega) _) rfl (at_app (i := 20) ha) rfl rfl rfl (by decide) (by omega) (Nat.le_of_ble_eq_true rfl) ?_
  refine G_vret dX5_init_122 rfl (by omega) ⟨rfl, ?_⟩
  show (true, (h0 ++ treL0 a).set (a + 21) _) = _
  rw [set_app ha]
  rfl
set_option maxHeartbeats 200000 in
theorem sp_X2_init (ha : h0.length = a) {p q : Int32} (hq : q = 0 ∨ q = 1) : Sp K MX2_init 4 (24) (10 + (4 + 4 * 1206 + 5 * 1206 + 2 * 81)) [.ref a, .int p, .int q] (true, h0 ++ [.inr (2, fs0_2)]) (fun v u => v = none ∧ u = (true, h0 ++ layL a p q)) noX := by
  refine Sp_of (by decide) (Nat.le_of_ble_eq_true rfl) ?_
  rcases hq with rfl | rfl
  · refine G_aload_n dX2_init_0 rfl ?_
    refine G_objInit dX2_init_1 wml_X2_3 win_oi wco_oi (by decide) (Nat.le_of_ble_eq_true rfl) ?_
    refine G_aload_n dX2_init_4 rfl ?_
    refine G_newT (b := a + 1) (ci := 5) (fs := fs0_5) dX2_init_5 (len_app ha rfl) rfl wcl_X2_9 wia_X5 wii_X5 hfs_5 (by omega) ?_
    refine G_dup dX2_init_8 rfl ?_
    refine G_cIv (As := []) dX2_init_9 kI_X5_init wml_X2_11 (sp_X5_init (len_app (h0 := h0) ha rfl)) rfl rfl (by decide) (by omega) (Nat.le_of_ble_eq_true rfl) ?_
    refine G_putFT (ci := 2) (k := 2) dX2_init_12 ha rfl wfl_X2_12 (by decide) rfl rfl rfl rfl rfl (by simp) ?_
    refine G_aload_n dX2_init_15 rfl ?_
    refine G_iconst (v := 4) dX2_init_16 (by decide) ?_
    refine G_putT0 (ci := 2) (k := 3) dX2_init_17 ha rfl wfl_X2_18 (by decide) rfl rfl rfl (by simp) ?_
    refine G_aload_n dX2_init_20 rfl ?_
    refine G_iload_n dX2_init_21 rfl ?_
    refine G_putFT0 (ci := 2) (k := 0) dX2_init_22 ha rfl wfl_X2_22 (by decide) rfl rfl rfl rfl rfl (by simp) ?_
    refine G_aload_n dX2_init_25 rfl ?_
    refine G_iload_n dX2_init_26 rfl ?_
    refine G_putFT0 (ci := 2) (k := 1) dX2_init_27 ha rfl wfl_X2_25 (by decide) rfl rfl rfl rfl rfl (by simp) ?_
    refine G_vret dX2_init_30 rfl (by omega) ⟨rfl, ?_⟩
    rfl
  · refine G_aload_n dX2_init_0 rfl ?_
    refine G_objInit dX2_init_1 wml_X2_3 win_oi wco_oi (by decide) (Nat.le_of_ble_eq_true rfl) ?_
    refine G_aload_n dX2_init_4 rfl ?_
    refine G_newT (b := a + 1) (ci := 5) (fs := fs0_5) dX2_init_5 (len_app ha rfl) rfl wcl_X2_9 wia_X5 wii_X5 hfs_5 (by omega) ?_
    refine G_dup dX2_init_8 rfl ?_
    refine G_cIv (As := []) dX2_init_9 kI_X5_init wml_X2_11 (sp_X5_init (len_app (h0 := h0) ha rfl)) rfl rfl (by decide) (by omega) (Nat.le_of_ble_eq_true rfl) ?_
    refine G_putFT (ci := 2) (k := 2) dX2_init_12 ha rfl wfl_X2_12 (by decide) rfl rfl rfl rfl rfl (by simp) ?_
    refine G_aload_n dX2_init_15 rfl ?_
    refine G_iconst (v := 4) dX2_init_16 (by decide) ?_
    refine G_putT0 (ci := 2) (k := 3) dX2_init_17 ha rfl wfl_X2_18 (by decide) rfl rfl rfl (by simp) ?_
    refine G_aload_n dX2_init_20 rfl ?_
    refine G_iload_n dX2_init_21 rfl ?_
    refine G_putFT0 (ci := 2) (k := 0) dX2_init_22 ha rfl wfl_X2_22 (by decide) rfl rfl rfl rfl rfl (by simp) ?_
    refine G_aload_n dX2_init_25 rfl ?_
    refine G_iload_n dX2_init_26 rfl ?_
    refine G_putFT0 (ci := 2) (k := 1) dX2_init_27 ha rfl wfl_X2_25 (by decide) rfl rfl rfl rfl rfl (by simp) ?_
    refine G_vret dX2_init_30 rfl (by omega) ⟨rfl, ?_⟩
    rfl
set_option maxHeartbeats 200000 in
theorem sp_X6_init (ha : h0.length = a) (hE : ∀ s, kE K s → va_AO RX2 s) : Sp K MX6_init 4 (1 + 17 + 1 + 1 + 4 + 1 + 23) (6 + (4 + 4 * 81 + 4 * 81) + 4 + 3 + 18 + 10 + (4 + 4 * 1206 + 5 * 1206 + 2 * 81)) [.ref a] (true, h0 ++ [.inr (6, fs0_6)]) (fun v u => v = none ∧ u = (true, h0 ++ idxL a)) noX := by
  refine Sp_of (by decide) (Nat.le_of_ble_eq_true rfl) ?_
  refine G_aload_n dX6_init_0 rfl ?_
  refine G_objInit dX6_init_1 wml_X6_1 win_oi wco_oi (by decide) (Nat.le_of_ble_eq_true rfl) ?_
  refine G_aload_n dX6_init_4 rfl ?_
  refine G_newT (b := a + 1) (ci := 4) (fs := fs0_4) dX6_init_5 (len_app ha rfl) rfl wcl_X6_7 wia_X4 wii_X4 hfs_4 (by omega) ?_
  refine G_dup dX6_init_8 rfl ?_
  refine G_cINv (As := []) dX6_init_9 kI_X4_init wmn_X6_9 (sp_X4_init (len_app (h0 := h0) ha rfl)) rfl rfl (by decide) (by omega) (Nat.le_of_ble_eq_true rfl) ?_
  refine G_putFT (ci := 6) (k := 0) dX6_init_12 ha rfl wfl_X6_10 (by decide) rfl rfl rfl rfl rfl (by simp) ?_
  refine G_aload_n dX6_init_15 rfl ?_
  refine G_iconst (v := 4) dX6_init_16 (by decide) ?_
  refine G_newqT (b := a + 19) (N := 4) dX6_init_17 (len_app ha rfl) wcl_X6_16 hE (by decide) (by decide) (by decide) (by omega) ?_
  refine G_putFT (ci := 6) (k := 1) dX6_init_20 ha rfl wfl_X6_18 (by decide) rfl rfl rfl rfl rfl (by simp) ?_
  refine G_aload_n dX6_init_23 rfl ?_
  refine G_newT (b := a + 20) (ci := 1) (fs := fs0_1) dX6_init_24 (len_app ha rfl) rfl wcl_X6_22 wia_X1 wii_X1 hfs_1 (by omega) ?_
  refine G_dup dX6_init_27 rfl ?_
  refine G_cINv (As := []) dX6_init_28 kI_X1_init wmn_X6_24 (sp_X1_init (len_app (h0 := h0) ha rfl)) rfl rfl (by decide) (by omega) (Nat.le_of_ble_eq_true rfl) ?_
  refine G_putFT (ci := 6) (k := 2) dX6_init_31 ha rfl wfl_X6_25 (by decide) rfl rfl rfl rfl rfl (by simp) ?_
  refine G_aload_n dX6_init_34 rfl ?_
  refine G_newT (b := a + 25) (ci := 5) (fs := fs0_5) dX6_init_35 (len_app ha rfl) rfl wcl_X6_29 wia_X5 wii_X5 hfs_5 (by omega) ?_
  refine G_dup dX6_init_38 rfl ?_
  refine G_cIv (As := []) dX6_init_39 kI_X5_init wml_X6_31 (sp_X5_init (len_app (h0 := h0) ha rfl)) rfl rfl (by decide) (by omega) (Nat.le_of_ble_eq_true rfl) ?_
  refine G_putFT (ci := 6) (k := 3) dX6_init_42 ha rfl wfl_X6_32 (by decide) rfl rfl rfl rfl rfl (by simp) ?_
  refine G_aload_n dX6_init_45 rfl ?_
  refine G_iconst (v := 0) dX6_init_46 (by decide) ?_
  refine G_putT0 (ci := 6) (k := 4) dX6_init_47 ha rfl wfl_X6_36 (by decide) rfl rfl rfl (by simp) ?_
  refine G_vret dX6_init_50 rfl (by omega) ⟨rfl, ?_⟩
  rfl
end CM
