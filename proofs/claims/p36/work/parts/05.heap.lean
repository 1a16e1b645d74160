section GH
variable {K : GK} {M : MD} {d mc ms uc us pc : Nat} {L : List (Nat × Value)} {h : VH} {Qc : Array Value → State → Outcome → State → Prop} {XC : String → State → State → Prop}
theorem fs_at {K : GK} {fs : List Value} {k : Nat} {v : Value} (h : fs[k]? = some v) : (fs.map (vv K))[k]? = some (vv K v) := by
  rw [List.getElem?_map, h]; rfl
/-- a field is read -/
theorem G_get {rest : List Value} {a ci idx N k : Nat} {C : String} {T : u_T} {fs : List Value} {v : Value} (hdg : decode M.2.1 pc = .ok (.getfield idx, 3)) (hc : h.2[a]? = some (.inr (ci, fs))) (hr : gcl[ci]? = some (C, T, N)) (hlink : Cond.fieldLink M.1.cls idx (T k).1 (T k).2.1 (T k).2.2.1 ∈ tbG) (hk : k < N) (hv : fs[k]? = some v)
    (kk : G K M d mc ms uc us (pc + 3) L (v :: rest) h Qc XC) : G K M d mc ms uc us pc L (.ref a :: rest) h Qc XC := fun hK p e R s m args below meth c H locs ls F hS hP hl =>
  va_get F.1 F.2.1 F.2.2.2.2.1 (gcl_ok ci _ hr).1 F.2.2.2.1 F.2.2.2.2.2.2.2.2.2.2.2.2.2.1 hP.1 a (vW_at hc) hr k hk (F.2.2.2.2.1 _ hlink) (fun _ q => q) (fs_at hv) hdg (kk hK p e R s m args below meth c H locs ls F hS hP hl)
theorem G_getN {rest : List Value} {a ci idx N k : Nat} {C host : String} {T : u_T} {fs : List Value} {v : Value} (hdg : decode M.2.1 pc = .ok (.getfield idx, 3)) (hc : h.2[a]? = some (.inr (ci, fs))) (hr : gcl[ci]? = some (C, T, N)) (hlink : Cond.fieldLinkNest M.1.cls idx (T k).1 (T k).2.1 (T k).2.2.1 host ∈ tbN) (hk : k < N) (hv : fs[k]? = some v)
    (kk : G K M d mc ms uc us (pc + 3) L (v :: rest) h Qc XC) : G K M d mc ms uc us pc L (.ref a :: rest) h Qc XC := fun hK p e R s m args below meth c H locs ls F hS hP hl =>
  va_getN F.1 F.2.1 F.2.2.2.2.1 (gcl_ok ci _ hr).1 F.2.2.2.1 F.2.2.2.2.2.2.2.2.2.2.2.2.2.1 hP.1 a (vW_at hc) hr k hk (va_Nw.use rfl (F.2.2.2.2.2.2.2.2.2.2.2.2.1 _ hlink)) (fun _ q => q) (fs_at hv) hdg (kk hK p e R s m args below meth c H locs ls F hS hP hl)
/-- the cells behind a write -/
theorem Ph_set {K : GK} (hK : Kok K) {h : VH} {H H' : Heap} {a : Nat} {e0 e : VE} (hP : Ph K h H) (h0 : h.2[a]? = some e0) (he : va_at (kD K) gcl (kA K a, ve K e) H') (z : H'.size = H.size) (o : ∀ q : Nat, q ≠ kA K a → H'[q]? = H[q]?) : Ph K (h.1, h.2.set a e) H' := by
  refine ⟨?_, fun q j => ?_, by rw [z]; exact hP.2.2⟩
  · rw [vW_set K h.1 h.1 h.2 a e]
    exact va_P.set (h := hP.1) (va_D_vW hK h) (vW_at h0) he o
  · show kA K ((h.2.set a e).length + j) = _
    rw [List.length_set, z]
    exact hP.2.1 q j
theorem Ph_push {K : GK} {h : VH} {H H' : Heap} {e : VE} (hb : h.1 = true) (hP : Ph K h H) (he : va_at (kD K) gcl (H.size, ve K e) H') (z : H'.size = H.size + 1) (o : ∀ q : Nat, q < H.size → H'[q]? = H[q]?) : Ph K (true, h.2 ++ [e]) H' := by
  have e0 : kA K h.2.length = H.size := hP.2.1 hb 0
  refine ⟨?_, fun _ j => ?_, by rw [z]; exact Nat.le_succ_of_le hP.2.2⟩
  · rw [vW_push K true h.1 h.2 e]
    refine va_P.app (hP.1.kept fun k q hq => o q.1 ((hP.1 k q hq).lt)) ?_
    intro k q hk
    have hz : k < 1 := (List.getElem?_eq_some_iff.mp hk).1
    rw [show k = 0 by omega] at hk
    cases hk
    show va_at (kD K) gcl (kA K h.2.length, ve K e) H'
    rw [e0]
    exact he
  · show kA K ((h.2 ++ [e]).length + j) = _
    rw [List.length_append, z, List.length_singleton, Nat.add_assoc, Nat.add_assoc]
    exact hP.2.1 hb (1 + j)
theorem obj_set {K : GK} {H' : Heap} {a ci k N : Nat} {C : String} {T : u_T} {fs : List Value} {v : Value} {cell' : Cell} (hc : gcl[ci]? = some (C, T, N)) (hl : k < fs.length) (e1 : H'[kA K a]? = some cell') (q2 : cell'.cls = (kD K).1 ci) (q3 : cell'.vm = .none) (ht : ∀ j, j < N → cell'.slots[(kD K).2 ci j]? = some (updV (vp_V (fs.map (vv K))) k (vv K v) j)) :
    va_at (kD K) gcl (kA K a, ve K (.inr (ci, fs.set k v))) H' := by
  refine ⟨(C, T, N), hc, t_OB.to (V := updV (vp_V (fs.map (vv K))) k (vv K v)) ⟨cell', e1, q2, q3, ht⟩ (fun j _ => ?_)⟩
  show _ = vp_V ((fs.set k v).map (vv K)) j
  rw [List.map_set]
  exact vp_updV_set (by rw [List.length_map]; exact hl) (vv K v) j
theorem G_put {rest : List Value} {a ci idx N k : Nat} {C : String} {T : u_T} {fs : List Value} {v : Value} (hdg : decode M.2.1 pc = .ok (.putfield idx, 3)) (h0 : h.2[a]? = some (.inr (ci, fs))) (hc : gcl[ci]? = some (C, T, N)) (hlink : Cond.fieldLink M.1.cls idx (T k).1 (T k).2.1 (T k).2.2.1 ∈ tbG) (hk : k < N) (hfin : (T k).2.2.2 = false) (hn : narrow (gty ci k) (vv K v) = vv K v) (hfit : fits (gty ci k) (vv K v) = true) (hl0 : k < fs.length)
    (kk : G K M d mc ms uc us (pc + 3) L rest (h.1, h.2.set a (.inr (ci, fs.set k v))) Qc XC) : G K M d mc ms uc us pc L (v :: .ref a :: rest) h Qc XC := by
  intro hK p e R s m args below meth c H locs ls F hS hP hl
  have hKa := F.2.2.2.2.2.2.2.2.2.2.2.2.2.1
  have hap := va_apart (own := M.1.cls) F.2.2.2.2.1 (gcl_ok ci _ hc).1 (gty ci) (gcl_ok ci _ hc).2.1 (gcl_ok ci _ hc).2.2 hKa hc
  obtain ⟨r, h1, cell, q1, q2, q3, q4⟩ := hP.1 a _ (vW_at h0)
  have hr : r = (C, T, N) := Option.some.inj (h1.symm.trans hc)
  subst hr
  obtain ⟨hSl, hfc, kC9, hkC, hkind⟩ := hKa.1 ci _ hc
  obtain ⟨cf, kf, fi, f, hi, hsl⟩ := hSl k hk
  have hlay := F.2.2.2.2.1 _ ((gcl_ok ci _ hc).1 _ (u_in_lay hk))
  unfold u_lay at hlay
  rw [if_neg (by rw [hfin]; decide)] at hlay
  have hst := (u_facts hfc hkC (u_lays F.2.2.2.2.1 (gcl_ok ci _ hc).1 hk) hi).1
  have h6 := u_store hfc hkC hkind hlay hi ((gcl_ok ci _ hc).2.1 k hk) hn hfit
  refine W.putK F.1 F.2.1 (f := f) ⟨F.2.2.2.1, F.2.2.2.2.1 _ hlink, ⟨_, _, _, hi⟩, hst⟩ (by rw [q2]; exact h6) q1 q3 (by rw [hsl]; exact k2_hasslot (q4 k hk)) rfl rfl hdg fun H' e1 e2 e3 => ?_
  rw [hsl] at e1 ⊢
  exact kk hK p e R s m args below meth c H' _ ls F (hS.put e2 e3 (hK.2.1 a)) (Ph_set hK hP h0 (obj_set hc hl0 e1 q2 q3 (t_set q4 hap hk (vv K v))) e2 e3) hl
theorem G_putN {rest : List Value} {a ci idx N k : Nat} {C host : String} {T : u_T} {fs : List Value} {v : Value} (hdg : decode M.2.1 pc = .ok (.putfield idx, 3)) (h0 : h.2[a]? = some (.inr (ci, fs))) (hc : gcl[ci]? = some (C, T, N)) (hlink : Cond.fieldLinkNest M.1.cls idx (T k).1 (T k).2.1 (T k).2.2.1 host ∈ tbN) (hk : k < N) (hfin : (T k).2.2.2 = false) (hn : narrow (gty ci k) (vv K v) = vv K v) (hfit : fits (gty ci k) (vv K v) = true) (hl0 : k < fs.length)
    (kk : G K M d mc ms uc us (pc + 3) L rest (h.1, h.2.set a (.inr (ci, fs.set k v))) Qc XC) : G K M d mc ms uc us pc L (v :: .ref a :: rest) h Qc XC := by
  intro hK p e R s m args below meth c H locs ls F hS hP hl
  have hKa := F.2.2.2.2.2.2.2.2.2.2.2.2.2.1
  have hap := va_apart (own := M.1.cls) F.2.2.2.2.1 (gcl_ok ci _ hc).1 (gty ci) (gcl_ok ci _ hc).2.1 (gcl_ok ci _ hc).2.2 hKa hc
  obtain ⟨r, h1, cell, q1, q2, q3, q4⟩ := hP.1 a _ (vW_at h0)
  have hr : r = (C, T, N) := Option.some.inj (h1.symm.trans hc)
  subst hr
  obtain ⟨hSl, hfc, kC9, hkC, hkind⟩ := hKa.1 ci _ hc
  obtain ⟨cf, kf, fi, f, hi, hsl⟩ := hSl k hk
  have hlay := F.2.2.2.2.1 _ ((gcl_ok ci _ hc).1 _ (u_in_lay hk))
  unfold u_lay at hlay
  rw [if_neg (by rw [hfin]; decide)] at hlay
  have hst := (u_facts hfc hkC (u_lays F.2.2.2.2.1 (gcl_ok ci _ hc).1 hk) hi).1
  have h6 := u_store hfc hkC hkind hlay hi ((gcl_ok ci _ hc).2.1 k hk) hn hfit
  refine va_WputK F.1 F.2.1 (f := f) F.2.2.2.1 (va_Nw.use rfl (F.2.2.2.2.2.2.2.2.2.2.2.2.1 _ hlink)) hi hst (by rw [q2]; exact h6) q1 q3 (by rw [hsl]; exact k2_hasslot (q4 k hk)) rfl rfl hdg fun H' e1 e2 e3 => ?_
  rw [hsl] at e1 ⊢
  exact kk hK p e R s m args below meth c H' _ ls F (hS.put e2 e3 (hK.2.1 a)) (Ph_set hK hP h0 (obj_set hc hl0 e1 q2 q3 (t_set q4 hap hk (vv K v))) e2 e3) hl
/-- a final field, in the constructor -/
theorem G_putF {rest : List Value} {a ci idx N k : Nat} {C : String} {T : u_T} {fs : List Value} {v : Value} (hdg : decode M.2.1 pc = .ok (.putfield idx, 3)) (h0 : h.2[a]? = some (.inr (ci, fs))) (hc : gcl[ci]? = some (C, T, N)) (hlink : Cond.fieldLink M.1.cls idx (T k).1 (T k).2.1 (T k).2.2.1 ∈ tbG) (hk : k < N) (hfin : (T k).2.2.2 = true) (hin2 : M.1.name = "<init>") (hdecl : (T k).1 = M.1.cls) (hn : narrow (gty ci k) (vv K v) = vv K v) (hfit : fits (gty ci k) (vv K v) = true) (hl0 : k < fs.length)
    (kk : G K M d mc ms uc us (pc + 3) L rest (h.1, h.2.set a (.inr (ci, fs.set k v))) Qc XC) : G K M d mc ms uc us pc L (v :: .ref a :: rest) h Qc XC := by
  intro hK p e R s m args below meth c H locs ls F hS hP hl
  have hKa := F.2.2.2.2.2.2.2.2.2.2.2.2.2.1
  have hap := va_apart (own := M.1.cls) F.2.2.2.2.1 (gcl_ok ci _ hc).1 (gty ci) (gcl_ok ci _ hc).2.1 (gcl_ok ci _ hc).2.2 hKa hc
  obtain ⟨r, h1, cell, q1, q2, q3, q4⟩ := hP.1 a _ (vW_at h0)
  have hr : r = (C, T, N) := Option.some.inj (h1.symm.trans hc)
  subst hr
  obtain ⟨hSl, hfc, kC9, hkC, hkind⟩ := hKa.1 ci _ hc
  obtain ⟨cf, kf, fi, f, hi, hsl⟩ := hSl k hk
  have hlay := F.2.2.2.2.1 _ ((gcl_ok ci _ hc).1 _ (u_in_lay hk))
  unfold u_lay at hlay
  rw [if_pos hfin] at hlay
  have hst := (u_facts hfc hkC (u_lays F.2.2.2.2.1 (gcl_ok ci _ hc).1 hk) hi).1
  have hcf : m.cls = cf := by
    obtain ⟨_, _, c', _, _, _, -, -, hf', -, -, -, hown2, -⟩ := Cond.laysFinal_spec hlay
    have e1 : c' = cf := by have := hi.symm.trans hf'; simp at this; exact this.1.symm
    rw [hdecl] at hown2
    rw [← e1]; exact Option.some.inj (F.2.2.2.1.symm.trans hown2)
  have h6 := u_fits hfc hkC hkind (Or.inr hlay) hi ((gcl_ok ci _ hc).2.1 k hk) hn hfit
  refine W.putFinK F.1 F.2.1 F.2.2.2.1 (F.2.2.2.2.1 _ hlink) hi hst hcf (F.2.2.2.2.2.2.2.1.1.trans hin2) (by rw [q2]; exact h6) q1 q3 (by rw [hsl]; exact k2_hasslot (q4 k hk)) rfl rfl hdg fun H' e1 e2 e3 => ?_
  rw [hsl] at e1 ⊢
  exact kk hK p e R s m args below meth c H' _ ls F (hS.put e2 e3 (hK.2.1 a)) (Ph_set hK hP h0 (obj_set hc hl0 e1 q2 q3 (t_set q4 hap hk (vv K v))) e2 e3) hl
/-- an int array's element -/
theorem G_iald {rest : List Value} {a n : Nat} {f : Nat → Int32} {i : Int32} (hdg : decode M.2.1 pc = .ok (.iaload, 1)) (h0 : h.2[a]? = some (.inl (0, n, .inl f))) (hin : vp_in i n)
    (kk : G K M d mc ms uc us (pc + 1) L (.int (f i.toNatClampNeg) :: rest) h Qc XC) : G K M d mc ms uc us pc L (.int i :: .ref a :: rest) h Qc XC := fun hK p e R s m args below meth c H locs ls F hS hP hl =>
  va_iald F.1 F.2.1 F.2.2.2.2.2.2.2.2.2.2.2.2.2.1 hP.1 a 0 (vW_at h0) (ktys_at rfl) hin hdg (kk hK p e R s m args below meth c H locs ls F hS hP hl)
theorem G_iast {rest : List Value} {a n : Nat} {f : Nat → Int32} {i x : Int32} (hdg : decode M.2.1 pc = .ok (.iastore, 1)) (h0 : h.2[a]? = some (.inl (0, n, .inl f))) (hin : vp_in i n)
    (kk : G K M d mc ms uc us (pc + 1) L rest (h.1, h.2.set a (.inl (0, n, .inl (upd f i.toNatClampNeg x)))) Qc XC) : G K M d mc ms uc us pc L (.int x :: .int i :: .ref a :: rest) h Qc XC := by
  intro hK p e R s m args below meth c H locs ls F hS hP hl
  have hKa := F.2.2.2.2.2.2.2.2.2.2.2.2.2.1
  refine W.iast F.1 F.2.1 (hP.1 a _ (vW_at h0)) ((hKa.2 0 _ (ktys_at rfl)).1 n (fun j => .int (f j))) (fun q => by cases q) (by show ¬ (i < 0 ∨ (arrV _ _ _).slots.size ≤ _); rw [arrV_size]; exact hin) rfl rfl hdg fun H1 e1 z oq => ?_
  refine kk hK p e R s m args below meth c H1 _ ls F (hS.put z oq (hK.2.1 a)) (Ph_set hK hP h0 ?_ z oq) hl
  show H1[kA K a]? = some (vp_cell _ _)
  rw [e1]
  show _ = some (vp_cell (kC K 0) (n, .inl (upd f i.toNatClampNeg x)))
  rw [show vp_cell (kC K 0) (va2 K (n, .inl f)) = vp_cell (kC K 0) (n, .inl f) from rfl, vp_cell_i, vp_cell_i, arrV_store]
  congr 2
  funext q
  by_cases hq : q = i.toNatClampNeg
  · subst hq
    simp [updV, upd]
  · simp [updV, upd, hq]
theorem G_alen {rest : List Value} {a t n : Nat} {y : (Nat → Int32) ⊕ (Nat → Int64) ⊕ (Nat → UInt32) ⊕ (Nat → UInt64) ⊕ (Nat → Option Nat)} {ty : FieldType} (hdg : decode M.2.1 pc = .ok (.arraylength, 1)) (h0 : h.2[a]? = some (.inl (t, n, y))) (ht : gtys[t]? = some ty)
    (kk : G K M d mc ms uc us (pc + 1) L (.int (nI n) :: rest) h Qc XC) : G K M d mc ms uc us pc L (.ref a :: rest) h Qc XC := fun hK p e R s m args below meth c H locs ls F hS hP hl =>
  va_alen F.1 F.2.1 F.2.2.2.2.2.2.2.2.2.2.2.2.2.1 hP.1 a t (vW_at h0) (ktys_at ht) (v := nI n) (by rcases y with f | f | f | f | f <;> rfl) hdg (kk hK p e R s m args below meth c H locs ls F hS hP hl)
/-- the script -/
theorem G_slen {rest : List Value} {z : UInt32} (hdg : decode M.2.1 pc = .ok (.arraylength, 1))
    (kk : G K M d mc ms uc us (pc + 1) L (.int (Int32.ofNat (kS K).2.1) :: rest) h Qc XC) : G K M d mc ms uc us pc L (.float z :: rest) h Qc XC := fun hK p e R s m args below meth c H locs ls F hS hP hl =>
  va_slen F.1 F.2.1 F.2.2.2.2.2.2.2.2.2.2.2.2.2.2.2.2 (Nat.lt_of_lt_of_le hK.2.2.2.1 F.2.2.2.2.2.2.2.2.2.2.2.2.2.2.1) (Nat.not_le.mpr hK.2.2.2.1) hS hdg (kk hK p e R s m args below meth c H locs ls F hS hP hl)
theorem G_sld {rest : List Value} {z : UInt32} {i : Int32} (hdg : decode M.2.1 pc = .ok (.iaload, 1)) (hin : vp_in i (kS K).2.1)
    (kk : G K M d mc ms uc us (pc + 1) L (.int ((kS K).2.2 i.toNatClampNeg) :: rest) h Qc XC) : G K M d mc ms uc us pc L (.int i :: .float z :: rest) h Qc XC := fun hK p e R s m args below meth c H locs ls F hS hP hl =>
  va_sld F.1 F.2.1 F.2.2.2.2.2.2.2.2.2.2.2.2.2.2.2.2 (Nat.lt_of_lt_of_le hK.2.2.2.1 F.2.2.2.2.2.2.2.2.2.2.2.2.2.2.1) (Nat.not_le.mpr hK.2.2.2.1) hS hin hdg (kk hK p e R s m args below meth c H locs ls F hS hP hl)
/-- an element of an array of references -/
theorem G_aald {rest : List Value} {a n : Nat} {f : Nat → Option Nat} {i : Int32} (hdg : decode M.2.1 pc = .ok (.aaload, 1)) (h0 : h.2[a]? = some (.inl (1, n, .inr (.inr (.inr (.inr f)))))) (hin : vp_in i n)
    (kk : G K M d mc ms uc us (pc + 1) L (va_rf (f i.toNatClampNeg) :: rest) h Qc XC) : G K M d mc ms uc us pc L (.int i :: .ref a :: rest) h Qc XC := fun hK p e R s m args below meth c H locs ls F hS hP hl =>
  va_aldq F.1 F.2.1 F.2.2.2.2.2.2.2.2.2.2.2.2.2.1 hP.1 a 1 (vW_at h0) (ktys_at rfl) hin hdg (by
    have q := kk hK p e R s m args below meth c H locs ls F hS hP hl
    rw [show va_rf ((f i.toNatClampNeg).map (kA K)) = vv K (va_rf (f i.toNatClampNeg)) by cases f i.toNatClampNeg <;> rfl]
    exact q)
end GH
