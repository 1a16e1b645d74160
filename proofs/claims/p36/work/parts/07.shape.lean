/-! WHERE EVERYTHING LIES. 0 the index, 1 the things (boxes 2, rows 3 .. 18), 19 the layers, 20 the fence, 25 the planned tree; layer j at 49 + 25 j, its tree behind it. A tree at t: t + 1 its boxes, then a row and its array by turns. -/
/-- contents of arrays (by where they lie), int fields (by where their object lies), nothing else made -/
abbrev St : Type := (Nat → Nat → Int32) × (Nat → Nat → Int32) × Bool
def skTree (t j : Nat) : Nat ⊕ (Nat × List (Option Value)) := match j with
  | 0 => .inr (5, [some (.ref (t + 1)), some (.ref (t + 10)), some (.ref (t + 12)), some (.ref (t + 14)), some (.ref (t + 16)), some (.ref (t + 18)), some (.ref (t + 20)), some (.ref (t + 22)), none, none])
  | 1 => .inr (0, [some (.ref (t + 2)), some (.ref (t + 4)), some (.ref (t + 6)), some (.ref (t + 8))])
  | 2 => .inr (3, [some (.ref (t + 3))])
  | 4 => .inr (3, [some (.ref (t + 5))])
  | 6 => .inr (3, [some (.ref (t + 7))])
  | 8 => .inr (3, [some (.ref (t + 9))])
  | 10 => .inr (3, [some (.ref (t + 11))])
  | 12 => .inr (3, [some (.ref (t + 13))])
  | 14 => .inr (3, [some (.ref (t + 15))])
  | 16 => .inr (3, [some (.ref (t + 17))])
  | 18 => .inr (3, [some (.ref (t + 19))])
  | 20 => .inr (3, [some (.ref (t + 21))])
  | 22 => .inr (3, [some (.ref (t + 23))])
  | 21 => .inl 80
  | 23 => .inl 80
  | _ => .inl 1205
def skB (k : Nat) : Nat ⊕ (Nat × List (Option Value)) := match k with
  | 0 => .inr (6, [some (.ref 1), some (.ref 19), some (.ref 20), some (.ref 25), none])
  | 1 => .inr (4, [some (.ref 2), some (.ref 11), some (.ref 13), some (.ref 15), some (.ref 17), none])
  | 2 => .inr (0, [some (.ref 3), some (.ref 5), some (.ref 7), some (.ref 9)])
  | 3 => .inr (3, [some (.ref 4)])
  | 5 => .inr (3, [some (.ref 6)])
  | 7 => .inr (3, [some (.ref 8)])
  | 9 => .inr (3, [some (.ref 10)])
  | 11 => .inr (3, [some (.ref 12)])
  | 13 => .inr (3, [some (.ref 14)])
  | 15 => .inr (3, [some (.ref 16)])
  | 17 => .inr (3, [some (.ref 18)])
  | 20 => .inr (1, [some (.ref 21), some (.ref 23), none])
  | 21 => .inr (3, [some (.ref 22)])
  | 23 => .inr (3, [some (.ref 24)])
  | 22 => .inl 8
  | 24 => .inl 8
  | _ => .inl 80
def skel (k : Nat) : Nat ⊕ (Nat × List (Option Value)) :=
  if k < 25 then skB k else if k < 49 then skTree 25 (k - 25) else if k = 49 then .inr (2, [some (.int 0), some (.int 1), some (.ref 50), none]) else if k < 74 then skTree 50 (k - 50) else if k = 74 then .inr (2, [some (.int 1), some (.int 0), some (.ref 75), none]) else skTree 75 (k - 75)
/-- an object's fields -/
def fl (I : Nat → Nat → Int32) (a : Nat) (fs : List (Option Value)) : List Value := fs.mapIdx (fun i o => match o with
  | some v => v
  | none => .int (I a i))
def cellOf (ly : Nat) (S : St) (k : Nat) : VE := if k = 19 then .inl (1, 4, .inr (.inr (.inr (.inr (fun j => if j < ly then some (49 + 25 * j) else none))))) else match skel k with
  | .inl n => .inl (0, n, .inl (S.1 k))
  | .inr (c, fs) => .inr (c, fl S.2.1 k fs)
def hp (ly : Nat) (S : St) : VH := (S.2.2, (List.range (49 + 25 * ly)).map (cellOf ly S))
def setR (S : St) (a : Nat) (f : Nat → Int32) : St := (va_up S.1 a f, S.2)
def setI (S : St) (a i : Nat) (x : Int32) : St := (S.1, va_up S.2.1 a (va_up (S.2.1 a) i x), S.2.2)
theorem hp_at {ly : Nat} {S : St} {a : Nat} (ha : a < 49 + 25 * ly) : (hp ly S).2[a]? = some (cellOf ly S a) := by
  show ((List.range (49 + 25 * ly)).map (cellOf ly S))[a]? = _
  rw [List.getElem?_map, List.getElem?_range ha]
  rfl
theorem map_set_eq {α β : Type} (f g : α → β) (l : List α) (a : Nat) (e : β) (h1 : ∀ k x, l[k]? = some x → k ≠ a → g x = f x) (h2 : ∀ x, l[a]? = some x → g x = e) : (l.map f).set a e = l.map g := by
  apply List.ext_getElem?
  intro k
  rw [List.getElem?_set, List.length_map, List.getElem?_map]
  by_cases hk : a = k
  · subst hk
    rw [if_pos rfl]
    cases hx : l[a]? with
    | none => rw [if_neg (by have := List.getElem?_eq_none_iff.mp hx; omega)]; rw [List.getElem?_map, hx]; rfl
    | some x => rw [if_pos (List.getElem?_eq_some_iff.mp hx).1, List.getElem?_map, hx]; show some e = some (g x); rw [h2 x hx]
  · rw [if_neg hk, List.getElem?_map]
    cases hx : l[k]? with
    | none => rfl
    | some x => show some (f x) = some (g x); rw [h1 k x hx (fun q => hk q.symm)]
theorem range_at {n k x : Nat} (h : (List.range n)[k]? = some x) : x = k := by
  have hk : k < n := by have := (List.getElem?_eq_some_iff.mp h).1; simpa using this
  rw [List.getElem?_range hk] at h
  exact (Option.some.inj h).symm
theorem hp_setR {ly : Nat} {S : St} {a n : Nat} {f : Nat → Int32} (hk : skel a = .inl n) (h19 : a ≠ 19) : ((hp ly S).1, (hp ly S).2.set a (.inl (0, n, .inl f))) = hp ly (setR S a f) := by
  refine Prod.ext rfl ?_
  refine map_set_eq _ _ _ _ _ (fun k x hx hka => ?_) (fun x hx => ?_)
  · cases range_at hx
    unfold cellOf
    split
    · rfl
    · have e : (setR S a f).1 k = S.1 k := if_neg hka
      cases skel k with
      | inl m => show Sum.inl (0, m, Sum.inl ((setR S a f).1 k)) = Sum.inl (0, m, Sum.inl (S.1 k)); rw [e]
      | inr q => rfl
  · cases range_at hx
    unfold cellOf
    rw [if_neg h19, hk]
    show Sum.inl (0, n, Sum.inl ((setR S a f).1 a)) = _
    rw [show (setR S a f).1 a = f from if_pos rfl]
theorem fl_set {I I' : Nat → Nat → Int32} {a i : Nat} {x : Int32} {fs : List (Option Value)} (hi : fs[i]? = some none) (h1 : I' a i = x) (h2 : ∀ j, j ≠ i → I' a j = I a j) : (fl I a fs).set i (.int x) = fl I' a fs := by
  apply List.ext_getElem?
  intro k
  unfold fl
  rw [List.getElem?_set, List.getElem?_mapIdx, List.getElem?_mapIdx, List.length_mapIdx]
  by_cases hk : i = k
  · subst hk
    rw [if_pos rfl, if_pos (List.getElem?_eq_some_iff.mp hi).1, hi]
    show some (Value.int x) = some (Value.int (I' a i))
    rw [h1]
  · rw [if_neg hk]
    cases fs[k]? with
    | none => rfl
    | some o =>
      cases o with
      | none => show some (Value.int (I a k)) = some (Value.int (I' a k)); rw [h2 k (fun q => hk q.symm)]
      | some v => rfl
theorem hp_setI {ly : Nat} {S : St} {a c i : Nat} {x : Int32} {fs : List (Option Value)} (hk : skel a = .inr (c, fs)) (h19 : a ≠ 19) (hi : fs[i]? = some none) : ((hp ly S).1, (hp ly S).2.set a (.inr (c, (fl S.2.1 a fs).set i (.int x)))) = hp ly (setI S a i x) := by
  refine Prod.ext rfl ?_
  refine map_set_eq _ _ _ _ _ (fun k x9 hx hka => ?_) (fun x9 hx => ?_)
  · cases range_at hx
    unfold cellOf
    split
    · rfl
    · cases skel k with
      | inl m => rfl
      | inr q =>
        show Sum.inr (q.1, fl (setI S a i x).2.1 k q.2) = Sum.inr (q.1, fl S.2.1 k q.2)
        have e : (setI S a i x).2.1 k = S.2.1 k := if_neg hka
        unfold fl
        rw [e]
  · cases range_at hx
    unfold cellOf
    rw [if_neg h19, hk]
    show Sum.inr (c, fl (setI S a i x).2.1 a fs) = Sum.inr (c, _)
    have e : (setI S a i x).2.1 a = va_up (S.2.1 a) i x := if_pos rfl
    rw [fl_set (I' := (setI S a i x).2.1) hi (by rw [e]; exact if_pos rfl) (fun j hj => by rw [e]; exact if_neg hj)]
/-! the kinds -/
def isRow (ly r n : Nat) : Prop := skel r = .inr (3, [some (.ref (r + 1))]) ∧ skel (r + 1) = .inl n ∧ r ≠ 19 ∧ r + 1 ≠ 19 ∧ r + 1 < 49 + 25 * ly ∧ n < 2 ^ 31
def isBoxes (ly b n : Nat) : Prop := skel b = .inr (0, [some (.ref (b + 1)), some (.ref (b + 3)), some (.ref (b + 5)), some (.ref (b + 7))]) ∧ b ≠ 19 ∧ b < 49 + 25 * ly ∧ isRow ly (b + 1) n ∧ isRow ly (b + 3) n ∧ isRow ly (b + 5) n ∧ isRow ly (b + 7) n
def isTree (ly t : Nat) : Prop := t = 25 ∨ (t = 50 ∧ 1 ≤ ly) ∨ (t = 75 ∧ 2 ≤ ly)
theorem cRow {ly : Nat} {S : St} {r n : Nat} (h : isRow ly r n) : (hp ly S).2[r]? = some (.inr (3, [.ref (r + 1)])) := by
  rw [hp_at (by have := h.2.2.2.2.1; omega)]
  unfold cellOf
  rw [if_neg h.2.2.1, h.1]
  rfl
theorem cArr {ly : Nat} {S : St} {r n : Nat} (h : isRow ly r n) : (hp ly S).2[r + 1]? = some (.inl (0, n, .inl (S.1 (r + 1)))) := by
  rw [hp_at h.2.2.2.2.1]
  unfold cellOf
  rw [if_neg h.2.2.2.1, h.2.1]
theorem cBox {ly : Nat} {S : St} {b n : Nat} (h : isBoxes ly b n) : (hp ly S).2[b]? = some (.inr (0, [.ref (b + 1), .ref (b + 3), .ref (b + 5), .ref (b + 7)])) := by
  rw [hp_at h.2.2.1]
  unfold cellOf
  rw [if_neg h.2.1, h.1]
  rfl
theorem cTree {ly : Nat} {S : St} {t : Nat} (h : isTree ly t) : (hp ly S).2[t]? = some (.inr (5, [.ref (t + 1), .ref (t + 10), .ref (t + 12), .ref (t + 14), .ref (t + 16), .ref (t + 18), .ref (t + 20), .ref (t + 22), .int (S.2.1 t 8), .int (S.2.1 t 9)])) := by
  rcases h with rfl | ⟨rfl, h⟩ | ⟨rfl, h⟩ <;> (rw [hp_at (by omega)]; rfl)
theorem cIdx {ly : Nat} {S : St} : (hp ly S).2[0]? = some (.inr (6, [.ref 1, .ref 19, .ref 20, .ref 25, .int (S.2.1 0 4)])) := by
  rw [hp_at (by omega)]; rfl
theorem cThings {ly : Nat} {S : St} : (hp ly S).2[1]? = some (.inr (4, [.ref 2, .ref 11, .ref 13, .ref 15, .ref 17, .int (S.2.1 1 5)])) := by
  rw [hp_at (by omega)]; rfl
theorem cFence {ly : Nat} {S : St} : (hp ly S).2[20]? = some (.inr (1, [.ref 21, .ref 23, .int (S.2.1 20 2)])) := by
  rw [hp_at (by omega)]; rfl
theorem cLayers {ly : Nat} {S : St} : (hp ly S).2[19]? = some (.inl (1, 4, .inr (.inr (.inr (.inr (fun j => if j < ly then some (49 + 25 * j) else none)))))) := by
  rw [hp_at (by omega)]; rfl
theorem cLayer0 {ly : Nat} {S : St} (h : 1 ≤ ly) : (hp ly S).2[49]? = some (.inr (2, [.int 0, .int 1, .ref 50, .int (S.2.1 49 3)])) := by
  rw [hp_at (by omega)]; rfl
theorem cLayer1 {ly : Nat} {S : St} (h : 2 ≤ ly) : (hp ly S).2[74]? = some (.inr (2, [.int 1, .int 0, .ref 75, .int (S.2.1 74 3)])) := by
  rw [hp_at (by omega)]; rfl
theorem bTree {ly t : Nat} (h : isTree ly t) : isBoxes ly (t + 1) 1205 := by
  rcases h with rfl | ⟨rfl, h⟩ | ⟨rfl, h⟩ <;> exact ⟨rfl, by decide, by omega, ⟨rfl, rfl, by decide, by decide, by omega, by decide⟩, ⟨rfl, rfl, by decide, by decide, by omega, by decide⟩, ⟨rfl, rfl, by decide, by decide, by omega, by decide⟩, ⟨rfl, rfl, by decide, by decide, by omega, by decide⟩⟩
theorem bThings {ly : Nat} : isBoxes ly 2 80 := ⟨rfl, by decide, by omega, ⟨rfl, rfl, by decide, by decide, by omega, by decide⟩, ⟨rfl, rfl, by decide, by decide, by omega, by decide⟩, ⟨rfl, rfl, by decide, by decide, by omega, by decide⟩, ⟨rfl, rfl, by decide, by decide, by omega, by decide⟩⟩
theorem rLayerOf {ly : Nat} : isRow ly 11 80 := ⟨rfl, rfl, by decide, by decide, by omega, by decide⟩
theorem rTags {ly : Nat} : isRow ly 13 80 := ⟨rfl, rfl, by decide, by decide, by omega, by decide⟩
theorem rKeys {ly : Nat} : isRow ly 15 80 := ⟨rfl, rfl, by decide, by decide, by omega, by decide⟩
theorem rClus {ly : Nat} : isRow ly 17 80 := ⟨rfl, rfl, by decide, by decide, by omega, by decide⟩
theorem rFx {ly : Nat} : isRow ly 21 8 := ⟨rfl, rfl, by decide, by decide, by omega, by decide⟩
theorem rFy {ly : Nat} : isRow ly 23 8 := ⟨rfl, rfl, by decide, by decide, by omega, by decide⟩
theorem tLevel {ly t : Nat} (h : isTree ly t) : isRow ly (t + 10) 1205 := by
  rcases h with rfl | ⟨rfl, h⟩ | ⟨rfl, h⟩ <;> exact ⟨rfl, rfl, by decide, by decide, by omega, by decide⟩
theorem tHeld {ly t : Nat} (h : isTree ly t) : isRow ly (t + 12) 1205 := by
  rcases h with rfl | ⟨rfl, h⟩ | ⟨rfl, h⟩ <;> exact ⟨rfl, rfl, by decide, by decide, by omega, by decide⟩
theorem tFrom {ly t : Nat} (h : isTree ly t) : isRow ly (t + 14) 1205 := by
  rcases h with rfl | ⟨rfl, h⟩ | ⟨rfl, h⟩ <;> exact ⟨rfl, rfl, by decide, by decide, by omega, by decide⟩
theorem tCount {ly t : Nat} (h : isTree ly t) : isRow ly (t + 16) 1205 := by
  rcases h with rfl | ⟨rfl, h⟩ | ⟨rfl, h⟩ <;> exact ⟨rfl, rfl, by decide, by decide, by omega, by decide⟩
theorem tBelow {ly t : Nat} (h : isTree ly t) : isRow ly (t + 18) 1205 := by
  rcases h with rfl | ⟨rfl, h⟩ | ⟨rfl, h⟩ <;> exact ⟨rfl, rfl, by decide, by decide, by omega, by decide⟩
theorem tHome {ly t : Nat} (h : isTree ly t) : isRow ly (t + 20) 80 := by
  rcases h with rfl | ⟨rfl, h⟩ | ⟨rfl, h⟩ <;> exact ⟨rfl, rfl, by decide, by decide, by omega, by decide⟩
theorem tKeys {ly t : Nat} (h : isTree ly t) : isRow ly (t + 22) 80 := by
  rcases h with rfl | ⟨rfl, h⟩ | ⟨rfl, h⟩ <;> exact ⟨rfl, rfl, by decide, by decide, by omega, by decide⟩
section GS
variable {K : GK} {M : MD} {d mc ms uc us pc : Nat} {L : List (Nat × Value)} {ly : Nat} {S : St} {Qc : Array Value → State → Outcome → State → Prop} {XC : String → State → State → Prop}
/-- an int field of the shape is written -/
theorem G_setI {rest : List Value} {a ci idx N k : Nat} {C : String} {T : u_T} {fs : List (Option Value)} {x : Int32} (hdg : decode M.2.1 pc = .ok (.putfield idx, 3)) (hs : skel a = .inr (ci, fs)) (h19 : a ≠ 19) (ha : a < 49 + 25 * ly) (hi : fs[k]? = some none) (hc : gcl[ci]? = some (C, T, N)) (hlink : Cond.fieldLink M.1.cls idx (T k).1 (T k).2.1 (T k).2.2.1 ∈ tbG) (hk : k < N) (hfin : (T k).2.2.2 = false) (hty : gty ci k = .int)
    (kk : G K M d mc ms uc us (pc + 3) L rest (hp ly (setI S a k x)) Qc XC) : G K M d mc ms uc us pc L (.int x :: .ref a :: rest) (hp ly S) Qc XC := by
  have h0 : (hp ly S).2[a]? = some (.inr (ci, fl S.2.1 a fs)) := by
    rw [hp_at ha]
    unfold cellOf
    rw [if_neg h19, hs]
  refine G_put hdg h0 hc hlink hk hfin (by rw [hty]; rfl) (by rw [hty]; rfl) ?_ ?_
  · unfold fl
    rw [List.length_mapIdx]
    exact (List.getElem?_eq_some_iff.mp hi).1
  · rw [hp_setI hs h19 hi]
    exact kk
theorem G_setIN {rest : List Value} {a ci idx N k : Nat} {C host : String} {T : u_T} {fs : List (Option Value)} {x : Int32} (hdg : decode M.2.1 pc = .ok (.putfield idx, 3)) (hs : skel a = .inr (ci, fs)) (h19 : a ≠ 19) (ha : a < 49 + 25 * ly) (hi : fs[k]? = some none) (hc : gcl[ci]? = some (C, T, N)) (hlink : Cond.fieldLinkNest M.1.cls idx (T k).1 (T k).2.1 (T k).2.2.1 host ∈ tbN) (hk : k < N) (hfin : (T k).2.2.2 = false) (hty : gty ci k = .int)
    (kk : G K M d mc ms uc us (pc + 3) L rest (hp ly (setI S a k x)) Qc XC) : G K M d mc ms uc us pc L (.int x :: .ref a :: rest) (hp ly S) Qc XC := by
  have h0 : (hp ly S).2[a]? = some (.inr (ci, fl S.2.1 a fs)) := by
    rw [hp_at ha]
    unfold cellOf
    rw [if_neg h19, hs]
  refine G_putN hdg h0 hc hlink hk hfin (by rw [hty]; rfl) (by rw [hty]; rfl) ?_ ?_
  · unfold fl
    rw [List.length_mapIdx]
    exact (List.getElem?_eq_some_iff.mp hi).1
  · rw [hp_setI hs h19 hi]
    exact kk
/-- fewer locals, in another order -/
theorem G_sub {st : List Value} {h : VH} {L' : List (Nat × Value)} (ks : List Nat) (hL : lv_pick L ks = L') (kk : G K M d mc ms uc us pc L' st h Qc XC) : G K M d mc ms uc us pc L st h Qc XC := by
  intro hK p e R s m args below meth c H locs ls F hS hP hl
  refine kk hK p e R s m args below meth c H locs ls F hS hP ?_
  refine lv_sub hl ks ?_
  rw [← hL]
  unfold lv_pick
  rw [List.map_filterMap]
  congr 1
  funext k
  rw [List.getElem?_map]
end GS
section GS2
variable {K : GK} {M : MD} {d mc ms uc us pc : Nat} {L L' : List (Nat × Value)} {h : VH} {Qc : Array Value → State → Outcome → State → Prop} {XC : String → State → State → Prop} {rest : List Value}
theorem GS_istore_n {i : Fin 4} {x : Int32} (hdg : decode M.2.1 pc = .ok (.istore_n i, 1)) (hi : (i : Nat) < M.2.2.1) (hL : gs L i (.int x) = L') (k : G K M d mc ms uc us (pc + 1) L' rest h Qc XC) : G K M d mc ms uc us pc L (.int x :: rest) h Qc XC := G_istore_n hdg hi (hL ▸ k)
theorem GS_istore {i : Nat} {x : Int32} (hdg : decode M.2.1 pc = .ok (.istore i, 2)) (hi : (i : Nat) < M.2.2.1) (hL : gs L i (.int x) = L') (k : G K M d mc ms uc us (pc + 2) L' rest h Qc XC) : G K M d mc ms uc us pc L (.int x :: rest) h Qc XC := G_istore hdg hi (hL ▸ k)
theorem GS_lstore_n {i : Fin 4} {x : Int64} (hdg : decode M.2.1 pc = .ok (.lstore_n i, 1)) (hi : (i : Nat) + 1 < M.2.2.1) (hL : gs2 L i (.long x) = L') (k : G K M d mc ms uc us (pc + 1) L' rest h Qc XC) : G K M d mc ms uc us pc L (.long x :: rest) h Qc XC := G_lstore_n hdg hi (hL ▸ k)
theorem GS_astore_n {i : Fin 4} {x : Nat} (hdg : decode M.2.1 pc = .ok (.astore_n i, 1)) (hi : (i : Nat) < M.2.2.1) (hL : gs L i (.ref x) = L') (k : G K M d mc ms uc us (pc + 1) L' rest h Qc XC) : G K M d mc ms uc us pc L (.ref x :: rest) h Qc XC := G_astore_n hdg hi (hL ▸ k)
theorem GS_astore {i : Nat} {x : Nat} (hdg : decode M.2.1 pc = .ok (.astore i, 2)) (hi : (i : Nat) < M.2.2.1) (hL : gs L i (.ref x) = L') (k : G K M d mc ms uc us (pc + 2) L' rest h Qc XC) : G K M d mc ms uc us pc L (.ref x :: rest) h Qc XC := G_astore hdg hi (hL ▸ k)
theorem GS_iinc {i : Nat} {n : Int} {x v : Int32} (hdg : decode M.2.1 pc = .ok (.iinc i n, 3)) (hl0 : gl L i = some (.int x)) (hv : Int32.ofInt n = v) (hi : i < M.2.2.1) (hL : gs L i (.int (x + v)) = L') (k : G K M d mc ms uc us (pc + 3) L' rest h Qc XC) : G K M d mc ms uc us pc L rest h Qc XC := G_iinc hdg hl0 hv hi (hL ▸ k)
end GS2
theorem sTree {ly t : Nat} (h : isTree ly t) : skel t = .inr (5, [some (.ref (t + 1)), some (.ref (t + 10)), some (.ref (t + 12)), some (.ref (t + 14)), some (.ref (t + 16)), some (.ref (t + 18)), some (.ref (t + 20)), some (.ref (t + 22)), none, none]) ∧ t ≠ 19 ∧ t < 49 + 25 * ly := by
  rcases h with rfl | ⟨rfl, h⟩ | ⟨rfl, h⟩ <;> exact ⟨rfl, by decide, by omega⟩
theorem sThings {ly : Nat} : skel 1 = .inr (4, [some (.ref 2), some (.ref 11), some (.ref 13), some (.ref 15), some (.ref 17), none]) ∧ 1 ≠ 19 ∧ 1 < 49 + 25 * ly := ⟨rfl, by decide, by omega⟩
theorem sIdx {ly : Nat} : skel 0 = .inr (6, [some (.ref 1), some (.ref 19), some (.ref 20), some (.ref 25), none]) ∧ 0 ≠ 19 ∧ 0 < 49 + 25 * ly := ⟨rfl, by decide, by omega⟩
theorem sLayer0 {ly : Nat} (h : 1 ≤ ly) : skel 49 = .inr (2, [some (.int 0), some (.int 1), some (.ref 50), none]) ∧ 49 ≠ 19 ∧ 49 < 49 + 25 * ly := ⟨rfl, by decide, by omega⟩
theorem sLayer1 {ly : Nat} (h : 2 ≤ ly) : skel 74 = .inr (2, [some (.int 1), some (.int 0), some (.ref 75), none]) ∧ 74 ≠ 19 ∧ 74 < 49 + 25 * ly := ⟨rfl, by decide, by omega⟩
