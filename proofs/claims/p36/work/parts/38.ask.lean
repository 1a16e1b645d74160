/-! asking: the answer as of the turn's start, and only scratch has changed -/
def AK (S0 S : St) : Prop := EqC S0 S ∧ okR (S.1 42)
section AQ
variable {K : GK} {M : MD} {d mc ms uc us pc : Nat} {L : List (Nat × Value)} {h : VH} {Qc : Array Value → State → Outcome → State → Prop} {XC : String → State → State → Prop}
set_option maxHeartbeats 400000 in
theorem G_cVq {M' : MD} {n d' a ci idx : Nat} {r : vw_C} {fs As rest st : List Value} {z : Int32} {S0 : St} (hdg : decode M.2.1 pc = .ok (.invokevirtual idx, 3)) (hcv : CV M' n) (hlink : Cond.methodLink M.1.cls idx M'.1 ∈ tbG) (hSp : Sp K M' d' 0 0 (.ref a :: As) h (fun v u => v = some (.int z) ∧ ∃ S', u = hp 2 S' ∧ AK S0 S') noX) (hst : st = As.reverse ++ .ref a :: rest)
    (hc : h.2[a]? = some (.inr (ci, fs))) (hr : gcl[ci]? = some r) (hrc : r.1 = M'.1.cls) (hn : As.length = n) (hd : d' + 1 ≤ d) (hcs : uc ≤ mc ∧ us ≤ ms) (hw : (rest.map fun v => v.category).sum ≤ 8)
    (kk : ∀ S', AK S0 S' → G K M d mc ms uc us (pc + 3) L (.int z :: rest) (hp 2 S') Qc XC) : G K M d mc ms uc us pc L st h Qc XC :=
  G_callV hdg hcv hlink hSp hst hc hr hrc hn hd hcs hw (fun v u q => by obtain ⟨rfl, S', rfl, q2⟩ := q; exact kk S' q2) (fun _ _ q => q.elim)
end AQ
section AS
variable {K : GK} {S0 S : St} {X Y W H : Nat → Nat} {cap L N0 N1 lr lr2 : Nat}
def mN (S0 : St) (lr : Nat) : Nat := cnt (inL S0 (nI lr)) 24
def NN (N0 N1 lr : Nat) : Nat := if lr = 0 then N0 else N1
set_option maxHeartbeats 400000 in
theorem inv_tc (h : INV S X Y W H cap L N0 N1) : tc S = nI 24 := h.1.1
set_option maxHeartbeats 400000 in
theorem inv_N (h : INV S X Y W H cap L N0 N1) (hlr : lr < 2) : tN S (50 + 25 * lr) = nI (NN N0 N1 lr) ∧ NN N0 N1 lr ≤ 1205 := by
  obtain ⟨-, -, -, ⟨X0, Y0, -, d2⟩, e1, -, -⟩ := h
  have := qx_small d2
  rcases (show lr = 0 ∨ lr = 1 by omega) with rfl | rfl
  · exact ⟨this.2, by unfold NN; rw [if_pos rfl]; omega⟩
  · exact ⟨e1.1, by have := e1.2.1; unfold NN; rw [if_neg (by omega)]; omega⟩
set_option maxHeartbeats 400000 in
theorem inv_box (h : INV S X Y W H cap L N0 N1) (hlr : lr < 2) : BXN S (50 + 25 * lr) (NN N0 N1 lr) := by
  obtain ⟨-, -, -, ⟨X0, Y0, -, d2⟩, e1, -, -⟩ := h
  rcases (show lr = 0 ∨ lr = 1 by omega) with rfl | rfl
  · exact QF_box d2
  · exact PT_box e1
set_option maxHeartbeats 400000 in
theorem inv_ok (h : INV S X Y W H cap L N0 N1) (hlr : lr < 2) : okC S (50 + 25 * lr) := by
  obtain ⟨-, -, -, -, e1, f1, -⟩ := h
  rcases (show lr = 0 ∨ lr = 1 by omega) with rfl | rfl
  · exact okC_of (t := 50) f1
  · exact okC_of (t := 75) e1.2.2.2.2.2.1
set_option maxHeartbeats 400000 in
theorem q_things (hI : INV S0 X Y W H cap L N0 N1) (hA : AK S0 S) : Sp K MX6_things 1 0 0 [.ref 0] (hp 2 S) (fun v u => v = some (.int (nI 24)) ∧ ∃ S', u = hp 2 S' ∧ AK S0 S') noX := by
  have hS := INV_eq hI hA.1 hA.2
  refine Sp.mono (sp_X6_things) (fun v u q => ⟨q.1.trans ?_, S, q.2, hA⟩)
  rw [inv_tc hS]
set_option maxHeartbeats 400000 in
theorem q_size (hI : INV S0 X Y W H cap L N0 N1) (hA : AK S0 S) (hlr : lr < 2) : Sp K MX6_size 10 0 0 [.ref 0, .int (nI lr)] (hp 2 S) (fun v u => v = some (.int (nI (mN S0 lr))) ∧ ∃ S', u = hp 2 S' ∧ AK S0 S') noX := by
  have hS := INV_eq hI hA.1 hA.2
  refine Sp.mono (sp_X6_size (inv_tc hS) (by omega) hlr) (fun v u q => ⟨q.1.trans ?_, S, q.2, hA⟩)
  rw [eq_inL hA.1]; rfl
set_option maxHeartbeats 400000 in
theorem q_nodes (hI : INV S0 X Y W H cap L N0 N1) (hA : AK S0 S) (hlr : lr < 2) : Sp K MX6_nodes 10 0 0 [.ref 0, .int (nI lr)] (hp 2 S) (fun v u => v = some (.int (nI (NN N0 N1 lr))) ∧ ∃ S', u = hp 2 S' ∧ AK S0 S') noX := by
  have hS := INV_eq hI hA.1 hA.2
  refine Sp.mono (sp_X6_nodes hlr) (fun v u q => ⟨q.1.trans ?_, S, q.2, hA⟩)
  rw [(inv_N hS hlr).1]
set_option maxHeartbeats 400000 in
theorem q_depth (hI : INV S0 X Y W H cap L N0 N1) (hA : AK S0 S) (hlr : lr < 2) : Sp K MX6_depth 10 0 0 [.ref 0, .int (nI lr)] (hp 2 S) (fun v u => v = some (.int (levV S0 (50 + 25 * lr))) ∧ ∃ S', u = hp 2 S' ∧ AK S0 S') noX := by
  have hS := INV_eq hI hA.1 hA.2
  refine Sp.mono (sp_X6_depth hlr) (fun v u q => ⟨q.1.trans ?_, S, q.2, hA⟩)
  rw [eq_levV hA.1 (by omega)]
set_option maxHeartbeats 400000 in
theorem okM_nI {x : Nat} (h : x ≤ 1023) : okM (nI x) := ⟨nI_pos (by omega), nI_lt (a := x) (b := 1024) (by omega) (by decide)⟩
set_option maxHeartbeats 400000 in
theorem q_inBox (hI : INV S0 X Y W H cap L N0 N1) (hA : AK S0 S) (hlr : lr < 2) {x y : Nat} (hx : x ≤ 1023) (hy : y ≤ 1023) {w h : Nat} (hw : w ≤ 1023) (hh : h ≤ 1023) : Sp K MX6_inBox 12 0 0 [.ref 0, .int (nI lr), .int (nI x), .int (nI y), .int (nI w), .int (nI h)] (hp 2 S) (fun v u => v = some (.int (nI (cnt (fun k => inL S0 (nI lr) k && decide (bfar S0 2 80 (nI k) (nI x) (nI y) (nI w) (nI h) = 0)) 24))) ∧ ∃ S', u = hp 2 S' ∧ AK S0 S') noX := by
  have hS := INV_eq hI hA.1 hA.2
  refine Sp.mono (sp_X6_inBox (inv_tc hS) (by omega) hlr (okM_nI hx) (okM_nI hy) (okM_nI hw) (okM_nI hh)) (fun v u q => ⟨q.1.trans ?_, S, q.2, hA⟩)
  rw [eq_inL hA.1, eq_bfar hA.1 (Or.inl rfl)]
set_option maxHeartbeats 400000 in
theorem q_visited (hI : INV S0 X Y W H cap L N0 N1) (hA : AK S0 S) (hlr : lr < 2) {x y : Nat} (hx : x ≤ 1023) (hy : y ≤ 1023) {w h : Nat} (hw : w ≤ 1023) (hh : h ≤ 1023) : Sp K MX6_visited 12 0 0 [.ref 0, .int (nI lr), .int (nI x), .int (nI y), .int (nI w), .int (nI h)] (hp 2 S) (fun v u => v = some (.int (nI (cnt (visP S0 (50 + 25 * lr) (nI x) (nI y) (nI w) (nI h) 0) (NN N0 N1 lr)))) ∧ ∃ S', u = hp 2 S' ∧ AK S0 S') noX := by
  have hS := INV_eq hI hA.1 hA.2
  refine Sp.mono (sp_X6_visited hlr (inv_N hS hlr).1 (inv_N hS hlr).2 (okM_nI hx) (okM_nI hy) (okM_nI hw) (okM_nI hh)) (fun v u q => ⟨q.1.trans ?_, S, q.2, hA⟩)
  rw [eq_visP hA.1 (by omega)]
set_option maxHeartbeats 400000 in
theorem q_nearest (hI : INV S0 X Y W H cap L N0 N1) (hA : AK S0 S) (hlr : lr < 2) {x y : Nat} (hx : x ≤ 1023) (hy : y ≤ 1023) {kk : Nat} (hk1 : 1 ≤ kk) (hk2 : kk ≤ 80) : Sp K MX6_nearest 14 0 0 [.ref 0, .int (nI lr), .int (nI x), .int (nI y), .int (nI kk)] (hp 2 S) (fun v u => v = some (.int (if 0 ≤ keyN S0 lr 24 (nI x) (nI y) kk then keyN S0 lr 24 (nI x) (nI y) kk - keyN S0 lr 24 (nI x) (nI y) kk / 128 * 128 else -1)) ∧ ∃ S', u = hp 2 S' ∧ AK S0 S') noX := by
  have hS := INV_eq hI hA.1 hA.2
  refine Sp.mono (sp_X6_nearest (inv_tc hS) (by omega) hlr (okM_nI hx) (okM_nI hy) hk1 hk2) (fun v u q => ⟨q.1.trans ?_, keyS S lr 24 (nI x) (nI y), q.2, hA.1.set (Or.inl rfl), hA.2⟩)
  rw [eq_keyN hA.1 hk1]
set_option maxHeartbeats 400000 in
theorem q_far (hI : INV S0 X Y W H cap L N0 N1) (hA : AK S0 S) (hlr : lr < 2) {x y : Nat} (hx : x ≤ 1023) (hy : y ≤ 1023) {kk : Nat} (hk1 : 1 ≤ kk) (hk2 : kk ≤ 80) : Sp K MX6_far 14 0 0 [.ref 0, .int (nI lr), .int (nI x), .int (nI y), .int (nI kk)] (hp 2 S) (fun v u => v = some (.int (if 0 ≤ keyN S0 lr 24 (nI x) (nI y) kk then keyN S0 lr 24 (nI x) (nI y) kk / 128 else -1)) ∧ ∃ S', u = hp 2 S' ∧ AK S0 S') noX := by
  have hS := INV_eq hI hA.1 hA.2
  refine Sp.mono (sp_X6_far (inv_tc hS) (by omega) hlr (okM_nI hx) (okM_nI hy) hk1 hk2) (fun v u q => ⟨q.1.trans ?_, keyS S lr 24 (nI x) (nI y), q.2, hA.1.set (Or.inl rfl), hA.2⟩)
  rw [eq_keyN hA.1 hk1]
set_option maxHeartbeats 400000 in
theorem q_visitedFor (hI : INV S0 X Y W H cap L N0 N1) (hA : AK S0 S) (hlr : lr < 2) {x y : Nat} (hx : x ≤ 1023) (hy : y ≤ 1023) {kk : Nat} (hk1 : 1 ≤ kk) (hk2 : kk ≤ 80) : Sp K MX6_visitedFor 14 0 0 [.ref 0, .int (nI lr), .int (nI x), .int (nI y), .int (nI kk)] (hp 2 S) (fun v u => v = some (.int (if 0 ≤ keyN S0 lr 24 (nI x) (nI y) kk then nI (cnt (visP S0 (50 + 25 * lr) (nI x) (nI y) 0 0 (keyN S0 lr 24 (nI x) (nI y) kk / 128)) (NN N0 N1 lr)) else nI (NN N0 N1 lr))) ∧ ∃ S', u = hp 2 S' ∧ AK S0 S') noX := by
  have hS := INV_eq hI hA.1 hA.2
  refine Sp.mono (sp_X6_visitedFor (inv_tc hS) (by omega) hlr (inv_N hS hlr).1 (inv_N hS hlr).2 (okM_nI hx) (okM_nI hy) hk1 hk2) (fun v u q => ⟨q.1.trans ?_, keyS S lr 24 (nI x) (nI y), q.2, hA.1.set (Or.inl rfl), hA.2⟩)
  rw [eq_keyN hA.1 hk1, eq_visP hA.1 (by omega)]
set_option maxHeartbeats 400000 in
theorem q_pairs (hI : INV S0 X Y W H cap L N0 N1) (hA : AK S0 S) (hlr : lr < 2) (hlr2 : lr2 < 2) {far : Int32} (hfar : okF far) : Sp K MX6_pairs 14 0 0 [.ref 0, .int (nI lr), .int (nI lr2), .int far] (hp 2 S) (fun v u => v = some (.int (nI (smN (pairG S0 24 (nI lr) (nI lr2) far) 24))) ∧ ∃ S', u = hp 2 S' ∧ AK S0 S') noX := by
  have hS := INV_eq hI hA.1 hA.2
  refine Sp.mono (sp_X6_pairs (inv_tc hS) (by omega) hlr hlr2 hfar) (fun v u q => ⟨q.1.trans ?_, S, q.2, hA⟩)
  rw [eq_pairG hA.1]
set_option maxHeartbeats 400000 in
theorem q_clusters (hI : INV S0 X Y W H cap L N0 N1) (hA : AK S0 S) (hlr : lr < 2) {far : Int32} (hfar : okF far) : Sp K MX6_clusters 14 0 0 [.ref 0, .int (nI lr), .int far] (hp 2 S) (fun v u => v = some (.int (nI (cnt (rootP S0 (nI lr) (gOut S0 24 (nI lr) far (fun _ => 0) 24)) 24))) ∧ ∃ S', u = hp 2 S' ∧ AK S0 S') noX := by
  have hS := INV_eq hI hA.1 hA.2
  refine Sp.mono (sp_X6_clusters (inv_tc hS) (by omega) hlr hfar) (fun v u q => ⟨q.1.trans ?_, setR S 18 (gOut S 24 (nI lr) far (S.1 18) 24), q.2, hA.1.set (Or.inr (Or.inl rfl)), hA.2⟩)
  rw [eq_gOut hA.1, eq_rootP hA.1, root_cong (fun k hk => gOut_cong (g' := fun _ => 0) 24 k hk)]
set_option maxHeartbeats 400000 in
theorem q_greatest (hI : INV S0 X Y W H cap L N0 N1) (hA : AK S0 S) (hlr : lr < 2) {far : Int32} (hfar : okF far) : Sp K MX6_greatest 14 0 0 [.ref 0, .int (nI lr), .int far] (hp 2 S) (fun v u => v = some (.int (nI (grtN S0 24 (nI lr) (gOut S0 24 (nI lr) far (fun _ => 0) 24) 24))) ∧ ∃ S', u = hp 2 S' ∧ AK S0 S') noX := by
  have hS := INV_eq hI hA.1 hA.2
  refine Sp.mono (sp_X6_greatest (inv_tc hS) (by omega) hlr hfar) (fun v u q => ⟨q.1.trans ?_, setR S 18 (gOut S 24 (nI lr) far (S.1 18) 24), q.2, hA.1.set (Or.inr (Or.inl rfl)), hA.2⟩)
  rw [(grt_nI (by omega) 24).1, eq_gOut hA.1, eq_grtN hA.1, grtN_cong (fun k hk => gOut_cong (g' := fun _ => 0) 24 k hk)]
set_option maxHeartbeats 400000 in
theorem q_visitedPairs (hI : INV S0 X Y W H cap L N0 N1) (hA : AK S0 S) (hlr : lr < 2) (hlr2 : lr2 < 2) {far : Int32} (hfar : okF far) : Sp K MX6_visitedPairs 24 0 0 [.ref 0, .int (nI lr), .int (nI lr2), .int far] (hp 2 S) (fun v u => v = some (.int (vpV S0 lr lr2 far)) ∧ ∃ S', u = hp 2 S' ∧ AK S0 S') noX := by
  have hS := INV_eq hI hA.1 hA.2
  refine Sp.mono (sp_X6_visitedPairs hlr hlr2 hfar (inv_ok hS hlr) (inv_ok hS hlr2)) (fun v u q => ⟨q.1.trans ?_, S, q.2, hA⟩)
  rw [eq_vpV hA.1]
set_option maxHeartbeats 400000 in
theorem q_area (hI : INV S0 X Y W H cap L N0 N1) (hA : AK S0 S) : Sp K MX6_area 2 0 0 [.ref 0] (hp 2 S) (fun v u => v = some (.int (0)) ∧ ∃ S', u = hp 2 S' ∧ AK S0 S') noX := by
  have hS := INV_eq hI hA.1 hA.2
  refine Sp.mono (sp_X6_area hS.1.2.2.1) (fun v u q => ⟨q.1.trans ?_, S, q.2, hA⟩)
  rfl
set_option maxHeartbeats 400000 in
theorem q_of (hI : INV S0 X Y W H cap L N0 N1) (hA : AK S0 S) (hlr : lr < 2) {k : Nat} (hk : k < 24) (hl : S0.1 12 k = nI lr) {w : Nat} (hw : w < 7) : Sp K MX6_of 10 0 0 [.ref 0, .int (nI k), .int (nI w)] (hp 2 S) (fun v u => v = some (.int (ofV S0 lr k w)) ∧ ∃ S', u = hp 2 S' ∧ AK S0 S') noX := by
  have hS := INV_eq hI hA.1 hA.2
  refine Sp.mono (sp_X6_of hlr (inv_tc hS) (by omega) hk (by rw [hA.1.1 12 (by unfold scr; omega)]; exact hl) hw) (fun v u q => ⟨q.1.trans ?_, S, q.2, hA⟩)
  rw [eq_ofV hA.1]
set_option maxHeartbeats 400000 in
theorem q_level (hI : INV S0 X Y W H cap L N0 N1) (hA : AK S0 S) : Sp K MX6_level 10 0 0 [.ref 0, .int (nI 1), .int 0] (hp 2 S) (fun v u => v = some (.int (nI L)) ∧ ∃ S', u = hp 2 S' ∧ AK S0 S') noX := by
  have hS := INV_eq hI hA.1 hA.2
  refine Sp.mono (sp_X6_level (inv_N (lr := 1) hS (by omega)).1 (inv_N (lr := 1) hS (by omega)).2) (fun v u q => ⟨q.1.trans ?_, S, q.2, hA⟩)
  rw [show NN N0 N1 1 = N1 from rfl, lev_L hS.2.2.2.2.1]
set_option maxHeartbeats 400000 in
theorem q_node (hI : INV S0 X Y W H cap L N0 N1) (hA : AK S0 S) {j : Nat} (hj : j < L) : Sp K MX6_node 10 0 0 [.ref 0, .int (nI 1), .int 0, .int (nI j), .int 4] (hp 2 S) (fun v u => v = some (.int (nI (hdC S0 75 24 j))) ∧ ∃ S', u = hp 2 S' ∧ AK S0 S') noX := by
  have hS := INV_eq hI hA.1 hA.2
  obtain ⟨p1, p2, p3, p4, p5, p6, p7⟩ := hS.2.2.2.2.1
  obtain ⟨a1, a2, a3⟩ := p3 j hj
  have hlv := lev_L hS.2.2.2.2.1
  refine Sp.mono (sp_X6_node p1 (by omega) (j := j) (by rw [hlv]; exact hj) (Or.inr (by rw [show tLv S 75 0 = 0 from (p3 0 (by omega)).1]; exact Int32.le_refl _))) (fun v u q => ⟨q.1.trans ?_, S, q.2, hA⟩)
  have e0 : rat (tCt S 75) 1205 (nI j) = 0 := (rat_nI (by omega) (by decide)).trans a2
  have e1 : leafI S 75 (nI j) = 1 := by unfold leafI; rw [e0, if_pos rfl]
  rw [e1, if_neg (by decide), rat_nI (f := tHd S 75) (show j < 1205 by omega) (by decide)]
  rw [show tHd S 75 j = nI (hdC S 75 24 j) from a3]
  unfold hdC
  rw [eq_row hA.1 (show 49 ≤ 75 + 21 by omega)]
set_option maxHeartbeats 400000 in
theorem q_leaf (hI : INV S0 X Y W H cap L N0 N1) (hA : AK S0 S) {k : Nat} (hk : k < 24) (hl : S0.1 12 k = nI 0) : ∃ m, 1 ≤ m ∧ m ≤ 24 ∧ Sp K MX6_leaf 14 0 0 [.ref 0, .int (nI 0), .int (S0.1 4 k), .int (S0.1 6 k), .int 3] (hp 2 S) (fun v u => v = some (.int (nI m)) ∧ ∃ S', u = hp 2 S' ∧ AK S0 S') noX := by
  have hS := INV_eq hI hA.1 hA.2
  obtain ⟨-, ⟨b1, b2⟩, -, ⟨X0, Y0, d1, d2⟩, -⟩ := hS
  have hl2 : inL S (nI 0) k = true := by rw [eq_inL hA.1]; exact decide_eq_true hl
  obtain ⟨e1, e2, e3, e4, b3, b4⟩ := b1 k hk
  obtain ⟨f1, f2⟩ := d1 k hk hl2
  obtain ⟨m, m1, m2, m3⟩ := QF_leaf d2 (by omega) hk hl2 (by omega) (by omega)
  have x1 : S0.1 4 k = nI (X k) := by rw [← hA.1.1 4 (by unfold scr; omega)]; exact e1
  have x2 : S0.1 6 k = nI (Y k) := by rw [← hA.1.1 6 (by unfold scr; omega)]; exact e2
  refine ⟨m, m1, m2, ?_⟩
  rw [x1, x2]
  refine Sp.mono (sp_X6_leaf (okM_nI (by omega)) (okM_nI (by omega))) (fun v u q => ⟨q.1.trans ?_, S, q.2, hA⟩)
  rw [f1, f2] at m3
  rw [m3]
def plN (S0 : St) (X Y : Nat → Nat) (lr fn : Nat) : Nat := if lr = 0 then QN (inL S0 (nI 0)) X Y 24 fn else pkN fn (mN S0 1)
set_option maxHeartbeats 400000 in
theorem q_nodesWith (hI : INV S0 X Y W H cap L N0 N1) (hA : AK S0 S) (hlr : lr < 2) {fn : Nat} (hf2 : 2 ≤ fn) (hf : fn ≤ 8) : Sp K MX6_nodesWith 16 0 0 [.ref 0, .int (nI lr), .int (nI fn)] (hp 2 S) (fun v u => v = some (.int (nI (plN S0 X Y lr fn))) ∧ ∃ S', u = hp 2 S' ∧ AK S0 S') noX := by
  have hS := INV_eq hI hA.1 hA.2
  obtain ⟨-, ⟨b1, b2⟩, -⟩ := id hS
  have pk := pk_all (S := S) (t := 25) (c := 24) (fn := fn) (layer := nI 1) (by omega) (by omega) hf2 hf b1 hA.2
  have hE : EqC S0 (planS S 24 lr fn) := eq_planS hA.1
  rcases (show lr = 0 ∨ lr = 1 by omega) with rfl | rfl
  · have e : planS S 24 0 fn = growS S 25 24 (nI 0) (nI fn) := by unfold planS; rw [if_neg (by decide)]
    have h42 : okR ((planS S 24 0 fn).1 (25 + 17)) := by
      rw [e]
      have q1 := okR_growS (S := S) (t := 25) (c := 24) (layer := nI 0) (cap := nI fn) hA.2
      exact q1
    rw [show 25 + 17 = 42 from rfl] at h42
    refine Sp.mono (sp_X6_nodesWith (inv_tc hS) (by omega) hlr hf2 hf (fun z => by omega)) (fun v u q => ⟨q.1.trans ?_, _, q.2, hE, h42⟩)
    obtain ⟨N', hq⟩ := growS_QF (S := S) (t := 25) (c := 24) (cap := fn) (layer := nI 0) (by omega) (by omega) (by omega) (TR_pos b1)
    rw [e, (QF_N hq).1, eq_inL hA.1]
    rfl
  · have e : planS S 24 1 fn = growP S 25 24 fn (nI 1) := by unfold planS; rw [if_pos (by decide)]
    have h42 : okR ((planS S 24 1 fn).1 (25 + 17)) := by
      rw [e]
      exact pk.2.2.2.2.2.2.1
    rw [show 25 + 17 = 42 from rfl] at h42
    refine Sp.mono (sp_X6_nodesWith (inv_tc hS) (by omega) hlr hf2 hf (fun _ => pk.1)) (fun v u q => ⟨q.1.trans ?_, _, q.2, hE, h42⟩)
    rw [e, pk.2.1, eq_inL hA.1]
    rfl
set_option maxHeartbeats 400000 in
theorem pkN_bd : ∀ m, m < 30 → pkN 2 m ≤ 1000 := by decide +kernel
set_option maxHeartbeats 400000 in
theorem plN_mono {S0 : St} {X Y : Nat → Nat} {lr : Nat} : plN S0 X Y lr 8 ≤ plN S0 X Y lr 2 ∧ plN S0 X Y lr 2 ≤ 1000 := by
  have hm := cnt_le (inL S0 (nI 1)) 24
  unfold plN
  split
  · exact ⟨QN_mono (by omega), Nat.le_trans QN_le (by omega)⟩
  · exact ⟨pk_mono _ (by unfold mN; omega), pkN_bd _ (by unfold mN; omega)⟩
end AS
