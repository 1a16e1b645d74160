/-! what is true at every turn -/
section IV
variable {S S1 : St} {X Y W H X1 Y1 : Nat → Nat} {cap L N0 N1 k lr : Nat}
def INV (S : St) (X Y W H : Nat → Nat) (cap L N0 N1 : Nat) : Prop :=
  (tc S = nI 24 ∧ S.2.1 0 4 = nI 2 ∧ S.2.1 20 2 = 0 ∧ S.2.1 49 3 = nI cap ∧ 1 ≤ cap ∧ cap ≤ 8) ∧ (TR S 24 X Y W H ∧ ∀ j, W j ≤ 200 ∧ H j ≤ 200) ∧ (∀ j, j < 24 → S.1 12 j = -1 ∨ S.1 12 j = nI (j % 2)) ∧
  (∃ X0 Y0, (∀ j, j < 24 → inL S (nI 0) j = true → X0 j = X j ∧ Y0 j = Y j) ∧ QF S 50 24 (inL S (nI 0)) X0 Y0 cap N0) ∧ PT S 75 24 L N1 (inL S (nI 1)) ∧ okR (S.1 67) ∧ okR (S.1 42)
set_option maxHeartbeats 400000 in
theorem INV_eq {S0 : St} (h : INV S0 X Y W H cap L N0 N1) (e : EqC S0 S) (h42 : okR (S.1 42)) : INV S X Y W H cap L N0 N1 := by
  obtain ⟨⟨a1, a2, a3, a4, a5, a6⟩, ⟨b1, b2⟩, c1, ⟨X0, Y0, d1, d2⟩, e1, f1, -⟩ := h
  have rr : ∀ a, 49 ≤ a → S.1 a = S0.1 a := fun a ha => e.1 a (by unfold scr; omega)
  have rl : ∀ a, a ≤ 15 → S.1 a = S0.1 a := fun a ha => e.1 a (by unfold scr; omega)
  refine ⟨⟨(eq_tc e).trans a1, ?_, ?_, ?_, a5, a6⟩, ⟨fun j hj => ?_, b2⟩, fun j hj => ?_, ⟨X0, Y0, ?_, ?_⟩, ?_, ?_, h42⟩
  · rw [e.2 0 (by omega)]; exact a2
  · rw [e.2 20 (by omega)]; exact a3
  · rw [e.2 49 (by omega)]; exact a4
  · rw [rl 4 (by omega), rl 6 (by omega), rl 8 (by omega), rl 10 (by omega)]; exact b1 j hj
  · rw [rl 12 (by omega)]; exact c1 j hj
  · rw [eq_inL e]; exact d1
  · rw [eq_inL e]; exact QF_state ⟨fun a _ _ => rr a (by omega), e.2 50 (by omega)⟩ d2
  · rw [eq_inL e]; exact PT_state ⟨fun a _ _ => rr a (by omega), e.2 75 (by omega)⟩ (fun _ _ z _ => z) e1
  · rw [rr 67 (by omega)]; exact f1
set_option maxHeartbeats 400000 in
theorem lay_ne {v : Int32} {a b : Nat} (ha : a < 2) (hb : b < 2) (hab : a ≠ b) (h : v = -1 ∨ v = nI a) : decide (v = nI b) = false := by
  refine decide_eq_false fun z => ?_
  rcases h with w | w
  · rw [w] at z; exact nI_m1 (by omega) z
  · rw [w] at z; exact hab ((nI_eq (by omega) (by omega)).mp z)
-- a thing has changed its place, or has gone; it leaves its leaf, and its layer grows anew
set_option maxHeartbeats 400000 in
theorem keepC (h : INV S X Y W H cap L N0 N1) (hk : k < 24) (hlr : lr = k % 2) (hS : ∀ a, 13 ≤ a → S1.1 a = S.1 a) (hSI : S1.2.1 = S.2.1) (hT1 : TR S1 24 X1 Y1 W H) (h12 : ∀ j, j ≠ k → S1.1 12 j = S.1 12 j) (h12k : S1.1 12 k = -1 ∨ S1.1 12 k = nI (k % 2)) (hXY : ∀ j, j ≠ k → X1 j = X j ∧ Y1 j = Y j) :
    (∃ N0', INV (regS (letS S1 (50 + 25 * lr) k) 24 lr) X1 Y1 W H cap L N0' N1) ∧ ∀ a, a ≤ 15 → (regS (letS S1 (50 + 25 * lr) k) 24 lr).1 a = S1.1 a := by
  obtain ⟨⟨a1, a2, a3, a4, a5, a6⟩, ⟨b1, b2⟩, c1, ⟨X0, Y0, d1, d2⟩, e1, f1, g1⟩ := h
  have hl2 : k % 2 < 2 := Nat.mod_lt _ (by omega)
  rcases (show k % 2 = 0 ∨ k % 2 = 1 by omega) with w | w
  · have hz : lr = 0 := by omega
    subst hz
    have t1 : Tch 50 S1 (letS S1 50 k) := letS_tch (by omega)
    have ecap : (letS S1 50 k).2.1 49 3 = nI cap := by rw [t1.2.1 49 (by omega), hSI]; exact a4
    have eR : regS (letS S1 (50 + 25 * 0) k) 24 0 = growS (letS S1 50 k) 50 24 (nI 0) (nI cap) := by
      unfold regS
      rw [if_pos rfl]
      show growS (letS S1 50 k) 50 24 (nI 0) ((letS S1 50 k).2.1 49 3) = _
      rw [ecap]
    rw [eR]
    have t2 : Tch 50 S1 (growS (letS S1 50 k) 50 24 (nI 0) (nI cap)) := t1.tr (t_growS (Tch.rf _ _))
    have hpos : posR (letS S1 50 k) 24 X1 Y1 := tch_pos (by omega) t1 (TR_pos hT1)
    obtain ⟨N', hq⟩ := growS_QF (S := letS S1 50 k) (t := 50) (c := 24) (cap := cap) (layer := nI 0) (by omega) (by omega) (by omega) hpos
    have ei : ∀ v, inL (growS (letS S1 50 k) 50 24 (nI 0) (nI cap)) v = inL S1 v := fun v => by
      funext j
      show decide ((growS (letS S1 50 k) 50 24 (nI 0) (nI cap)).1 12 j = v) = _
      rw [t2.1 12 (by omega)]
    have ei2 : inL (letS S1 50 k) (nI 0) = inL S1 (nI 0) := by
      funext j
      show decide ((letS S1 50 k).1 12 j = nI 0) = _
      rw [t1.1 12 (by omega)]
    refine ⟨⟨N', ⟨?_, ?_, ?_, ?_, a5, a6⟩, ⟨fun j hj => ?_, b2⟩, fun j hj => ?_, ⟨X1, Y1, fun _ _ _ => ⟨rfl, rfl⟩, ?_⟩, ?_, ?_, ?_⟩, fun a ha => t2.1 a (by omega)⟩
    · show (growS (letS S1 50 k) 50 24 (nI 0) (nI cap)).2.1 1 5 = _
      rw [t2.2.1 1 (by omega), hSI]; exact a1
    · rw [t2.2.1 0 (by omega), hSI]; exact a2
    · rw [t2.2.1 20 (by omega), hSI]; exact a3
    · rw [t2.2.1 49 (by omega), hSI]; exact a4
    · rw [t2.1 4 (by omega), t2.1 6 (by omega), t2.1 8 (by omega), t2.1 10 (by omega)]; exact hT1 j hj
    · rw [t2.1 12 (by omega)]
      by_cases e : j = k
      · subst e; exact h12k
      · rw [h12 j e]; exact c1 j hj
    · rw [ei, ← ei2]; exact hq
    · rw [ei]
      refine PT_state ⟨fun a _ _ => (t2.1 a (by omega)).trans (hS a (by omega)), (t2.2.1 75 (by omega)).trans (congrFun hSI 75)⟩ (fun j hj z _ => ?_) e1
      have : j ≠ k := fun q => by
        have z2 : decide (S.1 12 j = nI 1) = true := z
        rw [lay_ne (a := 0) (b := 1) (by omega) (by omega) (by omega) (by have := c1 j hj; rw [q, w] at this; rw [q]; exact this)] at z2
        cases z2
      show decide (S1.1 12 j = nI 1) = true
      rw [h12 j this]; exact z
    · have q0 : okR ((letS S1 50 k).1 67) := by
        rcases letS_cases S1 50 k (by omega) with ⟨z, e⟩ | ⟨z, e⟩
        · rw [e, hS 67 (by omega)]; exact f1
        · rw [e, setR_ne (by omega), setR_ne (by omega), hS 67 (by omega)]; exact f1
      have q1 := okR_growS (S := letS S1 50 k) (t := 50) (c := 24) (layer := nI 0) (cap := nI cap) q0
      rw [show 50 + 17 = 67 from rfl] at q1
      exact q1
    · rw [t2.1 42 (by omega), hS 42 (by omega)]; exact g1
  · have hz : lr = 1 := by omega
    subst hz
    have eR : regS (letS S1 (50 + 25 * 1) k) 24 1 = letS S1 75 k := by unfold regS; rw [if_neg (by decide)]
    rw [eR]
    have t1 : Tch 75 S1 (letS S1 75 k) := letS_tch (by omega)
    have ei : ∀ v, inL (letS S1 75 k) v = inL S1 v := fun v => by
      funext j
      show decide ((letS S1 75 k).1 12 j = v) = _
      rw [t1.1 12 (by omega)]
    have ei0 : inL S1 (nI 0) = inL S (nI 0) := by
      funext j
      show decide (S1.1 12 j = nI 0) = decide (S.1 12 j = nI 0)
      by_cases e : j = k
      · subst e
        rw [lay_ne (a := 1) (b := 0) (by omega) (by omega) (by omega) (by rw [w] at h12k; exact h12k), lay_ne (a := 1) (b := 0) (by omega) (by omega) (by omega) (by have := c1 j hk; rw [w] at this; exact this)]
      · rw [h12 j e]
    refine ⟨⟨N0, ⟨?_, ?_, ?_, ?_, a5, a6⟩, ⟨fun j hj => ?_, b2⟩, fun j hj => ?_, ⟨X0, Y0, fun j hj z => ?_, ?_⟩, ?_, ?_, ?_⟩, fun a ha => t1.1 a (by omega)⟩
    · show (letS S1 75 k).2.1 1 5 = _
      rw [t1.2.1 1 (by omega), hSI]; exact a1
    · rw [t1.2.1 0 (by omega), hSI]; exact a2
    · rw [t1.2.1 20 (by omega), hSI]; exact a3
    · rw [t1.2.1 49 (by omega), hSI]; exact a4
    · rw [t1.1 4 (by omega), t1.1 6 (by omega), t1.1 8 (by omega), t1.1 10 (by omega)]; exact hT1 j hj
    · rw [t1.1 12 (by omega)]
      by_cases e : j = k
      · subst e; exact h12k
      · rw [h12 j e]; exact c1 j hj
    · rw [ei, ei0] at z
      have : j ≠ k := fun q => by
        have z2 : decide (S.1 12 j = nI 0) = true := z
        rw [lay_ne (a := 1) (b := 0) (by omega) (by omega) (by omega) (by have := c1 j hj; rw [q, w] at this; rw [q]; exact this)] at z2
        cases z2
      rw [(hXY j this).1, (hXY j this).2]
      exact d1 j hj z
    · rw [ei, ei0]
      exact QF_state ⟨fun a _ _ => (t1.1 a (by omega)).trans (hS a (by omega)), (t1.2.1 50 (by omega)).trans (congrFun hSI 50)⟩ d2
    · rw [ei]
      have p1 : PT S1 75 24 L N1 (inL S (nI 1)) := PT_state ⟨fun a _ _ => hS a (by omega), congrFun hSI 75⟩ (fun _ _ z _ => z) e1
      obtain ⟨p2, p3⟩ := letS_PT (by omega) hk p1
      refine PT_state ⟨fun _ _ _ => rfl, rfl⟩ (fun j hj z hne => ?_) p2
      have : j ≠ k := fun q => hne (by rw [q]; exact p3)
      show decide (S1.1 12 j = nI 1) = true
      rw [h12 j this]; exact z
    · rw [t1.1 67 (by omega), hS 67 (by omega)]; exact f1
    · rw [t1.1 42 (by omega), hS 42 (by omega)]; exact g1
-- move
set_option maxHeartbeats 400000 in
theorem moveI (h : INV S X Y W H cap L N0 N1) (hk : k < 24) (hlr : lr = k % 2) (hg : S.1 12 k = nI lr) {x y : Nat} (hx : x ≤ 800) (hy : y ≤ 800) :
    (∃ N0', INV (moveS S 24 lr k (nI x) (nI y)) (fun j => if j = k then x else X j) (fun j => if j = k then y else Y j) W H cap L N0' N1) ∧ (moveS S 24 lr k (nI x) (nI y)).1 4 k = nI x ∧ (moveS S 24 lr k (nI x) (nI y)).1 12 k = nI lr := by
  obtain ⟨-, ⟨b1, b2⟩, -⟩ := id h
  have hb := bput_at (S := S) (b := 2) (n := 80) (i := k) (x := nI x) (y := nI y) (w := S.1 8 k) (h := S.1 10 k) (by omega) (by omega)
  have hn : ∀ j, j ≠ k → ∀ a, (bput S 2 80 (nI k) (nI x) (nI y) (S.1 8 k) (S.1 10 k)).1 a j = S.1 a j := fun j hj a => bput_ne (by omega) (by omega) hj a
  have ho : ∀ a, a ≠ 4 ∧ a ≠ 6 ∧ a ≠ 8 ∧ a ≠ 10 → (bput S 2 80 (nI k) (nI x) (nI y) (S.1 8 k) (S.1 10 k)).1 a = S.1 a := fun a ha => bput_oth (by omega)
  have hw := b2 k
  have hT : TR (bput S 2 80 (nI k) (nI x) (nI y) (S.1 8 k) (S.1 10 k)) 24 (fun j => if j = k then x else X j) (fun j => if j = k then y else Y j) W H := by
    intro j hj
    by_cases e : j = k
    · subst e
      obtain ⟨q1, q2, q3, q4⟩ := hb
      obtain ⟨e1, e2, e3, e4, -, -⟩ := b1 j hj
      show _ ∧ _ ∧ _ ∧ _ ∧ _ + W j ≤ 1023 ∧ _ + H j ≤ 1023
      simp only [if_pos]
      exact ⟨q1, q2, q3.trans e3, q4.trans e4, by omega, by omega⟩
    · show _ ∧ _ ∧ _ ∧ _ ∧ _ + W j ≤ 1023 ∧ _ + H j ≤ 1023
      rw [hn j e, hn j e, hn j e, hn j e]
      simp only [if_neg e]
      exact b1 j hj
  obtain ⟨r1, r2⟩ := keepC (S1 := bput S 2 80 (nI k) (nI x) (nI y) (S.1 8 k) (S.1 10 k)) h hk hlr (fun a ha => ho a (by omega)) rfl hT (fun j hj => hn j hj 12) (Or.inr (by rw [ho 12 (by omega), hg, hlr])) (fun j hj => ⟨if_neg hj, if_neg hj⟩)
  refine ⟨r1, ?_, ?_⟩
  · exact (congrFun (r2 4 (by omega)) k).trans hb.1
  · exact (congrFun (r2 12 (by omega)) k).trans ((congrFun (ho 12 (by omega)) k).trans hg)
-- remove
set_option maxHeartbeats 400000 in
theorem removeI (h : INV S X Y W H cap L N0 N1) (hk : k < 24) (hlr : lr = k % 2) (hg : S.1 12 k = nI lr) :
    (∃ N0', INV (remS S 24 lr k) X Y W H cap L N0' N1) ∧ (remS S 24 lr k).1 12 k = -1 ∧ cnt (inL (remS S 24 lr k) (nI lr)) 24 + 1 = cnt (inL S (nI lr)) 24 := by
  obtain ⟨-, ⟨b1, b2⟩, -⟩ := id h
  have e12 : (setR S 12 (rput (S.1 12) 80 (nI k) (-1))).1 12 = upd (S.1 12) k (-1) := by rw [setR_eq, rput_nI (show k < 80 by omega) (by decide)]
  have ho : ∀ a, a ≠ 12 → (setR S 12 (rput (S.1 12) 80 (nI k) (-1))).1 a = S.1 a := fun a ha => setR_ne ha
  have hT : TR (setR S 12 (rput (S.1 12) 80 (nI k) (-1))) 24 X Y W H := fun j hj => by
    rw [ho 4 (by omega), ho 6 (by omega), ho 8 (by omega), ho 10 (by omega)]; exact b1 j hj
  obtain ⟨r1, r2⟩ := keepC (S1 := setR S 12 (rput (S.1 12) 80 (nI k) (-1))) h hk hlr (fun a ha => ho a (by omega)) rfl hT (fun j hj => by rw [e12, upd_nq hj]) (Or.inl (by rw [e12, upd_at])) (fun _ _ => ⟨rfl, rfl⟩)
  have r12 : (remS S 24 lr k).1 12 = upd (S.1 12) k (-1) := (r2 12 (by omega)).trans e12
  refine ⟨r1, by rw [r12, upd_at], ?_⟩
  have hcn := cnt_upd (fun v => decide (v = nI lr)) (f := S.1 12) (k := k) (x := -1) 24 hk
  rw [hg, decide_eq_true (rfl : nI lr = nI lr), decide_eq_false (nI_m1 (show lr < 2 ^ 31 by omega))] at hcn
  have e1 : cnt (inL (remS S 24 lr k) (nI lr)) 24 = cnt (fun i => decide (upd (S.1 12) k (-1) i = nI lr)) 24 := cnt_cong fun j hj => by
    show decide ((remS S 24 lr k).1 12 j = nI lr) = _
    rw [r12]
  rw [e1]
  exact hcn
end IV
