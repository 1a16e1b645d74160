/-! the tree of quarters: what the law asks of it -/
def QN (p : Nat → Bool) (X Y : Nat → Nat) (c cap : Nat) : Nat := 1 + 4 * smN (fun l => cnt (fun k => p k && (decide (cap < ccN p X Y c l k) && fsN p X Y l k)) c) 10
set_option maxHeartbeats 400000 in
theorem QN_mono {p : Nat → Bool} {X Y : Nat → Nat} {c cap cap' : Nat} (h : cap ≤ cap') : QN p X Y c cap' ≤ QN p X Y c cap := by
  unfold QN
  have := smN_le (n := 10) (g := fun l => cnt (fun k => p k && (decide (cap' < ccN p X Y c l k) && fsN p X Y l k)) c) (g' := fun l => cnt (fun k => p k && (decide (cap < ccN p X Y c l k) && fsN p X Y l k)) c) fun l _ => cnt_sub fun k hk q => by
    simp only [Bool.and_eq_true, decide_eq_true_eq] at q ⊢
    exact ⟨q.1, by omega, q.2.2⟩
  omega
set_option maxHeartbeats 400000 in
theorem QN_le {p : Nat → Bool} {X Y : Nat → Nat} {c cap : Nat} : QN p X Y c cap ≤ 1 + 40 * c := by
  have : smN (fun l => cnt (fun k => p k && (decide (cap < ccN p X Y c l k) && fsN p X Y l k)) c) 10 ≤ smN (fun _ => c) 10 := smN_le fun l _ => cnt_le _ c
  have e : smN (fun _ => c) 10 = 10 * c := by simp only [smN]; omega
  unfold QN
  omega
set_option maxHeartbeats 400000 in
theorem dv_le {a b l m : Nat} (h : l ≤ m) (hm : m ≤ 10) (e : a / 2 ^ (10 - m) = b / 2 ^ (10 - m)) : a / 2 ^ (10 - l) = b / 2 ^ (10 - l) := by
  rw [show 10 - l = (10 - m) + (m - l) by omega, Nat.pow_add, ← Nat.div_div_eq_div_mul, ← Nat.div_div_eq_div_mul, e]
set_option maxHeartbeats 400000 in
theorem cc_le {p : Nat → Bool} {X Y : Nat → Nat} {c l m k : Nat} (h : l ≤ m) (hm : m ≤ 10) : ccN p X Y c m k ≤ ccN p X Y c l k := cnt_sub fun j hj q => by
  unfold smR at q ⊢
  simp only [Bool.and_eq_true, decide_eq_true_eq] at q ⊢
  exact ⟨q.1, dv_le h hm q.2.1, dv_le h hm q.2.2⟩
section QU
variable {S : St} {t c : Nat} {p : Nat → Bool} {X Y : Nat → Nat} {cap N : Nat}
set_option maxHeartbeats 400000 in
theorem QF_N (h : QF S t c p X Y cap N) : tN S t = nI (QN p X Y c cap) ∧ N = QN p X Y c cap := by
  obtain ⟨lv, gx, gy, hm, fr, sp, ⟨h8, h9, h1⟩, q1, q2, q3, q4⟩ := h
  have key : N = QN p X Y c cap := by
    rw [q4.2.1]
    unfold QN
    congr 2
    refine smN_cong fun l hl => cnt_cong fun k hk => ?_
    show (p k && (decide (l < lv (hm k)) && fsN p X Y l k)) = (p k && (decide (cap < ccN p X Y c l k) && fsN p X Y l k))
    cases hp : p k with
    | false => rfl
    | true =>
      congr 2
      apply decide_eq_decide.mpr
      constructor
      · exact fun z => q4.1 k hk hp l z
      · intro z
        rcases Nat.lt_or_ge l (lv (hm k)) with w | w
        · exact w
        · exfalso
          obtain ⟨u1, u2, u3, -⟩ := q3.2.1 k hk hp
          have e1 := cc_le (p := p) (X := X) (Y := Y) (c := c) (k := k) w (by omega)
          have e2 := cc_hm (fun k hk hp => ⟨(q3.2.1 k hk hp).1, (q3.2.1 k hk hp).2.1, (q3.2.1 k hk hp).2.2.1⟩) q3.2.2.2 (Nat.le_refl c) u1 u2 hk hp rfl
          have e3 : ccN p X Y c (lv (hm k)) k = hmC p hm c (hm k) := e2
          exact q4.2.2 (hm k) u1 u1 u2 ⟨by omega, by omega⟩
  exact ⟨key ▸ h8, key⟩
set_option maxHeartbeats 400000 in
theorem dsc_pth {lv gx gy fr : Nat → Nat} {sp : Nat → Bool} (hN : N ≤ 1205) (q1 : QI1 S t N lv gx gy) (q2 : QI2 S t N N lv gx gy fr sp) {x y b : Nat} (hx : x ≤ 1023) (hy : y ≤ 1023) (hb : b < N) (hbs : sp b = false) : ∀ f F a, f ≤ F → a < N → inR lv gx gy a x y → pthG sp fr lv x y f a b → dsc S t (nI x) (nI y) F (nI a) = nI b := by
  intro f
  induction f with
  | zero =>
    intro F a hF ha hr hp
    cases hp
    cases F with
    | zero => rfl
    | succ F =>
      have hv : rat (tCt S t) 1205 (nI b) = 0 := by
        rw [show rat (tCt S t) 1205 (nI b) = if sp b = true then 4 else 0 from (rat_nI (by omega) (by decide)).trans (q2.1 b ha), hbs]
        rfl
      have hl : leafI S t (nI b) = 1 := by
        unfold leafI
        rw [hv, if_pos rfl]
      unfold dsc
      rw [hl, if_neg (by decide)]
  | succ f ih =>
    intro F a hF ha hr hp
    obtain ⟨F, rfl⟩ : ∃ G, F = G + 1 := ⟨F - 1, by omega⟩
    obtain ⟨u1, u2, u3, u4, u5, u6⟩ := q2.2 a hp.1
    obtain ⟨v1, v2, v3, v4, v5, v6, v7, v8⟩ := q1 a ha
    have he := eN_lt (lv a) x y
    obtain ⟨w1, w2, w3, w4⟩ := u6 _ he
    have hl : leafI S t (nI a) = 0 := by
      unfold leafI
      rw [show rat (tCt S t) 1205 (nI a) = if sp a = true then 4 else 0 from (rat_nI (by omega) (by decide)).trans (q2.1 a ha), hp.1, if_pos rfl, if_neg (by decide)]
    have hq : qtr S t (nI a) (nI x) (nI y) = nI (eN (lv a) x y) := qtr_nI u3 (by omega) v3 v4 v5 hx hy hr.1 hr.2
    have hbel : belV S t (nI a) (nI (eN (lv a) x y)) = nI (fr a + eN (lv a) x y) := by
      unfold belV
      rw [show rat (tFr S t) 1205 (nI a) = nI (fr a) from (rat_nI (by omega) (by decide)).trans u4, nI_add, rat_nI (show fr a + eN (lv a) x y < 1205 by omega) (by decide)]
      exact w1
    unfold dsc
    rw [hl, if_pos rfl, hq, hbel]
    refine ih F _ (by omega) (by omega) ?_ hp.2
    unfold inR
    rw [w2, w3, w4, show 10 - (lv a + 1) = 9 - lv a by omega, (eN_mod _ _ _).1, (eN_mod _ _ _).2]
    exact ⟨(bit_lt u3 hr.1).2, (bit_lt u3 hr.2).2⟩
set_option maxHeartbeats 400000 in
theorem QF_leaf (h : QF S t c p X Y cap N) (hc : c ≤ 29) {k : Nat} (hk : k < c) (hp : p k = true) (hx : X k ≤ 1023) (hy : Y k ≤ 1023) : ∃ m, 1 ≤ m ∧ m ≤ c ∧ rat (tHd S t) 1205 (dsc S t (nI (X k)) (nI (Y k)) 11 (tR S t)) = nI m := by
  have hNs := (qx_small h).1
  obtain ⟨lv, gx, gy, hm, fr, sp, ⟨h8, h9, h1⟩, q1, q2, q3, q4⟩ := h
  obtain ⟨u1, u2, u3, u4⟩ := q3.2.1 k hk hp
  have h00 : pthG sp fr lv (X k) (Y k) (lv (hm k)) 0 (hm k) := u4
  have hl := (q1 (hm k) u1).1
  have hr0 : inR lv gx gy 0 (X k) (Y k) := by
    obtain ⟨v1, v2, v3, v4, v5, v6, v7, v8⟩ := q1 0 (by omega)
    -- the root is the whole map, or is a leaf in which all lie
    cases hs : sp 0 with
    | false =>
      have : hm k = 0 := by
        generalize lv (hm k) = f at h00
        cases f with
        | zero => exact h00.symm
        | succ f => have := h00.1; rw [hs] at this; cases this
      rw [this] at u3; exact u3
    | true =>
      have key : ∀ f a b, pthG sp fr lv (X k) (Y k) f a b → a < N → inR lv gx gy b (X k) (Y k) → inR lv gx gy a (X k) (Y k) := by
        intro f
        induction f with
        | zero => intro a b q ha hb; cases q; exact hb
        | succ f ih =>
          intro a b q ha hb
          obtain ⟨w1, w2, w3, w4, w5, w6⟩ := q2.2 a q.1
          have he := eN_lt (lv a) (X k) (Y k)
          obtain ⟨z1, z2, z3, z4⟩ := w6 _ he
          have r := ih _ b q.2 (by omega) hb
          unfold inR at r ⊢
          rw [z2, z3, z4, show 10 - (lv a + 1) = 9 - lv a by omega, (eN_mod _ _ _).1, (eN_mod _ _ _).2] at r
          rw [dv2 w3, dv2 w3]
          omega
      exact key _ _ _ h00 (by omega) u3
  refine ⟨hmC p hm c (hm k), ?_, cnt_le _ _, ?_⟩
  · exact cnt_mem (p := fun j => p j && decide (hm j = hm k)) (k := k) (by show (p k && decide (hm k = hm k)) = true; rw [hp, decide_eq_true rfl]; rfl) c hk
  · rw [show tR S t = nI 0 from h9, dsc_pth (by omega) q1 q2 hx hy u1 u2 _ 11 0 (by omega) (by omega) hr0 h00, rat_nI (show hm k < 1205 by omega) (by decide)]
    exact q3.2.2.1 (hm k) u1 u2
-- the boxes of the nodes are naturals
def BXN (S : St) (t N : Nat) : Prop := ∀ i, i < N → ∃ x y w h, x ≤ 1023 ∧ y ≤ 1023 ∧ w ≤ 1023 ∧ h ≤ 1023 ∧ S.1 (t + 3) i = nI x ∧ S.1 (t + 5) i = nI y ∧ S.1 (t + 7) i = nI w ∧ S.1 (t + 9) i = nI h
set_option maxHeartbeats 400000 in
theorem QF_box (h : QF S t c p X Y cap N) : BXN S t N := by
  obtain ⟨lv, gx, gy, hm, fr, sp, h1, q1, -⟩ := h
  intro i hi
  obtain ⟨v1, v2, v3, v4, v5, v6, v7, v8⟩ := q1 i hi
  have hp : 2 ^ (lv i) * 2 ^ (10 - lv i) = 1024 := by rw [← Nat.pow_add, show lv i + (10 - lv i) = 10 by omega]
  have h1 := Nat.one_le_two_pow (n := 10 - lv i)
  have h2 : 2 ^ (10 - lv i) ≤ 1024 := by rcases pw_le (l := 10 - lv i) with q | q <;> omega
  have a1 : (gx i + 1) * 2 ^ (10 - lv i) ≤ 2 ^ (lv i) * 2 ^ (10 - lv i) := Nat.mul_le_mul_right _ (by omega)
  have a2 : (gy i + 1) * 2 ^ (10 - lv i) ≤ 2 ^ (lv i) * 2 ^ (10 - lv i) := Nat.mul_le_mul_right _ (by omega)
  rw [Nat.add_mul] at a1 a2
  exact ⟨_, _, _, _, by omega, by omega, by omega, by omega, v3, v4, v5, v6⟩
-- what is seen within w is seen within more
set_option maxHeartbeats 400000 in
theorem vis_mono {S : St} {t N x y w w' : Nat} (hb : BXN S t N) (hN : N ≤ 1205) (hx : x ≤ 1023) (hy : y ≤ 1023) (hw : w' ≤ 1023) (h : w ≤ w') : cnt (visP S t (nI x) (nI y) (nI w) (nI w) 0) N ≤ cnt (visP S t (nI x) (nI y) (nI w') (nI w') 0) N := by
  refine cnt_sub fun k hk q => ?_
  obtain ⟨a, b, u, v, h1, h2, h3, h4, e1, e2, e3, e4⟩ := hb k hk
  have key : ∀ z, z ≤ 1023 → bfar S (t + 1) 1205 (nI k) (nI x) (nI y) (nI z) (nI z) = nI (farN a b u v x y z z) := fun z hz => by
    show ffar (rat (S.1 (t + 3)) 1205 (nI k)) (rat (S.1 (t + 5)) 1205 (nI k)) (rat (S.1 (t + 7)) 1205 (nI k)) (rat (S.1 (t + 9)) 1205 (nI k)) (nI x) (nI y) (nI z) (nI z) = _
    rw [rat_nI (f := S.1 (t + 3)) (show k < 1205 by omega) (by decide), rat_nI (f := S.1 (t + 5)) (show k < 1205 by omega) (by decide), rat_nI (f := S.1 (t + 7)) (show k < 1205 by omega) (by decide), rat_nI (f := S.1 (t + 9)) (show k < 1205 by omega) (by decide), e1, e2, e3, e4]
    exact ffar_nI (by omega) (by omega) (by omega) (by omega) (by omega) (by omega) (by omega) (by omega)
  unfold visP at q ⊢
  rw [key w (by omega), decide_eq_true_eq] at q
  rw [key w' hw, decide_eq_true_eq]
  have hm := farN_mono (x := a) (y := b) (w := u) (h := v) (x' := x) (y' := y) h h
  have hq : farN a b u v x y w w ≤ 2 * (1023 * 1023) := farN_le (by omega) (by omega) (by omega) (by omega)
  exact Int32.le_trans (nI_le hm (by omega)) q
end QU
