/-! what calls that change keep -/
section KP
variable {S S' : St} {t c L N k : Nat} {p p' : Nat → Bool} {X Y W H : Nat → Nat}
def sameT (t : Nat) (S S' : St) : Prop := (∀ a, t < a → a < t + 24 → S'.1 a = S.1 a) ∧ S'.2.1 t = S.2.1 t
set_option maxHeartbeats 400000 in
theorem QF_state {cap : Nat} (h : sameT t S S') (q : QF S t c p X Y cap N) : QF S' t c p X Y cap N := by
  obtain ⟨lv, gx, gy, hm, fr, sp, ⟨h8, h9, h1⟩, q1, q2, q3, q4⟩ := q
  refine ⟨lv, gx, gy, hm, fr, sp, ⟨(congrFun h.2 8).trans h8, (congrFun h.2 9).trans h9, h1⟩, fun i hi => ?_, ⟨fun i hi => ?_, fun i hi => ?_⟩, ⟨fun k hk => ?_, q3.2.1, fun i hi hs => ?_, q3.2.2.2⟩, q4⟩
  · rw [h.1 (t + 11) (by omega) (by omega), h.1 (t + 3) (by omega) (by omega), h.1 (t + 5) (by omega) (by omega), h.1 (t + 7) (by omega) (by omega), h.1 (t + 9) (by omega) (by omega)]
    exact q1 i hi
  · rw [h.1 (t + 17) (by omega) (by omega)]; exact q2.1 i hi
  · rw [h.1 (t + 15) (by omega) (by omega), h.1 (t + 19) (by omega) (by omega)]; exact q2.2 i hi
  · rw [h.1 (t + 21) (by omega) (by omega)]; exact q3.1 k hk
  · rw [h.1 (t + 13) (by omega) (by omega)]; exact q3.2.2.1 i hi hs
set_option maxHeartbeats 400000 in
theorem PT_state (h : sameT t S S') (hp : ∀ k, k < c → p k = true → S.1 (t + 21) k ≠ -1 → p' k = true) (q : PT S t c L N p) : PT S' t c L N p' := by
  obtain ⟨q1, q2, q3, q4, q5, q6, q7⟩ := q
  refine ⟨(congrFun h.2 8).trans q1, q2, fun j hj => ?_, fun j hj => ?_, fun j h1 h2 => ?_, ?_, fun k hk => ?_⟩
  · have := q3 j hj
    unfold hdC at this ⊢
    rw [h.1 (t + 11) (by omega) (by omega), h.1 (t + 17) (by omega) (by omega), h.1 (t + 13) (by omega) (by omega), h.1 (t + 21) (by omega) (by omega)]
    exact this
  · exact bxE_row (fun a h1 h2 => by rw [h.1 a (by omega) (by omega)]) (q4 j hj)
  · rw [h.1 (t + 11) (by omega) (by omega)]; exact q5 j h1 h2
  · rw [h.1 (t + 17) (by omega) (by omega)]; exact q6
  · rw [h.1 (t + 21) (by omega) (by omega)]
    rcases q7 k hk with w | ⟨w1, j, w2, w3⟩
    · exact Or.inl w
    · exact Or.inr ⟨hp k hk w1 (by rw [w3]; exact fun z => nI_m1 (by omega) z.symm), j, w2, w3⟩
/-! a thing leaves its leaf -/
set_option maxHeartbeats 400000 in
theorem letS_cases (S : St) (t k : Nat) (hk : k < 80) : (S.1 (t + 21) k = -1 ∧ letS S t k = S) ∨ (S.1 (t + 21) k ≠ -1 ∧ letS S t k = setR (setR S (t + 13) (rput (S.1 (t + 13)) 1205 (S.1 (t + 21) k) (S.1 (t + 13) (S.1 (t + 21) k).toNatClampNeg + -1))) (t + 21) (upd (S.1 (t + 21)) k (-1))) := by
  have e : rat (tHm S t) 80 (nI k) = S.1 (t + 21) k := rat_nI hk (by decide)
  unfold letS
  rw [e]
  by_cases z : S.1 (t + 21) k = -1
  · exact Or.inl ⟨z, if_pos z⟩
  · refine Or.inr ⟨z, ?_⟩
    rw [if_neg z, rput_nI hk (by decide)]
set_option maxHeartbeats 400000 in
theorem letS_PT (hc : c ≤ 80) (hk : k < c) (h : PT S t c L N p) : PT (letS S t k) t c L N p ∧ (letS S t k).1 (t + 21) k = -1 := by
  rcases letS_cases S t k (by omega) with ⟨z, e⟩ | ⟨z, e⟩
  · rw [e]; exact ⟨h, z⟩
  · rw [e]
    obtain ⟨q1, q2, q3, q4, q5, q6, q7⟩ := h
    rcases q7 k hk with w | ⟨w1, j0, w2, w3⟩
    · exact absurd w z
    · rw [w3, nI_clamp (by omega), rput_nI (show j0 < 1205 by omega) (by decide)]
      refine ⟨⟨q1, q2, fun j hj => ?_, fun j hj => bxE_row (fun a _ _ => by rw [setR_ne (by omega), setR_ne (by omega)]) (q4 j hj), fun j h1 h2 => ?_, ?_, fun i hi => ?_⟩, by rw [setR_eq, upd_at]⟩
      · obtain ⟨a1, a2, a3⟩ := q3 j hj
        have hcn := cnt_upd (fun v => decide (v = nI j)) (f := S.1 (t + 21)) (k := k) (x := -1) c hk
        rw [w3, decide_eq_false (nI_m1 (show j < 2 ^ 31 by omega))] at hcn
        have e21 : hdC (setR (setR S (t + 13) (upd (S.1 (t + 13)) j0 (S.1 (t + 13) j0 + -1))) (t + 21) (upd (S.1 (t + 21)) k (-1))) t c j + bN (decide (nI j0 = nI j)) = hdC S t c j := by
          unfold hdC
          rw [setR_eq]
          exact hcn
        rw [setR_ne (show t + 11 ≠ t + 21 by omega), setR_ne (show t + 11 ≠ t + 13 by omega), setR_ne (show t + 17 ≠ t + 21 by omega), setR_ne (show t + 17 ≠ t + 13 by omega)]
        refine ⟨a1, a2, ?_⟩
        have hv : ∀ d : Nat, hdC S t c j = d + 1 → S.1 (t + 13) j + -1 = nI d := fun d hd => by
          rw [a3, hd, ← nI_pred d, Int32.sub_eq_add_neg]
        rw [setR_ne (show t + 13 ≠ t + 21 by omega), setR_eq]
        by_cases ej : j = j0
        · subst ej
          rw [upd_at]
          exact hv _ (by rw [← e21, decide_eq_true rfl]; rfl)
        · rw [upd_nq ej, a3, ← e21, decide_eq_false (fun z => ej ((nI_eq (by omega) (by omega)).mp z).symm)]; rfl
      · rw [setR_ne (by omega), setR_ne (by omega)]; exact q5 j h1 h2
      · rw [setR_ne (by omega), setR_ne (by omega)]; exact q6
      · rw [setR_eq]
        by_cases ei : i = k
        · subst ei; exact Or.inl upd_at
        · rw [upd_nq ei]; exact q7 i hi
set_option maxHeartbeats 400000 in
theorem letS_tch (hk : k < 80) : Tch t S (letS S t k) := by
  rcases letS_cases S t k hk with ⟨z, e⟩ | ⟨z, e⟩
  · rw [e]; exact Tch.rf _ _
  · rw [e]; exact ((Tch.rf _ _).sR (by omega)).sR (by omega)
/-! the leaves hold all that is not loose -/
set_option maxHeartbeats 400000 in
theorem held_sum (h : PT S t c L N p) : smN (hdC S t c) L + cnt (fun k => p k && decide (S.1 (t + 21) k = -1)) c = cnt p c := by
  obtain ⟨q1, q2, q3, q4, q5, q6, q7⟩ := h
  have e1 : smN (hdC S t c) L = cnt (fun k => p k && !decide (S.1 (t + 21) k = -1)) c := by
    unfold hdC
    rw [cnt_swap (fun j k => decide (S.1 (t + 21) k = nI j)) L c, cnt_smN]
    refine smN_cong fun k hk => ?_
    rcases q7 k hk with w | ⟨w1, j0, w2, w3⟩
    · rw [w, cnt_0 L (fun j hj => decide_eq_false (nI_m1 (by omega)))]
      rw [decide_eq_true (rfl : (-1 : Int32) = -1)]
      cases p k <;> rfl
    · rw [w3, w1, decide_eq_false (p := nI j0 = -1) (fun z => nI_m1 (by omega) z.symm)]
      show cnt _ L = 1
      have h1 := cnt_mem (p := fun j => decide (nI j0 = nI j)) (k := j0) (decide_eq_true rfl) L w2
      have h2 := cnt_one (p := fun j => decide (nI j0 = nI j)) L fun a b ha hb z1 z2 => (nI_eq (by omega) (by omega)).mp ((of_decide_eq_true z1).symm.trans (of_decide_eq_true z2))
      omega
  rw [e1]
  clear e1 q1 q2 q3 q4 q5 q6 q7
  induction c with
  | zero => rfl
  | succ c ih =>
    rw [cnt_succ, cnt_succ, cnt_succ]
    have : bN (p c && !decide (S.1 (t + 21) c = -1)) + bN (p c && decide (S.1 (t + 21) c = -1)) = bN (p c) := by
      cases p c <;> cases decide (S.1 (t + 21) c = -1) <;> rfl
    omega
set_option maxHeartbeats 400000 in
theorem lev_L (h : PT S t c L N p) : cnt (onLv S t 0) N = L := by
  obtain ⟨q1, q2, q3, q4, q5, q6, q7⟩ := h
  have e : cnt (onLv S t 0) N = cnt (fun j => decide (j < L) && true) N := cnt_cong fun j hj => by
    show decide (S.1 (t + 11) j = 0) = (decide (j < L) && true)
    rw [Bool.and_true]
    rcases Nat.lt_or_ge j L with w | w
    · rw [(q3 j w).1, decide_eq_true rfl, decide_eq_true w]
    · obtain ⟨v, v1, v2, v3⟩ := q5 j w hj
      rw [v3, decide_eq_false (nI_ne0 (by omega) (by omega)), decide_eq_false (by omega)]
  rw [e, cnt_lt (p := fun _ => true) N q2.1]
  exact cnt_all L fun _ _ => rfl
set_option maxHeartbeats 400000 in
theorem PT_box (h : PT S t c L N p) : BXN S t N := fun i hi => by
  obtain ⟨x, y, w, h', q1, q2, e1, e2, e3, e4⟩ := h.2.2.2.1 i hi
  exact ⟨x, y, w, h', by omega, by omega, by omega, by omega, e1, e2, e3, e4⟩
/-! what lies within a box -/
set_option maxHeartbeats 400000 in
theorem in_mono (hT : TR S c X Y W H) (hc : c ≤ 80) {q : Nat → Bool} {x y w w' : Nat} (hx : x ≤ 1023) (hy : y ≤ 1023) (hw : w' ≤ 1023) (h : w ≤ w') : cnt (fun k => q k && decide (bfar S 2 80 (nI k) (nI x) (nI y) (nI w) (nI w) = 0)) c ≤ cnt (fun k => q k && decide (bfar S 2 80 (nI k) (nI x) (nI y) (nI w') (nI w') = 0)) c := by
  refine cnt_sub fun k hk z => ?_
  simp only [Bool.and_eq_true, decide_eq_true_eq] at z ⊢
  refine ⟨z.1, ?_⟩
  have z2 := z.2
  have b := (hT k hk).2.2.2.2
  rw [tr_bfar hT hc hk (by omega) (by omega) (by omega) (by omega)] at z2 ⊢
  have b1 : farN (X k) (Y k) (W k) (H k) x y w w ≤ 2 * (1023 * 1023) := farN_le (by omega) (by omega) hx hy
  have b2 := farN_mono (x := X k) (y := Y k) (w := W k) (h := H k) (x' := x) (y' := y) h h
  have z3 := (nI_eq (b := 0) (by omega) (by decide)).mp z2
  rw [show farN (X k) (Y k) (W k) (H k) x y w' w' = 0 by omega]
  rfl
set_option maxHeartbeats 400000 in
theorem in_all (hT : TR S c X Y W H) (hc : c ≤ 80) {q : Nat → Bool} : cnt (fun k => q k && decide (bfar S 2 80 (nI k) (nI 0) (nI 0) (nI 1023) (nI 1023) = 0)) c = cnt q c := by
  refine cnt_cong fun k hk => ?_
  show (q k && decide (bfar S 2 80 (nI k) (nI 0) (nI 0) (nI 1023) (nI 1023) = 0)) = q k
  have b := (hT k hk).2.2.2.2
  rw [tr_bfar hT hc hk (by omega) (by omega) (by omega) (by omega), show farN (X k) (Y k) (W k) (H k) 0 0 1023 1023 = 0 by
    have e1 : gapN (X k) (W k) 0 1023 = 0 := by unfold gapN; omega
    have e2 : gapN (Y k) (H k) 0 1023 = 0 := by unfold gapN; omega
    unfold farN
    rw [e1, e2], decide_eq_true nI_0, Bool.and_true]
set_option maxHeartbeats 400000 in
theorem in_le {q r : Nat → Bool} : cnt (fun k => q k && r k) c ≤ cnt q c := cnt_sub fun k _ z => by
  simp only [Bool.and_eq_true] at z
  exact z.1
set_option maxHeartbeats 400000 in
theorem TR_pos (hT : TR S c X Y W H) : posR S c X Y := fun k hk => by
  obtain ⟨e1, e2, e3, e4, b1, b2⟩ := hT k hk
  exact ⟨e1, e2, by omega, by omega⟩
end KP
