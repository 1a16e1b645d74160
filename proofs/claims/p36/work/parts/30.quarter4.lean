/-! the tree of quarters: from the start to the end -/
section QL
variable {S : St} {t c : Nat} {p : Nat → Bool} {X Y : Nat → Nat} {cap N sq : Nat} {lv gx gy hm fr : Nat → Nat} {sp : Nat → Bool}
def QX (S : St) (t c : Nat) (p : Nat → Bool) (X Y : Nat → Nat) (cap sq N : Nat) : Prop := ∃ lv gx gy hm fr sp, QI S t c p X Y cap N sq lv gx gy hm fr sp
def posR (S : St) (c : Nat) (X Y : Nat → Nat) : Prop := ∀ k, k < c → S.1 4 k = nI (X k) ∧ S.1 6 k = nI (Y k) ∧ X k ≤ 1023 ∧ Y k ≤ 1023
set_option maxHeartbeats 800000 in
theorem qx_step (ht : 12 < t) (hc : c ≤ 29) (hX : posR S c X Y) (hcap : cap < 2 ^ 31) (hsq : sq < N) (h : QX S t c p X Y cap sq N) : ∃ N', QX (gStep S t c (nI cap) sq) t c p X Y cap (sq + 1) N' := by
  obtain ⟨lv, gx, gy, hm, fr, sp, h⟩ := h
  have hh := h
  obtain ⟨⟨hN, hR, h1N⟩, q1, q2, q3, q4⟩ := hh
  have hNs := qi_small q4
  have hss : sp sq = false := by
    cases z : sp sq with
    | false => rfl
    | true => exact absurd (q2.2 sq z).1 (by omega)
  have hmc : hmC p hm c sq ≤ c := cnt_le _ _
  have e1 : rat (tHd S t) 1205 (nI sq) = nI (hmC p hm c sq) := (rat_nI (by omega) (by decide)).trans (q3.2.2.1 sq hsq hss)
  obtain ⟨v1, -, -, -, v5, -, -, -⟩ := q1 sq hsq
  have e2 : halfV S t (nI sq) = if lv sq ≤ 9 then nI (2 ^ (9 - lv sq)) else 0 := by
    unfold halfV
    rw [show bW S (t + 1) 1205 (nI sq) = nI (2 ^ (10 - lv sq) - 1) from (rat_nI (by omega) (by decide)).trans v5]
    by_cases z : lv sq ≤ 9
    · rw [if_pos z]; exact half_nI z
    · rw [if_neg z, show lv sq = 10 by omega]; decide
  have e3 : (0 < halfV S t (nI sq)) ↔ lv sq ≤ 9 := by
    rw [e2]
    by_cases z : lv sq ≤ 9
    · rw [if_pos z]
      have h0 : 2 ^ (9 - lv sq) ≤ 1024 := by rcases pw_le (l := 9 - lv sq) with q | q <;> omega
      have h1 := Nat.one_le_two_pow (n := 9 - lv sq)
      exact ⟨fun _ => z, fun _ => by rw [show (0 : Int32) = nI 0 from nI_0.symm]; exact nI_lt (by omega) (by omega)⟩
    · rw [if_neg z]
      exact ⟨fun q => absurd q (by decide), fun q => absurd q z⟩
  unfold gStep
  rw [e1]
  by_cases z : nI cap < nI (hmC p hm c sq) ∧ 0 < halfV S t (nI sq)
  · rw [if_pos z]
    exact ⟨N + 4, _, _, _, _, _, _, qi_cut ht hc hX h hsq ((nI_ltI hcap (by omega)).mp z.1) (e3.mp z.2)⟩
  · rw [if_neg z]
    refine ⟨N, lv, gx, gy, hm, fr, sp, ⟨hN, hR, h1N⟩, q1, ⟨q2.1, fun i hi => ?_⟩, q3, q4.1, q4.2.1, fun i hi h2 h3 => ?_⟩
    · obtain ⟨u1, u2⟩ := q2.2 i hi
      exact ⟨by omega, u2⟩
    · by_cases e : i = sq
      · subst e
        intro w
        exact z ⟨(nI_ltI hcap (by omega)).mpr w.1, e3.mpr w.2⟩
      · exact q4.2.2 i (by omega) h2 h3
def QF (S : St) (t c : Nat) (p : Nat → Bool) (X Y : Nat → Nat) (cap N : Nat) : Prop := QX S t c p X Y cap N N
set_option maxHeartbeats 800000 in
theorem qx_small (h : QX S t c p X Y cap sq N) : N ≤ 1 + 40 * c ∧ tN S t = nI N := by
  obtain ⟨lv, gx, gy, hm, fr, sp, h⟩ := h
  exact ⟨qi_small h.2.2.2.2, h.1.1⟩
set_option maxHeartbeats 800000 in
theorem qx_end (hs : N ≤ sq) (h : QX S t c p X Y cap sq N) : QF S t c p X Y cap N := by
  obtain ⟨lv, gx, gy, hm, fr, sp, h1, q1, q2, q3, q4⟩ := h
  refine ⟨lv, gx, gy, hm, fr, sp, h1, q1, ⟨q2.1, fun i hi => ?_⟩, q3, q4.1, q4.2.1, fun i hi h2 h3 => q4.2.2 i (by omega) h2 h3⟩
  obtain ⟨u1, u2, u3⟩ := q2.2 i hi
  exact ⟨u2, u2, u3⟩
set_option maxHeartbeats 800000 in
theorem tch_pos (ht : 12 < t) {S' : St} (h : Tch t S S') (hX : posR S c X Y) : posR S' c X Y := fun k hk => by
  rw [h.1 4 (by omega), h.1 6 (by omega)]
  exact hX k hk
set_option maxHeartbeats 800000 in
theorem gRun_QF (ht : 12 < t) (hc : c ≤ 29) (hcap : cap < 2 ^ 31) : ∀ f sq (S : St) N, posR S c X Y → f + sq = 1205 → QX S t c p X Y cap sq N → ∃ N', QF (gRun S t c (nI cap) f sq) t c p X Y cap N' := by
  intro f
  induction f with
  | zero =>
    intro sq S N hX hf h
    have := qx_small h
    exact ⟨N, qx_end (by omega) h⟩
  | succ f ih =>
    intro sq S N hX hf h
    have hs := qx_small h
    unfold gRun
    rw [hs.2]
    by_cases z : nI sq < nI N
    · rw [if_pos z]
      have hsq : sq < N := by
        rcases Nat.lt_or_ge sq N with q | q
        · exact q
        · exact absurd z (nI_nlt q (by omega))
      obtain ⟨N', h'⟩ := qx_step ht hc hX hcap hsq h
      refine ih (sq + 1) _ N' ?_ (by omega) h'
      refine tch_pos ht (t := t) ?_ hX
      unfold gStep
      split
      · exact t_splS (Tch.rf _ _)
      · exact Tch.rf _ _
    · rw [if_neg z]
      refine ⟨N, qx_end ?_ h⟩
      rcases Nat.lt_or_ge sq N with q | q
      · exact absurd (nI_lt q (by omega)) z
      · exact q
/-! the start -/
def rE (S R : St) (t k : Nat) (p : Nat → Bool) : Prop := (∀ b, R.2.1 b = S.2.1 b) ∧ (∀ a, a ≠ t + 13 → a ≠ t + 21 → R.1 a = S.1 a) ∧ (∀ j, R.1 (t + 21) j = if j < k ∧ p j = true then 0 else S.1 (t + 21) j) ∧ R.1 (t + 13) 0 = S.1 (t + 13) 0 + nI (cnt p k)
set_option maxHeartbeats 800000 in
theorem rRun_eff {layer : Int32} (ht : 12 < t) (hR : tR S t = 0) : ∀ k, k ≤ 80 → rE S (rRun S t layer k) t k (inL S layer) := by
  intro k
  induction k with
  | zero => intro _; exact ⟨fun _ => rfl, fun _ _ _ => rfl, fun j => (if_neg (by omega)).symm, by rw [cnt, nI_0, Int32.add_zero]; rfl⟩
  | succ k ih =>
    intro hk
    obtain ⟨a1, a2, a3, a4⟩ := ih (by omega)
    have e12 : inL (rRun S t layer k) layer k = inL S layer k := by
      show decide ((rRun S t layer k).1 12 k = layer) = _
      rw [a2 12 (by omega) (by omega)]
    show rE S (rStep (rRun S t layer k) t layer k) t (k + 1) (inL S layer)
    unfold rStep
    by_cases z : isin (rRun S t layer k) (nI k) layer = 0
    · have hp := isin_f (by omega) z
      rw [e12] at hp
      rw [if_pos z]
      refine ⟨a1, a2, fun j => ?_, by rw [a4, cnt_f hp]⟩
      rw [a3 j]
      by_cases w : j < k ∧ inL S layer j = true
      · rw [if_pos w, if_pos ⟨by omega, w.2⟩]
      · have w3 : ¬ (j < k + 1 ∧ inL S layer j = true) := by
          intro w2
          refine w ⟨?_, w2.2⟩
          rcases Nat.lt_or_ge j k with g | g
          · exact g
          · have w4 := w2.2
            rw [show j = k by omega, hp] at w4
            cases w4
        rw [if_neg w, if_neg w3]
    · have hp := isin_t (by omega) z
      rw [e12] at hp
      rw [if_neg z]
      have hR2 : tR (rRun S t layer k) t = 0 := (congrFun (a1 t) 9).trans hR
      rw [hR2]
      refine ⟨a1, fun a n1 n2 => ?_, fun j => ?_, ?_⟩
      · show (setR (setR _ _ _) _ _).1 a = _
        rw [setR_ne n1, setR_ne n2]
        exact a2 a n1 n2
      · show (setR (setR _ _ _) _ _).1 (t + 21) j = _
        rw [setR_ne (by omega), setR_eq, rput_nI (show k < 80 by omega) (by decide)]
        by_cases ek : j = k
        · subst ek; rw [upd_at, if_pos ⟨by omega, hp⟩]
        · rw [upd_nq ek]
          show (rRun S t layer k).1 (t + 21) j = _
          rw [a3 j]
          by_cases w : j < k ∧ inL S layer j = true
          · rw [if_pos w, if_pos ⟨by omega, w.2⟩]
          · rw [if_neg w, if_neg (fun w2 => w ⟨by omega, w2.2⟩)]
      · show (setR (setR _ _ _) _ _).1 (t + 13) 0 = _
        rw [setR_eq, show (0 : Int32) = nI 0 from nI_0.symm, rput_nI (show 0 < 1205 by omega) (by decide), upd_at]
        show (rRun S t layer k).1 (t + 13) 0 + 1 = _
        rw [a4, cnt_t hp, Int32.add_assoc, nI_1]
set_option maxHeartbeats 800000 in
theorem seed_QX {layer : Int32} (ht : 12 < t) (hc : c ≤ 29) (hX : posR S c X Y) : QX (rRun (seedS S t) t layer c) t c (inL S layer) X Y cap 0 1 := by
  have tch : Tch t S (seedS S t) := t_seedS (Tch.rf _ _)
  have e8 : tN (fellS S t) t = 0 := by
    show va_up (va_up S.2.1 t (va_up (S.2.1 t) 8 0)) t (va_up ((va_up S.2.1 t (va_up (S.2.1 t) 8 0)) t) 9 0) t 8 = 0
    simp [va_up]
  have i8 : tN (seedS S t) t = 1 := by
    show tN (setI (addNS (fellS S t) t 0) t 9 (tN (fellS S t) t)) t = 1
    show va_up (addNS (fellS S t) t 0).2.1 t (va_up ((addNS (fellS S t) t 0).2.1 t) 9 _) t 8 = 1
    unfold va_up
    rw [if_pos rfl, if_neg (by decide)]
    show va_up (fellS S t).2.1 t (va_up ((fellS S t).2.1 t) 8 (tN (fellS S t) t + 1)) t 8 = 1
    unfold va_up
    rw [if_pos rfl, if_pos rfl, e8]
    decide
  have i9 : tR (seedS S t) t = 0 := by
    show va_up (addNS (fellS S t) t 0).2.1 t (va_up ((addNS (fellS S t) t 0).2.1 t) 9 (tN (fellS S t) t)) t 9 = 0
    unfold va_up
    rw [if_pos rfl, if_pos rfl, e8]
  have ex : seedS S t = setR (setR (setR (setR (setI (setI (setR (setR (setR (fellS S t) (t + 11) (upd (tLv (fellS S t) t) 0 0)) (t + 13) (upd (tHd (fellS S t) t) 0 0)) (t + 17) (upd (tCt (fellS S t) t) 0 0)) t 8 (0 + 1)) t 9 0) (t + 3) (upd ((addNS (fellS S t) t 0).1 (t + 3)) 0 0)) (t + 5) (upd ((addNS (fellS S t) t 0).1 (t + 5)) 0 0)) (t + 7) (upd ((addNS (fellS S t) t 0).1 (t + 7)) 0 1023)) (t + 9) (upd ((addNS (fellS S t) t 0).1 (t + 9)) 0 1023) := by
    have hr : ∀ (f : Nat → Int32) (x : Int32), rput f 1205 0 x = upd f 0 x := fun f x => rput_nI (k := 0) (by omega) (by decide)
    have h9 : tR (setI (addNS (fellS S t) t 0) t 9 (tN (fellS S t) t)) t = 0 := i9
    unfold seedS
    show bput (setI (addNS (fellS S t) t 0) t 9 (tN (fellS S t) t)) (t + 1) 1205 (tR (setI (addNS (fellS S t) t 0) t 9 (tN (fellS S t) t)) t) 0 0 1023 1023 = _
    rw [h9, e8]
    unfold bput addNS
    rw [e8, hr, hr, hr, hr, hr, hr, hr]
    rfl
  obtain ⟨a1, a2, a3, a4⟩ := rRun_eff (S := seedS S t) (layer := layer) ht i9 c (by omega)
  have e12 : inL (seedS S t) layer = inL S layer := by
    funext k
    show decide ((seedS S t).1 12 k = layer) = _
    rw [tch.1 12 (by omega)]
  rw [e12] at a3 a4
  have s11 : (seedS S t).1 (t + 11) 0 = 0 := by
    rw [ex, setR_ne (by omega), setR_ne (by omega), setR_ne (by omega), setR_ne (by omega)]
    show (setR (setR (setR _ _ _) _ _) _ _).1 (t + 11) 0 = 0
    rw [setR_ne (by omega), setR_ne (by omega), setR_eq, upd_at]
  have s13 : (seedS S t).1 (t + 13) 0 = 0 := by
    rw [ex, setR_ne (by omega), setR_ne (by omega), setR_ne (by omega), setR_ne (by omega)]
    show (setR (setR (setR _ _ _) _ _) _ _).1 (t + 13) 0 = 0
    rw [setR_ne (by omega), setR_eq, upd_at]
  have s17 : (seedS S t).1 (t + 17) 0 = 0 := by
    rw [ex, setR_ne (by omega), setR_ne (by omega), setR_ne (by omega), setR_ne (by omega)]
    show (setR (setR (setR _ _ _) _ _) _ _).1 (t + 17) 0 = 0
    rw [setR_eq, upd_at]
  have s3 : (seedS S t).1 (t + 3) 0 = 0 := by rw [ex, setR_ne (by omega), setR_ne (by omega), setR_ne (by omega), setR_eq, upd_at]
  have s5 : (seedS S t).1 (t + 5) 0 = 0 := by rw [ex, setR_ne (by omega), setR_ne (by omega), setR_eq, upd_at]
  have s7 : (seedS S t).1 (t + 7) 0 = 1023 := by rw [ex, setR_ne (by omega), setR_eq, upd_at]
  have s9 : (seedS S t).1 (t + 9) 0 = 1023 := by rw [ex, setR_eq, upd_at]
  have s21 : (seedS S t).1 (t + 21) = rfil (tHm S t) 80 (-1) 0 := by
    rw [ex, setR_ne (by omega), setR_ne (by omega), setR_ne (by omega), setR_ne (by omega)]
    show (setR (setR (setR _ _ _) _ _) _ _).1 (t + 21) = _
    rw [setR_ne (by omega), setR_ne (by omega), setR_ne (by omega)]
    show (setR _ _ _).1 (t + 21) = _
    rw [setR_eq]
  refine ⟨fun _ => 0, fun _ => 0, fun _ => 0, fun _ => 0, fun _ => 0, fun _ => false, ⟨?_, ?_, by omega⟩, fun i hi => ?_, ⟨fun i hi => ?_, fun i hi => by cases hi⟩, ⟨fun k hk => ?_, fun k hk hp => ?_, fun i hi hs => ?_, fun i hi hs k hk hp hr => by show 0 = i; omega⟩, fun k hk hp l hl => absurd hl (Nat.not_lt_zero _), ?_, fun i hi => absurd hi (by omega)⟩
  · exact (congrFun (a1 t) 8).trans i8
  · exact (congrFun (a1 t) 9).trans i9
  · rw [show i = 0 by omega, a2 _ (by omega) (by omega), a2 (t + 3) (by omega) (by omega), a2 (t + 5) (by omega) (by omega), a2 (t + 7) (by omega) (by omega), a2 (t + 9) (by omega) (by omega), s11, s3, s5, s7, s9]
    exact ⟨Nat.zero_le _, rfl, rfl, rfl, rfl, rfl, by decide, by decide⟩
  · rw [show i = 0 by omega, a2 _ (by omega) (by omega), s17]
    rfl
  · rw [a3 k]
    cases hp : inL S layer k with
    | true => rw [if_pos ⟨hk, rfl⟩, if_pos rfl]; rfl
    | false =>
      rw [if_neg (fun z => by cases z.2), if_neg (by decide), s21]
      exact if_pos ⟨by omega, by omega⟩
  · obtain ⟨-, -, x3, x4⟩ := hX k hk
    refine ⟨Nat.zero_lt_one, rfl, ⟨?_, ?_⟩, rfl⟩
    · exact Nat.div_eq_of_lt (by show X k < 1024; omega)
    · exact Nat.div_eq_of_lt (by show Y k < 1024; omega)
  · rw [show i = 0 by omega, a4, s13, Int32.zero_add]
    congr 1
    exact cnt_cong fun k hk => by
      show inL S layer k = (inL S layer k && decide (0 = 0))
      rw [decide_eq_true rfl, Bool.and_true]
  · rw [smN_cong (g' := fun _ => 0) (fun l hl => cnt_0 c fun k hk => by simp), smN_zero]
set_option maxHeartbeats 800000 in
theorem growS_QF {layer : Int32} (ht : 12 < t) (hc : c ≤ 29) (hcap : cap < 2 ^ 31) (hX : posR S c X Y) : ∃ N, QF (growS S t c layer (nI cap)) t c (inL S layer) X Y cap N :=
  gRun_QF ht hc hcap 1205 0 _ 1 (tch_pos ht (t_rRun (t_seedS (Tch.rf _ _)) c) hX) (by omega) (seed_QX ht hc hX)
end QL
