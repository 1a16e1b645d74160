/-! the levels above -/
section UL
variable {B S : St} {t c L N a z h : Nat}
def UM (B S : St) (t c L N : Nat) : Prop := tN S t = nI N ∧ (∀ j, j < L → S.1 (t + 11) j = 0 ∧ S.1 (t + 17) j = 0 ∧ S.1 (t + 13) j = nI (hdC S t c j)) ∧ (∀ j, j < N → bxE S (t + 1) j) ∧ (∀ j, L ≤ j → j < N → ∃ v, 1 ≤ v ∧ v < 1000 ∧ S.1 (t + 11) j = nI v) ∧ okR (S.1 (t + 17)) ∧ S.1 (t + 21) = B.1 (t + 21)
set_option maxHeartbeats 400000 in
theorem umSet {g : Nat → Int32} {b : Nat} (hu : UM B S t c L N) (hb : b = t + 15 ∨ b = t + 19 ∨ b = t + 23) : UM B (setR S b g) t c L N := by
  obtain ⟨h1, h2, h3, h4, h5, h6⟩ := hu
  refine ⟨h1, fun j hj => ?_, fun j hj => bxE_row (fun a _ _ => by rw [setR_ne (by omega)]) (h3 j hj), fun j h7 h8 => ?_, ?_, ?_⟩
  · have := h2 j hj
    unfold hdC at this ⊢
    rw [setR_ne (show t + 11 ≠ b by omega), setR_ne (show t + 17 ≠ b by omega), setR_ne (show t + 13 ≠ b by omega), setR_ne (show t + 21 ≠ b by omega)]
    exact this
  · rw [setR_ne (show t + 11 ≠ b by omega)]; exact h4 j h7 h8
  · rw [setR_ne (show t + 17 ≠ b by omega)]; exact h5
  · rw [setR_ne (show t + 21 ≠ b by omega)]; exact h6
set_option maxHeartbeats 400000 in
theorem umEnd {i : Int32} (hu : UM B S t c L N) (ha : a < N) (hLa : L ≤ a) (hz : z < N) (hN : N ≤ 1205) (hh : S.1 (t + 17) a = nI h) (h8 : h < 8) : UM B (cnEnd S t i (nI a) (nI z)) t c L N ∧ (cnEnd S t i (nI a) (nI z)).1 (t + 17) a = nI (h + 1) ∧ (cnEnd S t i (nI a) (nI z)).1 (t + 23) = S.1 (t + 23) := by
  have o : ∀ b, b ≠ t + 1 + 2 ∧ b ≠ t + 1 + 4 ∧ b ≠ t + 1 + 6 ∧ b ≠ t + 1 + 8 → (strS S (t + 1) 1205 (nI a) (t + 1) 1205 (nI z)).1 b = S.1 b := fun b hb => bput_oth hb
  have u1 : UM B (strS S (t + 1) 1205 (nI a) (t + 1) 1205 (nI z)) t c L N := by
    obtain ⟨h1, h2, h3, h4, h5, h6⟩ := hu
    refine ⟨h1, fun j hj => ?_, fun j hj => ?_, fun j h7 h8 => ?_, ?_, ?_⟩
    · have := h2 j hj
      unfold hdC at this ⊢
      rw [o _ (by omega), o (t + 17) (by omega), o (t + 13) (by omega), o (t + 21) (by omega)]
      exact this
    · by_cases ej : j = a
      · subst ej; exact strS_bx (by omega) (by omega) (by omega) (by omega) (h3 j hj) (h3 z hz)
      · exact bxE_row (fun b _ _ => bput_ne (by omega) (by omega) ej b) (h3 j hj)
    · rw [o _ (by omega)]; exact h4 j h7 h8
    · rw [o _ (by omega)]; exact h5
    · rw [o _ (by omega)]; exact h6
  have u2 := umSet (b := t + 19) (g := rput (tBl (strS S (t + 1) 1205 (nI a) (t + 1) 1205 (nI z)) t) 1205 i (nI z)) u1 (by omega)
  have e17 : (setR (strS S (t + 1) 1205 (nI a) (t + 1) 1205 (nI z)) (t + 19) (rput (tBl (strS S (t + 1) 1205 (nI a) (t + 1) 1205 (nI z)) t) 1205 i (nI z))).1 (t + 17) = S.1 (t + 17) := by
    rw [setR_ne (by omega), o _ (by omega)]
  have e23 : (setR (strS S (t + 1) 1205 (nI a) (t + 1) 1205 (nI z)) (t + 19) (rput (tBl (strS S (t + 1) 1205 (nI a) (t + 1) 1205 (nI z)) t) 1205 i (nI z))).1 (t + 23) = S.1 (t + 23) := by
    rw [setR_ne (by omega), o _ (by omega)]
  have ee : cnEnd S t i (nI a) (nI z) = setR (setR (strS S (t + 1) 1205 (nI a) (t + 1) 1205 (nI z)) (t + 19) (rput (tBl (strS S (t + 1) 1205 (nI a) (t + 1) 1205 (nI z)) t) 1205 i (nI z))) (t + 17) (upd (S.1 (t + 17)) a (nI (h + 1))) := by
    unfold cnEnd
    show setR (setR _ _ _) (t + 17) (rput ((setR (strS S (t + 1) 1205 (nI a) (t + 1) 1205 (nI z)) (t + 19) (rput (tBl (strS S (t + 1) 1205 (nI a) (t + 1) 1205 (nI z)) t) 1205 i (nI z))).1 (t + 17)) 1205 (nI a) ((setR (strS S (t + 1) 1205 (nI a) (t + 1) 1205 (nI z)) (t + 19) (rput (tBl (strS S (t + 1) 1205 (nI a) (t + 1) 1205 (nI z)) t) 1205 i (nI z))).1 (t + 17) (nI a).toNatClampNeg + 1)) = _
    rw [e17, nI_clamp (show a < 2 ^ 31 by omega), hh, nI_1, rput_nI (show a < 1205 by omega) (by decide)]
  rw [ee]
  generalize setR (strS S (t + 1) 1205 (nI a) (t + 1) 1205 (nI z)) (t + 19) (rput (tBl (strS S (t + 1) 1205 (nI a) (t + 1) 1205 (nI z)) t) 1205 i (nI z)) = S5 at *
  obtain ⟨h1, h2, h3, h4, h5, h6⟩ := u2
  refine ⟨⟨h1, fun j hj => ?_, fun j hj => bxE_row (fun b _ _ => by rw [setR_ne (by omega)]) (h3 j hj), fun j h7 h8 => ?_, ?_, ?_⟩, by rw [setR_eq, upd_at], by rw [setR_ne (by omega)]; exact e23⟩
  · have := h2 j hj
    unfold hdC at this ⊢
    rw [setR_ne (show t + 11 ≠ t + 17 by omega), setR_eq, upd_nq (show j ≠ a by omega), ← e17, setR_ne (show t + 13 ≠ t + 17 by omega), setR_ne (show t + 21 ≠ t + 17 by omega)]
    exact this
  · rw [setR_ne (show t + 11 ≠ t + 17 by omega)]; exact h4 j h7 h8
  · rw [setR_eq]
    rw [e17] at h5
    exact okR_upd h5 (by omega)
  · rw [setR_ne (show t + 21 ≠ t + 17 by omega)]; exact h6
set_option maxHeartbeats 400000 in
theorem umNew {i : Int32} {level : Nat} (hu : UM B S t c L N) (hLN : L ≤ N) (hz : z < N) (hN : N < 1205) (hl1 : 1 ≤ level) (hl2 : level < 1000) : UM B (cnNew S t (nI level) i (nI z)) t c L (N + 1) ∧ (cnNew S t (nI level) i (nI z)).1 (t + 17) N = nI 0 ∧ (cnNew S t (nI level) i (nI z)).1 (t + 23) = S.1 (t + 23) := by
  obtain ⟨h1, h2, h3, h4, h5, h6⟩ := hu
  obtain ⟨n1, n2, n3, n4⟩ := addNS_at (S := S) (t := t) (l := nI level) h1 hN
  have o : ∀ b, b ≠ t + 1 + 2 ∧ b ≠ t + 1 + 4 ∧ b ≠ t + 1 + 6 ∧ b ≠ t + 1 + 8 → (boxAs (addNS S t (nI level)) t (nI N) (t + 1) 1205 (nI z)).1 b = (addNS S t (nI level)).1 b := fun b hb => bput_oth hb
  have hbz : bxE (addNS S t (nI level)) (t + 1) z := bxE_row (fun b _ _ => addNS_ne h1 hN (by omega) b) (h3 z hz)
  have u1 : UM B (boxAs (addNS S t (nI level)) t (nI N) (t + 1) 1205 (nI z)) t c L (N + 1) := by
    refine ⟨n4, fun j hj => ?_, fun j hj => ?_, fun j h7 h8 => ?_, ?_, ?_⟩
    · have := h2 j hj
      unfold hdC at this ⊢
      rw [o _ (by omega), o (t + 17) (by omega), o (t + 13) (by omega), o (t + 21) (by omega), addNS_oth (a := t + 21) (by omega), addNS_ne h1 hN (by omega), addNS_ne h1 hN (by omega), addNS_ne h1 hN (by omega)]
      exact this
    · by_cases ej : j = N
      · subst ej; exact boxAs_bx hN (by omega) (by omega) hbz
      · exact bxE_row (fun b _ _ => (bput_ne hN (by omega) ej b).trans (addNS_ne h1 hN ej b)) (h3 j (by omega))
    · rw [o _ (by omega)]
      by_cases ej : j = N
      · subst ej; exact ⟨level, hl1, hl2, n1⟩
      · rw [addNS_ne h1 hN ej]; exact h4 j h7 (by omega)
    · rw [o _ (by omega)]
      unfold addNS
      show okR ((setR (setR (setR S _ _) _ _) _ _).1 (t + 17))
      rw [setR_eq, h1, rput_nI hN (by decide)]
      exact okR_upd (q := 0) h5 (by omega)
    · rw [o _ (by omega), addNS_oth (by omega)]; exact h6
  unfold cnNew
  rw [h1]
  refine ⟨umSet u1 (by omega), ?_, ?_⟩
  · show (setR _ _ _).1 (t + 17) N = _
    rw [setR_ne (by omega), o _ (by omega), n3]; exact nI_0.symm
  · show (setR _ _ _).1 (t + 23) = _
    rw [setR_ne (by omega), o _ (by omega), addNS_oth (by omega)]
set_option maxHeartbeats 400000 in
theorem cnRun_eff {s fan level M : Nat} {κ : Nat → Nat} (hu : UM B S t c L N) (hLN : L ≤ N) (hN : N + M ≤ 1205) (hM : M ≤ 80) (hf1 : 1 ≤ fan) (hf : fan ≤ 8) (hl1 : 1 ≤ level) (hl2 : level < 1000) (hK : ∀ j, j < M → S.1 (t + 23) j = nI (κ j) ∧ κ j < N) : ∀ j, j ≤ M →
    UM B (cnRun S t s (nI fan) (nI level) j).1 t c L (N + (cutN fan j).1) ∧ (cnRun S t s (nI fan) (nI level) j).2 = (if (cutN fan j).1 = 0 then -1 else nI (N + (cutN fan j).1 - 1)) ∧ (cnRun S t s (nI fan) (nI level) j).1.1 (t + 23) = S.1 (t + 23) ∧ (0 < (cutN fan j).1 → (cutN fan j).2 ≤ fan ∧ (cnRun S t s (nI fan) (nI level) j).1.1 (t + 17) (N + (cutN fan j).1 - 1) = nI (cutN fan j).2) := by
  intro j
  induction j with
  | zero => intro _; exact ⟨hu, by rw [cutN, if_pos rfl]; rfl, rfl, fun h => absurd h (by rw [cutN]; omega)⟩
  | succ j ih =>
    intro hj
    obtain ⟨g1, g2, g4, g3⟩ := ih (by omega)
    obtain ⟨l1, l2, l3⟩ := cutN_le fan j
    obtain ⟨k1, k2⟩ := hK j (by omega)
    generalize hcl : cnRun S t s (nI fan) (nI level) j = cl at *
    have e0 : cnRun S t s (nI fan) (nI level) (j + 1) = cnStep t s (nI fan) (nI level) cl j := by rw [← hcl]; rfl
    rw [e0]
    have ek : rat (tKy cl.1 t) 80 (nI j) = nI (κ j) := by
      rw [rat_nI (show j < 80 by omega) (by decide)]
      show cl.1.1 (t + 23) j = _
      rw [g4]; exact k1
    unfold cnStep
    rw [ek, g1.1, cutN]
    by_cases q : (cutN fan j).1 = 0 ∨ fan ≤ (cutN fan j).2
    · have hcond : cl.2 = -1 ∨ nI fan ≤ rat (tCt cl.1 t) 1205 cl.2 := by
        rcases Nat.eq_zero_or_pos (cutN fan j).1 with w | w
        · exact Or.inl (by rw [g2, if_pos w])
        · obtain ⟨u1, u2⟩ := g3 w
          refine Or.inr ?_
          rw [g2, if_neg (by omega), rat_nI (show N + (cutN fan j).1 - 1 < 1205 by omega) (by decide)]
          show nI fan ≤ cl.1.1 (t + 17) (N + (cutN fan j).1 - 1)
          rw [u2]
          exact nI_le (by omega) (by omega)
      rw [if_pos hcond, if_pos q]
      obtain ⟨s1, s2, s3⟩ := umNew (i := nI (s + j)) g1 (by omega) (show κ j < N + (cutN fan j).1 by omega) (by omega) hl1 hl2
      obtain ⟨v1, v2, v3⟩ := umEnd (i := nI (s + j)) s1 (a := N + (cutN fan j).1) (z := κ j) (by omega) (by omega) (by omega) (by omega) s2 (by omega)
      refine ⟨v1, ?_, v3.trans (s3.trans g4), fun _ => ⟨hf1, ?_⟩⟩
      · show nI (N + (cutN fan j).1) = if (cutN fan j).1 + 1 = 0 then -1 else nI (N + ((cutN fan j).1 + 1) - 1)
        rw [if_neg (by omega), show N + ((cutN fan j).1 + 1) - 1 = N + (cutN fan j).1 by omega]
      · show _ = nI 1
        rw [show N + ((cutN fan j).1 + 1) - 1 = N + (cutN fan j).1 by omega]
        exact v2
    · have w : 0 < (cutN fan j).1 := by omega
      obtain ⟨u1, u2⟩ := g3 w
      have hcond : ¬ (cl.2 = -1 ∨ nI fan ≤ rat (tCt cl.1 t) 1205 cl.2) := by
        rw [g2, if_neg (by omega), rat_nI (show N + (cutN fan j).1 - 1 < 1205 by omega) (by decide)]
        show ¬ (_ ∨ nI fan ≤ cl.1.1 (t + 17) (N + (cutN fan j).1 - 1))
        rw [u2]
        rintro (z | z)
        · exact nI_m1 (by omega) z.symm
        · exact absurd ((nI_leI (by omega) (by omega)).mp z) (by omega)
      rw [if_neg hcond, if_neg q, g2, if_neg (by omega)]
      obtain ⟨v1, v2, v3⟩ := umEnd (i := nI (s + j)) g1 (a := N + (cutN fan j).1 - 1) (z := κ j) (by omega) (by omega) (by omega) (by omega) u2 (by omega)
      exact ⟨v1, by first | rfl | (show nI (N + (cutN fan j).1 - 1) = if (cutN fan j).1 = 0 then -1 else nI (N + (cutN fan j).1 - 1); rw [if_neg (by omega)]), v3.trans g4, fun _ => ⟨by show _ + 1 ≤ fan; omega, v2⟩⟩
def gpN (fan f s N : Nat) : Nat := match f with
  | 0 => N
  | f + 1 => if 1 < N - s then gpN fan f N (N + (cutN fan (N - s)).1) else N
def gpB (fan f s N : Nat) : Bool := match f with
  | 0 => decide (N ≤ 60)
  | f + 1 => decide (N ≤ 60) && (if 1 < N - s then gpB fan f N (N + (cutN fan (N - s)).1) else true)
set_option maxHeartbeats 400000 in
theorem gpR_eff {fan : Nat} (hf1 : 1 ≤ fan) (hf : fan ≤ 8) : ∀ f s N level (S : St), UM B S t c L N → L ≤ N → s ≤ N → 1 ≤ level → level + f < 900 → gpB fan f s N = true → gpOk S t fan f s level ∧ UM B (gpR S t fan f s level) t c L (gpN fan f s N) ∧ L ≤ gpN fan f s N ∧ gpN fan f s N ≤ 60 := by
  intro f
  induction f with
  | zero =>
    intro s N level S hu hL hs h1 h2 hb
    unfold gpB at hb
    exact ⟨trivial, hu, hL, of_decide_eq_true hb⟩
  | succ f ih =>
    intro s N level S hu hL hs h1 h2 hb
    unfold gpB at hb
    rw [Bool.and_eq_true, decide_eq_true_eq] at hb
    obtain ⟨hb1, hb2⟩ := hb
    have eN : nN S t = N := by
      unfold nN
      rw [hu.1]
      exact nI_clamp (by omega)
    unfold gpOk gpR gpN
    rw [eN]
    by_cases q : 1 < N - s
    · rw [if_pos q] at hb2
      rw [if_pos q, if_pos q]
      have e1 : tKy (setR S (t + 23) (filN s (tKy S t) (N - s))) t = filN s (tKy S t) (N - s) := setR_eq
      have hpre : gpPre S t fan s N = setR (setR S (t + 23) (filN s (tKy S t) (N - s))) (t + 23) (otp (setR S (t + 23) (filN s (tKy S t) (N - s))) (t + 1) 1205 (N - s) fan (filN s (tKy S t) (N - s))) := by
        unfold gpPre
        show setR _ _ (otp _ _ _ _ _ (tKy (setR S (t + 23) (filN s (tKy S t) (N - s))) t)) = _
        rw [e1]
      have up : UM B (gpPre S t fan s N) t c L N := by
        rw [hpre]
        exact umSet (umSet hu (by omega)) (by omega)
      have hk : ∀ j, j < N - s → ∃ z, z < N ∧ (gpPre S t fan s N).1 (t + 23) j = nI z := by
        intro j hj
        have hg : ∀ k, k < N - s → ∃ z, z < 128 ∧ z < 1205 ∧ bxE (setR S (t + 23) (filN s (tKy S t) (N - s))) (t + 1) z ∧ filN s (tKy S t) (N - s) k = nI z := fun k hk => ⟨s + k, by omega, by omega, (umSet (g := filN s (tKy S t) (N - s)) hu (show t + 23 = t + 15 ∨ t + 23 = t + 19 ∨ t + 23 = t + 23 by omega)).2.2.1 (s + k) (by omega), by unfold filN; rw [if_pos hk]⟩
        obtain ⟨i, hi, ei⟩ := otp_mem (S := setR S (t + 23) (filN s (tKy S t) (N - s))) (b := t + 1) (fn := fan) (by omega) hg hj
        refine ⟨s + i, by omega, ?_⟩
        rw [hpre, setR_eq, ei]
        unfold filN
        rw [if_pos hi]
      have hc2 := cutN_le fan (N - s)
      have r := (cnRun_eff (s := s) (fan := fan) (level := level) (M := N - s) (κ := fun j => ((gpPre S t fan s N).1 (t + 23) j).toNatClampNeg) up hL (by omega) (by omega) hf1 hf h1 (by omega) (fun j hj => by
        obtain ⟨z, z1, z2⟩ := hk j hj
        show (gpPre S t fan s N).1 (t + 23) j = nI ((gpPre S t fan s N).1 (t + 23) j).toNatClampNeg ∧ ((gpPre S t fan s N).1 (t + 23) j).toNatClampNeg < N
        rw [z2, nI_clamp (by omega)]
        exact ⟨rfl, z1⟩) (N - s) (Nat.le_refl _)).1
      obtain ⟨i1, i2, i3, i4⟩ := ih N (N + (cutN fan (N - s)).1) (level + 1) (gpStep S t fan s N level) r (by omega) (by omega) (by omega) (by omega) hb2
      exact ⟨⟨hu.1, by omega, by omega, by omega, fun _ => i1⟩, i2, i3, i4⟩
    · rw [if_neg q, if_neg q]
      exact ⟨⟨hu.1, by omega, by omega, by omega, fun z => absurd z q⟩, hu, hL, hb1⟩
end UL
