/-! the leaves are cut -/
def cutN (fan : Nat) (i : Nat) : Nat × Nat := match i with
  | 0 => (0, 0)
  | i + 1 => if (cutN fan i).1 = 0 ∨ fan ≤ (cutN fan i).2 then ((cutN fan i).1 + 1, 1) else ((cutN fan i).1, (cutN fan i).2 + 1)
def hdC (S : St) (t c j : Nat) : Nat := cnt (fun k => decide (S.1 (t + 21) k = nI j)) c
def okR (f : Nat → Int32) : Prop := ∀ i, i < 1205 → ∃ q, q ≤ 8 ∧ f i = nI q
set_option maxHeartbeats 400000 in
theorem okR_upd {f : Nat → Int32} {k q : Nat} (h : okR f) (hq : q ≤ 8) : okR (upd f k (nI q)) := by
  intro i hi
  by_cases e : i = k
  · subst e; exact ⟨q, hq, upd_at⟩
  · rw [upd_nq e]; exact h i hi
set_option maxHeartbeats 400000 in
theorem okC_of {S : St} {t : Nat} (h : okR (S.1 (t + 17))) : okC S t := by
  intro u
  show ∃ n, n ≤ 8 ∧ rat (S.1 (t + 17)) 1205 u = nI n
  unfold rat
  by_cases h1 : u < 0
  · rw [if_pos h1]; exact ⟨0, by omega, nI_0.symm⟩
  · rw [if_neg h1]
    by_cases h2 : nI 1205 ≤ u
    · rw [if_pos h2]; exact ⟨0, by omega, nI_0.symm⟩
    · rw [if_neg h2]
      obtain ⟨j, hj, rfl⟩ := nI_of h1
      rw [nI_clamp hj]
      exact h j (by
        rcases Nat.lt_or_ge j 1205 with q | q
        · exact q
        · exact absurd (nI_le q hj) h2)
section CL
variable {B S : St} {t c n i z e : Nat} {κ : Nat → Nat}
def CM (B S : St) (t c n i : Nat) (κ : Nat → Nat) : Prop :=
  tN S t = nI n ∧ (∀ j, j < n → S.1 (t + 11) j = 0 ∧ S.1 (t + 17) j = 0 ∧ bxE S (t + 1) j ∧ S.1 (t + 13) j = nI (hdC S t c j)) ∧ (∀ k, k < c → (S.1 (t + 21) k = -1 ∧ ∀ i', i' < i → κ i' ≠ k) ∨ ((∃ j, j < n ∧ S.1 (t + 21) k = nI j) ∧ ∃ i', i' < i ∧ κ i' = k)) ∧ (∀ a, a ≤ 12 → S.1 a = B.1 a) ∧ S.1 (t + 23) = B.1 (t + 23) ∧ okR (S.1 (t + 17))
set_option maxHeartbeats 400000 in
theorem bxE_row {A D : St} {b i : Nat} (h : ∀ a, b < a → a < b + 9 → A.1 a i = D.1 a i) (k : bxE D b i) : bxE A b i := by
  obtain ⟨x, y, w, h', q1, q2, e1, e2, e3, e4⟩ := k
  exact ⟨x, y, w, h', q1, q2, (h _ (by omega) (by omega)).trans e1, (h _ (by omega) (by omega)).trans e2, (h _ (by omega) (by omega)).trans e3, (h _ (by omega) (by omega)).trans e4⟩
set_option maxHeartbeats 400000 in
theorem nI_m1 {j : Nat} (h : j < 2 ^ 31) : ¬ (-1 : Int32) = nI j := fun e => nI_pos h (by rw [← e]; decide)
set_option maxHeartbeats 400000 in
theorem cmStr (ht : 12 < t) (h : CM B S t c n i κ) (he : e < n) (hn : n ≤ 1205) (hz : z < 80) (hb : bxE B 2 z) : CM B (strS S (t + 1) 1205 (nI e) 2 80 (nI z)) t c n i κ := by
  obtain ⟨h1, h2, h3, h4, h5, h6⟩ := h
  have hbz : bxE S 2 z := bxE_row (fun a h1 h2 => congrFun (h4 a (by omega)) z) hb
  have o : ∀ a, a ≠ t + 1 + 2 ∧ a ≠ t + 1 + 4 ∧ a ≠ t + 1 + 6 ∧ a ≠ t + 1 + 8 → (strS S (t + 1) 1205 (nI e) 2 80 (nI z)).1 a = S.1 a := fun a ha => bput_oth ha
  refine ⟨h1, fun j hj => ?_, fun k hk => ?_, fun a ha => ?_, ?_, ?_⟩
  · obtain ⟨a1, a2, a3, a4⟩ := h2 j hj
    rw [o _ (by omega), o (t + 17) (by omega), o (t + 13) (by omega)]
    refine ⟨a1, a2, ?_, ?_⟩
    · by_cases ej : j = e
      · subst ej; exact strS_bx (by omega) (by omega) hz (by omega) a3 hbz
      · exact bxE_row (fun a _ _ => bput_ne (by omega) (by omega) ej a) a3
    · unfold hdC
      rw [o (t + 21) (by omega)]
      exact a4
  · rw [o _ (by omega)]; exact h3 k hk
  · rw [o _ (by omega)]; exact h4 a ha
  · rw [o _ (by omega)]; exact h5
  · rw [o _ (by omega)]; exact h6
set_option maxHeartbeats 400000 in
theorem cmNew (ht : 12 < t) (h : CM B S t c n i κ) (hn : n < 1205) (hz : z < 80) (hb : bxE B 2 z) : CM B (strS (boxAs (addNS S t 0) t (nI n) 2 80 (nI z)) (t + 1) 1205 (nI n) 2 80 (nI z)) t c (n + 1) i κ := by
  obtain ⟨h1, h2, h3, h4, h5, h6⟩ := h
  obtain ⟨n1, n2, n3, n4⟩ := addNS_at (S := S) (t := t) (l := 0) h1 hn
  have hbz : bxE (addNS S t 0) 2 z := bxE_row (fun a h1 h2 => by rw [addNS_oth (by omega)]; exact congrFun (h4 a (by omega)) z) hb
  have o : ∀ a, a ≠ t + 1 + 2 ∧ a ≠ t + 1 + 4 ∧ a ≠ t + 1 + 6 ∧ a ≠ t + 1 + 8 → (boxAs (addNS S t 0) t (nI n) 2 80 (nI z)).1 a = (addNS S t 0).1 a := fun a ha => bput_oth ha
  have hh : hdC S t c n = 0 := cnt_0 c fun k hk => by
    refine decide_eq_false fun q => ?_
    rcases h3 k hk with w | ⟨⟨j, w1, w2⟩, -⟩
    · rw [w.1] at q; exact nI_m1 (by omega) q
    · rw [w2] at q; have := (nI_eq (by omega) (by omega)).mp q; omega
  refine cmStr ht ⟨n4, fun j hj => ?_, fun k hk => ?_, fun a ha => ?_, ?_, ?_⟩ (by omega) (by omega) hz hb
  · have e21 : hdC (boxAs (addNS S t 0) t (nI n) 2 80 (nI z)) t c j = hdC S t c j := by
      unfold hdC
      rw [o (t + 21) (by omega), addNS_oth (by omega)]
    rw [o _ (by omega), o (t + 17) (by omega), o (t + 13) (by omega), e21]
    by_cases ej : j = n
    · subst ej
      exact ⟨n1, n3, boxAs_bx hn hz (by omega) hbz, by rw [n2, hh]; exact nI_0.symm⟩
    · obtain ⟨a1, a2, a3, a4⟩ := h2 j (by omega)
      rw [addNS_ne h1 hn ej, addNS_ne h1 hn ej, addNS_ne h1 hn ej]
      refine ⟨a1, a2, bxE_row (fun a _ _ => ?_) a3, a4⟩
      exact (bput_ne hn (by omega) ej a).trans (addNS_ne h1 hn ej a)
  · rw [o _ (by omega), addNS_oth (by omega)]
    rcases h3 k hk with w | ⟨⟨j, w1, w2⟩, w3⟩
    · exact Or.inl w
    · exact Or.inr ⟨⟨j, by omega, w2⟩, w3⟩
  · rw [o _ (by omega), addNS_oth (by omega)]; exact h4 a ha
  · rw [o _ (by omega), addNS_oth (by omega)]; exact h5
  · rw [o _ (by omega)]
    unfold addNS
    show okR ((setR (setR (setR S _ _) _ _) _ _).1 (t + 17))
    rw [setR_eq, h1, rput_nI hn (by decide)]
    exact okR_upd (q := 0) h6 (by omega)
set_option maxHeartbeats 400000 in
theorem cmSet (h : CM B S t c n i κ) (he : e < n) (hn : n ≤ 1205) (hc : c ≤ 80) (hz : κ i = z) (hzc : z < c) (hf : ∀ i', i' < i → κ i' ≠ z) : CM B (settS S t (nI z) (nI e)) t c n (i + 1) κ ∧ (settS S t (nI z) (nI e)).1 (t + 13) e = S.1 (t + 13) e + 1 := by
  obtain ⟨h1, h2, h3, h4, h5, h6⟩ := h
  have e21 : (settS S t (nI z) (nI e)).1 (t + 21) = upd (S.1 (t + 21)) z (nI e) := by
    unfold settS
    rw [setR_ne (by omega), setR_eq, rput_nI (show z < 80 by omega) (by decide)]
  have e13 : (settS S t (nI z) (nI e)).1 (t + 13) = upd (S.1 (t + 13)) e (S.1 (t + 13) e + 1) := by
    unfold settS
    rw [setR_eq, rput_nI (show e < 1205 by omega) (by decide), nI_clamp (by omega)]
  have eo : ∀ a, a ≠ t + 13 → a ≠ t + 21 → (settS S t (nI z) (nI e)).1 a = S.1 a := fun a q1 q2 => by
    unfold settS
    rw [setR_ne q1, setR_ne q2]
  have hz1 : S.1 (t + 21) z = -1 := by
    rcases h3 z hzc with w | ⟨-, ⟨i', w1, w2⟩⟩
    · exact w.1
    · exact absurd w2 (hf i' w1)
  refine ⟨⟨h1, fun j hj => ?_, fun k hk => ?_, fun a ha => ?_, ?_, ?_⟩, by rw [e13, upd_at]⟩
  · obtain ⟨a1, a2, a3, a4⟩ := h2 j hj
    have hcn := cnt_upd (fun v => decide (v = nI j)) (f := S.1 (t + 21)) (k := z) (x := nI e) c hzc
    rw [hz1, decide_eq_false (nI_m1 (show j < 2 ^ 31 by omega))] at hcn
    have hd : hdC (settS S t (nI z) (nI e)) t c j = hdC S t c j + bN (decide (nI e = nI j)) := by
      unfold hdC
      rw [e21]
      exact hcn
    rw [eo _ (by omega) (by omega), eo (t + 17) (by omega) (by omega), hd, e13]
    refine ⟨a1, a2, bxE_row (fun a q1 q2 => by rw [eo a (by omega) (by omega)]) a3, ?_⟩
    by_cases ej : j = e
    · subst ej
      rw [upd_at, a4, decide_eq_true rfl, nI_1]; rfl
    · rw [upd_nq ej, a4, decide_eq_false (fun q => ej ((nI_eq (by omega) (by omega)).mp q).symm)]; rfl
  · rw [e21]
    by_cases ek : k = z
    · subst ek
      rw [upd_at]
      exact Or.inr ⟨⟨e, he, rfl⟩, i, by omega, hz⟩
    · rw [upd_nq ek]
      rcases h3 k hk with w | ⟨w1, ⟨i', w2, w3⟩⟩
      · refine Or.inl ⟨w.1, fun i' hi' => ?_⟩
        by_cases q : i' = i
        · subst q; rw [hz]; exact fun q => ek q.symm
        · exact w.2 i' (by omega)
      · exact Or.inr ⟨w1, i', by omega, w3⟩
  · rw [eo a (by omega) (by omega)]; exact h4 a ha
  · rw [eo _ (by omega) (by omega)]; exact h5
  · rw [eo _ (by omega) (by omega)]; exact h6
set_option maxHeartbeats 400000 in
theorem cutN_le (fan : Nat) : ∀ i, (cutN fan i).1 ≤ i ∧ ((cutN fan i).1 = 0 → i = 0) ∧ (0 < (cutN fan i).1 → 1 ≤ (cutN fan i).2) := by
  intro i
  induction i with
  | zero => exact ⟨Nat.le_refl _, fun _ => rfl, fun h => absurd h (by rw [cutN]; omega)⟩
  | succ i ih =>
    rw [cutN]
    split
    · exact ⟨by show _ + 1 ≤ _; omega, fun h => absurd h (by show ¬ _ + 1 = 0; omega), fun _ => Nat.le_refl 1⟩
    · next q => exact ⟨by show _ ≤ i + 1; omega, fun h => absurd (Or.inl h) q, fun _ => by show 1 ≤ _ + 1; omega⟩
set_option maxHeartbeats 400000 in
theorem clRun_eff {fan m : Nat} (ht : 12 < t) (hf : fan ≤ 8) (hf1 : 1 ≤ fan) (hc : c ≤ 80) (hm : m ≤ 80) (hK : ∀ i, i < m → B.1 (t + 23) i = nI (κ i) ∧ κ i < c ∧ bxE B 2 (κ i)) (hinj : ∀ i j, i < m → j < m → κ i = κ j → i = j) (h0 : CM B B t c 0 0 κ) : ∀ i, i ≤ m →
    CM B (clRun B t 2 80 (nI fan) i).1 t c (cutN fan i).1 i κ ∧ (clRun B t 2 80 (nI fan) i).2 = (if (cutN fan i).1 = 0 then -1 else nI ((cutN fan i).1 - 1)) ∧ (0 < (cutN fan i).1 → (cutN fan i).2 ≤ fan ∧ (clRun B t 2 80 (nI fan) i).1.1 (t + 13) ((cutN fan i).1 - 1) = nI (cutN fan i).2) := by
  intro i
  induction i with
  | zero => intro _; exact ⟨h0, by rw [cutN, if_pos rfl]; rfl, fun h => absurd h (by rw [cutN]; omega)⟩
  | succ i ih =>
    intro hi
    obtain ⟨g1, g2, g3⟩ := ih (by omega)
    obtain ⟨l1, l2, l3⟩ := cutN_le fan i
    obtain ⟨k1, k2, k3⟩ := hK i (by omega)
    generalize hcl : clRun B t 2 80 (nI fan) i = cl at *
    have e0 : clRun B t 2 80 (nI fan) (i + 1) = clStep t 2 80 (nI fan) cl i := by rw [← hcl]; rfl
    rw [e0]
    have ek : rat (tKy cl.1 t) 80 (nI i) = nI (κ i) := by
      rw [rat_nI (show i < 80 by omega) (by decide)]
      show cl.1.1 (t + 23) i = _
      rw [g1.2.2.2.2.1]; exact k1
    have hfr : ∀ i', i' < i → κ i' ≠ κ i := fun i' hi' q => by have := hinj i' i (by omega) (by omega) q; omega
    unfold clStep
    rw [ek, g1.1, cutN]
    by_cases q : (cutN fan i).1 = 0 ∨ fan ≤ (cutN fan i).2
    · have hcond : cl.2 = -1 ∨ nI fan ≤ rat (tHd cl.1 t) 1205 cl.2 := by
        rcases Nat.eq_zero_or_pos (cutN fan i).1 with w | w
        · exact Or.inl (by rw [g2, if_pos w])
        · obtain ⟨u1, u2⟩ := g3 w
          refine Or.inr ?_
          rw [g2, if_neg (by omega), rat_nI (show (cutN fan i).1 - 1 < 1205 by omega) (by decide)]
          show nI fan ≤ cl.1.1 (t + 13) ((cutN fan i).1 - 1)
          rw [u2]
          exact nI_le (by omega) (by omega)
      rw [if_pos hcond, if_pos q]
      have s1 := cmNew ht g1 (by omega) (show κ i < 80 by omega) k3
      obtain ⟨s2, s3⟩ := cmSet s1 (e := (cutN fan i).1) (by omega) (by omega) hc rfl k2 hfr
      refine ⟨s2, by show nI (cutN fan i).1 = if (cutN fan i).1 + 1 = 0 then -1 else nI ((cutN fan i).1 + 1 - 1); rw [if_neg (by omega), Nat.add_sub_cancel], fun _ => ⟨hf1, ?_⟩⟩
      show _ = nI 1
      rw [show (cutN fan i).1 + 1 - 1 = (cutN fan i).1 from Nat.add_sub_cancel ..]
      rw [s3, (s1.2.1 (cutN fan i).1 (by omega)).2.2.2]
      have hh : hdC (strS (boxAs (addNS cl.1 t 0) t (nI (cutN fan i).1) 2 80 (nI (κ i))) (t + 1) 1205 (nI (cutN fan i).1) 2 80 (nI (κ i))) t c (cutN fan i).1 = 0 := cnt_0 c fun k hk => by
        refine decide_eq_false fun z => ?_
        have e21 : (strS (boxAs (addNS cl.1 t 0) t (nI (cutN fan i).1) 2 80 (nI (κ i))) (t + 1) 1205 (nI (cutN fan i).1) 2 80 (nI (κ i))).1 (t + 21) = cl.1.1 (t + 21) := by
          show (bput _ _ _ _ _ _ _ _).1 (t + 21) = _
          rw [bput_oth (by omega)]
          show (bput _ _ _ _ _ _ _ _).1 (t + 21) = _
          rw [bput_oth (by omega), addNS_oth (by omega)]
        rw [e21] at z
        rcases g1.2.2.1 k hk with w | ⟨⟨j, w1, w2⟩, -⟩
        · rw [w.1] at z; exact nI_m1 (by omega) z
        · rw [w2] at z; have := (nI_eq (by omega) (by omega)).mp z; omega
      rw [hh]; rfl
    · have w : 0 < (cutN fan i).1 := by omega
      obtain ⟨u1, u2⟩ := g3 w
      have hcond : ¬ (cl.2 = -1 ∨ nI fan ≤ rat (tHd cl.1 t) 1205 cl.2) := by
        rw [g2, if_neg (by omega), rat_nI (show (cutN fan i).1 - 1 < 1205 by omega) (by decide)]
        show ¬ (_ ∨ nI fan ≤ cl.1.1 (t + 13) ((cutN fan i).1 - 1))
        rw [u2]
        rintro (z | z)
        · exact nI_m1 (by omega) z.symm
        · exact absurd ((nI_leI (by omega) (by omega)).mp z) (by omega)
      rw [if_neg hcond, if_neg q, g2, if_neg (by omega)]
      have s1 := cmStr ht g1 (e := (cutN fan i).1 - 1) (by omega) (by omega) (show κ i < 80 by omega) k3
      obtain ⟨s2, s3⟩ := cmSet s1 (e := (cutN fan i).1 - 1) (by omega) (by omega) hc rfl k2 hfr
      refine ⟨s2, by first | rfl | (show nI ((cutN fan i).1 - 1) = if (cutN fan i).1 = 0 then -1 else nI ((cutN fan i).1 - 1); rw [if_neg (by omega)]), fun _ => ⟨by show _ + 1 ≤ fan; omega, ?_⟩⟩
      show _ = nI ((cutN fan i).2 + 1)
      rw [s3]
      have : (strS cl.1 (t + 1) 1205 (nI ((cutN fan i).1 - 1)) 2 80 (nI (κ i))).1 (t + 13) = cl.1.1 (t + 13) := bput_oth (by omega)
      rw [this, u2, nI_1]
end CL
