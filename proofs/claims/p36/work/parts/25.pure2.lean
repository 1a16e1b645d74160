/-! pure facts: pairs and clusters -/
set_option maxHeartbeats 200000 in
theorem smN_cong {g g' : Nat → Nat} {n : Nat} (h : ∀ i, i < n → g i = g' i) : smN g n = smN g' n := by
  induction n with
  | zero => rfl
  | succ n ih => rw [smN, smN, ih (fun i hi => h i (by omega)), h n (by omega)]
set_option maxHeartbeats 200000 in
theorem smN_add (g g' : Nat → Nat) (n : Nat) : smN (fun i => g i + g' i) n = smN g n + smN g' n := by
  induction n with
  | zero => rfl
  | succ n ih => rw [smN, smN, smN, ih]; omega
set_option maxHeartbeats 200000 in
theorem smN_zero (n : Nat) : smN (fun _ => 0) n = 0 := by
  induction n with
  | zero => rfl
  | succ n ih => rw [smN, ih]
set_option maxHeartbeats 200000 in
theorem smN_le {g g' : Nat → Nat} {n : Nat} (h : ∀ i, i < n → g i ≤ g' i) : smN g n ≤ smN g' n := by
  induction n with
  | zero => exact Nat.le_refl _
  | succ n ih => rw [smN, smN]; exact Nat.add_le_add (ih (fun i hi => h i (by omega))) (h n (by omega))
set_option maxHeartbeats 200000 in
theorem smN_swap (g : Nat → Nat → Nat) (n m : Nat) : smN (fun i => smN (g i) m) n = smN (fun j => smN (fun i => g i j) n) m := by
  induction n with
  | zero => exact (smN_zero m).symm
  | succ n ih =>
    show smN (fun i => smN (g i) m) n + smN (g n) m = _
    rw [ih, ← smN_add]
    rfl
set_option maxHeartbeats 200000 in
theorem cnt_smN (p : Nat → Bool) (n : Nat) : cnt p n = smN (fun k => bN (p k)) n := by
  induction n with
  | zero => rfl
  | succ n ih => rw [cnt_succ, smN, ih]
set_option maxHeartbeats 200000 in
theorem cnt_swap (Q : Nat → Nat → Bool) (n m : Nat) : smN (fun k => cnt (Q k) m) n = smN (fun j => cnt (fun k => Q k j) n) m := by
  rw [smN_cong (g' := fun k => smN (fun j => bN (Q k j)) m) (fun i _ => cnt_smN _ _), smN_swap]
  exact smN_cong fun j _ => (cnt_smN _ _).symm
set_option maxHeartbeats 200000 in
theorem cnt_lt {p : Nat → Bool} {j : Nat} : ∀ c, j ≤ c → cnt (fun k => decide (k < j) && p k) c = cnt p j := by
  intro c
  induction c with
  | zero => intro h; rw [show j = 0 by omega]; rfl
  | succ c ih =>
    intro h
    by_cases e : j = c + 1
    · subst e
      exact cnt_cong fun k hk => by show (decide (k < c + 1) && p k) = p k; rw [decide_eq_true hk]; rfl
    · rw [cnt_f (p := fun k => decide (k < j) && p k) (pand_f1 (decide_eq_false (by omega)))]
      exact ih (by omega)
set_option maxHeartbeats 200000 in
theorem cnt_one {p : Nat → Bool} : ∀ n, (∀ i j, i < n → j < n → p i = true → p j = true → i = j) → cnt p n ≤ 1 := by
  intro n
  induction n with
  | zero => intro _; rw [cnt]; omega
  | succ n ih =>
    intro h
    cases hp : p n with
    | false => rw [cnt_f hp]; exact ih fun i j hi hj => h i j (by omega) (by omega)
    | true =>
      rw [cnt_t hp, cnt_0 n (fun k hk => by
        cases hk2 : p k with
        | false => rfl
        | true => exact absurd (h k n (by omega) (by omega) hk2 hp) (by omega))]
      omega
set_option maxHeartbeats 200000 in
theorem farK_comm {S : St} {k j : Nat} : farK S (nI k) j = farK S (nI j) k := ffar_comm ..
set_option maxHeartbeats 200000 in
theorem pairG_same {S : St} {c : Nat} {L far : Int32} : smN (pairG S c L L far) c = smN (fun t => cnt (nr S L far t) t) c := by
  have e1 : ∀ k, k < c → pairG S c L L far k = cnt (fun j => decide (k < j) && nr S L far j k) c := by
    intro k hk
    unfold pairG
    rw [if_pos rfl]
    cases hp : inL S L k with
    | false =>
      rw [if_neg (by decide), cnt_0 c]
      intro j hj
      unfold nr
      rw [hp]
      simp
    | true =>
      rw [if_pos rfl]
      refine cnt_cong fun j hj => ?_
      unfold nearP nr
      rw [hp, farK_comm (k := k)]
      simp [Nat.succ_le_iff]
  rw [smN_cong e1, cnt_swap (fun k j => decide (k < j) && nr S L far j k)]
  exact smN_cong fun j hj => cnt_lt (p := nr S L far j) c (by omega)
set_option maxHeartbeats 200000 in
theorem pairG_mono {S : St} {c : Nat} {L L2 far far' : Int32} (h : far ≤ far') : smN (pairG S c L L2 far) c ≤ smN (pairG S c L L2 far') c := by
  refine smN_le fun k hk => ?_
  unfold pairG
  split
  · refine cnt_sub fun j hj q => ?_
    unfold nearP at q ⊢
    simp only [Bool.and_eq_true, decide_eq_true_eq] at q ⊢
    exact ⟨q.1, q.2.1, Int32.le_trans q.2.2 h⟩
  · exact Nat.le_refl _
/-! all near -/
def allN (S : St) (c : Nat) (far : Int32) : Prop := ∀ i j, i < c → j < c → farK S (nI i) j ≤ far
set_option maxHeartbeats 200000 in
theorem tri (p : Nat → Bool) : ∀ c, 2 * smN (fun t => if p t = true then cnt p t else 0) c + cnt p c = cnt p c * cnt p c := by
  intro c
  induction c with
  | zero => rfl
  | succ c ih =>
    rw [smN]
    cases hp : p c with
    | false => rw [cnt_f hp, if_neg (by decide)]; omega
    | true =>
      rw [cnt_t hp, if_pos rfl]
      have : (cnt p c + 1) * (cnt p c + 1) = cnt p c * cnt p c + 2 * cnt p c + 1 := by
        rw [Nat.add_mul, Nat.mul_add]; omega
      omega
set_option maxHeartbeats 200000 in
theorem nr_all {S : St} {c : Nat} {L far : Int32} (h : allN S c far) {t : Nat} (ht : t < c) : cnt (nr S L far t) t = if inL S L t = true then cnt (inL S L) t else 0 := by
  cases hp : inL S L t with
  | false =>
    rw [if_neg (by decide)]
    refine cnt_0 t fun k hk => ?_
    unfold nr
    rw [hp]; rfl
  | true =>
    rw [if_pos rfl]
    refine cnt_cong fun k hk => ?_
    unfold nr
    rw [hp, decide_eq_true (h t k ht (by omega))]
    simp
set_option maxHeartbeats 200000 in
theorem pairs_all {S : St} {c : Nat} {L far : Int32} (h : allN S c far) : 2 * smN (pairG S c L L far) c + cnt (inL S L) c = cnt (inL S L) c * cnt (inL S L) c := by
  rw [pairG_same, smN_cong (fun t ht => nr_all h ht)]
  exact tri _ c
set_option maxHeartbeats 200000 in
theorem pairs_cross {S : St} {c : Nat} {L L2 far : Int32} (hL : ¬ L = L2) (h : allN S c far) : smN (pairG S c L L2 far) c = cnt (inL S L) c * cnt (inL S L2) c := by
  have e1 : ∀ k, k < c → pairG S c L L2 far k = bN (inL S L k) * cnt (inL S L2) c := by
    intro k hk
    unfold pairG bN
    rw [if_neg hL]
    cases hp : inL S L k with
    | false => rw [if_neg (by decide), if_neg (by decide), Nat.zero_mul]
    | true =>
      rw [if_pos rfl, if_pos rfl, Nat.one_mul]
      refine cnt_cong fun j hj => ?_
      unfold nearP
      rw [decide_eq_true (h k j hk hj)]
      simp
  rw [smN_cong e1, cnt_smN (inL S L)]
  clear e1
  generalize cnt (inL S L2) c = m
  induction c with
  | zero => rw [smN, smN, Nat.zero_mul]
  | succ c ih =>
    rw [smN, smN, Nat.add_mul]
    rw [show smN (fun k => bN (inL S L k) * m) c = _ from ih (fun i j hi hj => h i j (by omega) (by omega))]
/-! roots -/
set_option maxHeartbeats 200000 in
theorem root_jn {S : St} {c t : Nat} {L one other : Int32} {g : Nat → Int32} (ht : t < 2 ^ 31) : cnt (rootP S L g) t ≤ cnt (rootP S L (jn g c one other)) t + 1 := by
  by_cases h : one = other
  · unfold jn
    rw [if_pos h]; omega
  · have h1 := cnt_or (rootP S L (jn g c one other)) (fun k => decide (nI k = mx one other)) t
    have h2 : cnt (fun k => decide (nI k = mx one other)) t ≤ 1 := cnt_one t fun i j hi hj q1 q2 => by
      have := (of_decide_eq_true q1).trans (of_decide_eq_true q2).symm
      exact (nI_eq (by omega) (by omega)).mp this
    have h3 : cnt (rootP S L g) t ≤ cnt (fun k => rootP S L (jn g c one other) k || decide (nI k = mx one other)) t := by
      refine cnt_sub fun k hk q => ?_
      by_cases e : nI k = mx one other
      · rw [decide_eq_true e, Bool.or_true]
      · unfold rootP at q ⊢
        simp only [Bool.and_eq_true, decide_eq_true_eq, Bool.or_eq_true] at q ⊢
        refine Or.inl ⟨q.1, ?_⟩
        unfold jn
        rw [if_neg h]
        show (if k < c ∧ g k = mx one other then mn one other else g k) = nI k
        rw [if_neg (fun z => e (q.2.symm.trans z.2))]
        exact q.2
    omega
set_option maxHeartbeats 200000 in
theorem root_gIn {S : St} {c t n : Nat} {L far : Int32} {g : Nat → Int32} (hn : n < 2 ^ 31) : ∀ i, cnt (rootP S L g) n ≤ cnt (rootP S L (gIn S c L far g t i)) n + cnt (nr S L far t) i := by
  intro i
  induction i with
  | zero => exact Nat.le_refl _
  | succ i ih =>
    cases hp : nr S L far t i with
    | false => rw [gIn_f hp, cnt_f hp]; exact ih
    | true =>
      rw [gIn_t hp, cnt_t hp]
      have := root_jn (S := S) (c := c) (L := L) (one := gIn S c L far g t i t) (other := gIn S c L far g t i i) (g := gIn S c L far g t i) hn
      omega
set_option maxHeartbeats 200000 in
theorem root_upd {S : St} {t : Nat} {L : Int32} {g : Nat → Int32} : cnt (rootP S L (upd g t (nI t))) (t + 1) = cnt (rootP S L g) t + bN (inL S L t) := by
  rw [cnt_succ]
  congr 1
  · refine cnt_cong fun k hk => ?_
    unfold rootP
    rw [upd_nq (by omega)]
  · unfold rootP
    rw [upd_at, decide_eq_true rfl, Bool.and_true]
set_option maxHeartbeats 200000 in
theorem root_gOut {S : St} {c : Nat} {L far : Int32} {g : Nat → Int32} : ∀ t, t < 2 ^ 30 → cnt (inL S L) t ≤ cnt (rootP S L (gOut S c L far g t)) t + smN (fun t => cnt (nr S L far t) t) t := by
  intro t
  induction t with
  | zero => intro _; exact Nat.zero_le _
  | succ t ih =>
    intro h
    have h1 := ih (by omega)
    have h2 := root_gIn (S := S) (c := c) (t := t) (n := t + 1) (L := L) (far := far) (g := upd (gOut S c L far g t) t (nI t)) (by omega) t
    rw [root_upd] at h2
    rw [cnt_succ, smN]
    show _ ≤ cnt (rootP S L (gIn S c L far (upd (gOut S c L far g t) t (nI t)) t t)) (t + 1) + _
    omega
set_option maxHeartbeats 200000 in
theorem clusters_ge {S : St} {c : Nat} {L far : Int32} {g : Nat → Int32} (h : c < 2 ^ 30) : cnt (inL S L) c ≤ cnt (rootP S L (gOut S c L far g c)) c + smN (pairG S c L L far) c := by
  rw [pairG_same]
  exact root_gOut c h
set_option maxHeartbeats 200000 in
theorem clusters_le {S : St} {c : Nat} {L : Int32} {g : Nat → Int32} : cnt (rootP S L g) c ≤ cnt (inL S L) c := by
  refine cnt_sub fun k hk q => ?_
  unfold rootP at q
  simp only [Bool.and_eq_true] at q
  exact q.1
/-! the greatest -/
def grtN (S : St) (c : Nat) (L : Int32) (g : Nat → Int32) (n : Nat) : Nat := match n with
  | 0 => 0
  | n + 1 => max (grtN S c L g n) (cnt (labP S L g (nI n)) c)
set_option maxHeartbeats 200000 in
theorem grt_nI {S : St} {c : Nat} {L : Int32} {g : Nat → Int32} (hc : c < 2 ^ 31) : ∀ n, grt S c L g n = nI (grtN S c L g n) ∧ grtN S c L g n ≤ c := by
  intro n
  induction n with
  | zero => exact ⟨nI_0.symm, Nat.zero_le _⟩
  | succ n ih =>
    have h2 := cnt_le (labP S L g (nI n)) c
    refine ⟨?_, by show max _ _ ≤ c; omega⟩
    show mx (grt S c L g n) (nI (cnt (labP S L g (nI n)) c)) = nI (max _ _)
    rw [ih.1]
    apply i32_ext
    rw [mx_toInt, nI_toInt (by omega), nI_toInt (by omega), nI_toInt (by omega)]
    omega
set_option maxHeartbeats 200000 in
theorem grtN_le {S : St} {c B : Nat} {L : Int32} {g : Nat → Int32} : ∀ n, (∀ k, k < n → cnt (labP S L g (nI k)) c ≤ B) → grtN S c L g n ≤ B := by
  intro n
  induction n with
  | zero => intro _; exact Nat.zero_le _
  | succ n ih =>
    intro h
    have h1 := ih fun k hk => h k (by omega)
    have h2 := h n (by omega)
    show max _ _ ≤ B
    omega
set_option maxHeartbeats 200000 in
theorem grtN_ge {S : St} {c : Nat} {L : Int32} {g : Nat → Int32} {k : Nat} : ∀ n, k < n → cnt (labP S L g (nI k)) c ≤ grtN S c L g n := by
  intro n
  induction n with
  | zero => intro h; omega
  | succ n ih =>
    intro h
    show _ ≤ max _ _
    by_cases e : k = n
    · subst e; omega
    · have := ih (by omega); omega
set_option maxHeartbeats 200000 in
theorem grt_clusters {S : St} {c : Nat} {L : Int32} {g : Nat → Int32} (hc : c < 2 ^ 31) : grtN S c L g c + cnt (rootP S L g) c ≤ cnt (inL S L) c + 1 := by
  have key : ∀ k, k < c → cnt (labP S L g (nI k)) c + cnt (rootP S L g) c ≤ cnt (inL S L) c + 1 := by
    intro n hn
    have h1 := cnt_or (labP S L g (nI n)) (rootP S L g) c
    have h2 : cnt (fun k => labP S L g (nI n) k || rootP S L g k) c ≤ cnt (inL S L) c := by
      refine cnt_sub fun k hk q => ?_
      unfold labP rootP at q
      simp only [Bool.and_eq_true, Bool.or_eq_true] at q
      exact q.elim (fun z => z.1) (fun z => z.1)
    have h3 : cnt (fun k => labP S L g (nI n) k && rootP S L g k) c ≤ 1 := by
      refine cnt_one c fun i j hi hj q1 q2 => ?_
      unfold labP rootP at q1 q2
      simp only [Bool.and_eq_true, decide_eq_true_eq] at q1 q2
      have e1 := (nI_eq (by omega) (by omega)).mp (q1.2.2.symm.trans q1.1.2)
      have e2 := (nI_eq (by omega) (by omega)).mp (q2.2.2.symm.trans q2.1.2)
      omega
    omega
  have h0 : cnt (rootP S L g) c ≤ cnt (inL S L) c := clusters_le
  have := grtN_le (S := S) (c := c) (B := cnt (inL S L) c + 1 - cnt (rootP S L g) c) (L := L) (g := g) c (fun k hk => by have := key k hk; omega)
  omega
/-! all in one -/
def oneL (S : St) (L : Int32) (g : Nat → Int32) (t : Nat) : Prop := (∀ k, k < t → inL S L k = false) ∨ ∃ f, f < t ∧ inL S L f = true ∧ ∀ k, k < t → inL S L k = true → g k = nI f ∧ f ≤ k
set_option maxHeartbeats 200000 in
theorem one_in {S : St} {c t : Nat} {L far : Int32} (h : allN S c far) (htc : t < c) (hc : c < 2 ^ 31) {g : Nat → Int32} {f : Nat} (hf : f < t) (hfi : inL S L f = true) (ht : inL S L t = true) (h1 : ∀ k, k < t → inL S L k = true → g k = nI f ∧ f ≤ k) (h2 : g t = nI t) :
    ∀ i, i ≤ t → (∀ k, k < t → inL S L k = true → gIn S c L far g t i k = nI f) ∧ gIn S c L far g t i t = (if f < i then nI f else nI t) := by
  intro i
  induction i with
  | zero => intro _; exact ⟨fun k hk hi => (h1 k hk hi).1, by rw [if_neg (by omega)]; exact h2⟩
  | succ i ih =>
    intro hi
    obtain ⟨a1, a2⟩ := ih (by omega)
    cases hp : inL S L i with
    | false =>
      have hn : nr S L far t i = false := by unfold nr; rw [hp]; simp
      rw [gIn_f hn]
      refine ⟨a1, ?_⟩
      rw [a2]
      by_cases e : f < i
      · rw [if_pos e, if_pos (by omega)]
      · have : f ≠ i := fun z => by rw [z, hp] at hfi; cases hfi
        rw [if_neg e, if_neg (by omega)]
    | true =>
      have hn : nr S L far t i = true := by unfold nr; rw [hp, ht, decide_eq_true (h t i htc (by omega))]; rfl
      rw [gIn_t hn]
      have b1 := a1 i (by omega) hp
      have b2 := (h1 i (by omega) hp).2
      by_cases e : f < i
      · rw [if_pos e] at a2
        unfold jn
        rw [a2, b1, if_pos rfl, if_pos (by omega)]
        exact ⟨a1, a2⟩
      · have e2 : f = i := by omega
        subst e2
        rw [if_neg e] at a2
        have hm : mx (nI t) (nI f) = nI t := i32_ext (by rw [mx_toInt, nI_toInt (by omega), nI_toInt (by omega)]; omega)
        have hm2 : mn (nI t) (nI f) = nI f := i32_ext (by rw [mn_toInt, nI_toInt (by omega), nI_toInt (by omega)]; omega)
        have hne : ¬ nI t = nI f := fun z => by have := (nI_eq (by omega) (by omega)).mp z; omega
        unfold jn
        rw [a2, b1, if_neg hne, hm, hm2]
        refine ⟨fun k hk hi2 => ?_, ?_⟩
        · show (if k < c ∧ gIn S c L far g t f k = nI t then nI f else gIn S c L far g t f k) = nI f
          rw [a1 k hk hi2, if_neg (fun z => hne z.2.symm)]
        · show (if t < c ∧ gIn S c L far g t f t = nI t then nI f else gIn S c L far g t f t) = _
          rw [if_pos ⟨htc, a2⟩, if_pos (by omega)]
set_option maxHeartbeats 200000 in
theorem gIn_out {S : St} {c t : Nat} {L far : Int32} {g : Nat → Int32} (ht : inL S L t = false) : ∀ i, gIn S c L far g t i = g := by
  intro i
  induction i with
  | zero => rfl
  | succ i ih =>
    have hn : nr S L far t i = false := by unfold nr; rw [ht]; rfl
    rw [gIn_f hn, ih]
set_option maxHeartbeats 200000 in
theorem gIn_none {S : St} {c t : Nat} {L far : Int32} {g : Nat → Int32} : ∀ i, (∀ k, k < i → inL S L k = false) → gIn S c L far g t i = g := by
  intro i
  induction i with
  | zero => intro _; rfl
  | succ i ih =>
    intro h
    have hn : nr S L far t i = false := by unfold nr; rw [h i (by omega)]; simp
    rw [gIn_f hn, ih (fun k hk => h k (by omega))]
set_option maxHeartbeats 200000 in
theorem one_out {S : St} {c : Nat} {L far : Int32} {g : Nat → Int32} (h : allN S c far) (hc : c < 2 ^ 31) : ∀ t, t ≤ c → oneL S L (gOut S c L far g t) t := by
  intro t
  induction t with
  | zero => intro _; exact Or.inl fun k hk => by omega
  | succ t ih =>
    intro htc
    have h0 := ih (by omega)
    show oneL S L (gIn S c L far (upd (gOut S c L far g t) t (nI t)) t t) (t + 1)
    cases hp : inL S L t with
    | false =>
      rw [gIn_out hp]
      rcases h0 with q | ⟨f, q1, q2, q3⟩
      · refine Or.inl fun k hk => ?_
        by_cases e : k = t
        · subst e; exact hp
        · exact q k (by omega)
      · refine Or.inr ⟨f, by omega, q2, fun k hk hi => ?_⟩
        by_cases e : k = t
        · subst e; rw [hp] at hi; cases hi
        · rw [upd_nq e]; exact q3 k (by omega) hi
    | true =>
      rcases h0 with q | ⟨f, q1, q2, q3⟩
      · rw [gIn_none t q]
        refine Or.inr ⟨t, by omega, hp, fun k hk hi => ?_⟩
        by_cases e : k = t
        · subst e; exact ⟨upd_at, Nat.le_refl _⟩
        · rw [q k (by omega)] at hi; cases hi
      · obtain ⟨a1, a2⟩ := one_in h (by omega) hc (g := upd (gOut S c L far g t) t (nI t)) q1 q2 hp (fun k hk hi => by rw [upd_nq (by omega)]; exact q3 k hk hi) upd_at t (Nat.le_refl _)
        rw [if_pos q1] at a2
        refine Or.inr ⟨f, by omega, q2, fun k hk hi => ?_⟩
        by_cases e : k = t
        · subst e; exact ⟨a2, by omega⟩
        · exact ⟨a1 k (by omega) hi, (q3 k (by omega) hi).2⟩
set_option maxHeartbeats 200000 in
theorem one_clusters {S : St} {c : Nat} {L : Int32} {g : Nat → Int32} (hc : c < 2 ^ 31) (h : oneL S L g c) : cnt (rootP S L g) c = min 1 (cnt (inL S L) c) ∧ grtN S c L g c = cnt (inL S L) c := by
  rcases h with q | ⟨f, q1, q2, q3⟩
  · have e0 : cnt (inL S L) c = 0 := cnt_0 c q
    have e1 : cnt (rootP S L g) c = 0 := by have := clusters_le (S := S) (c := c) (L := L) (g := g); omega
    refine ⟨by omega, ?_⟩
    have := grtN_le (S := S) (c := c) (B := 0) (L := L) (g := g) c fun k hk => by
      rw [cnt_0 c]
      · exact Nat.le_refl _
      · intro j hj; unfold labP; rw [q j hj]; rfl
    omega
  · have h1 : 0 < cnt (rootP S L g) c := cnt_mem (k := f) (by unfold rootP; rw [q2, (q3 f q1 q2).1, decide_eq_true rfl]; rfl) c q1
    have h2 : cnt (rootP S L g) c ≤ 1 := cnt_one c fun i j hi hj z1 z2 => by
      unfold rootP at z1 z2
      simp only [Bool.and_eq_true, decide_eq_true_eq] at z1 z2
      have e1 := (nI_eq (by omega) (by omega)).mp ((q3 i hi (decide_eq_true z1.1)).1.symm.trans z1.2)
      have e2 := (nI_eq (by omega) (by omega)).mp ((q3 j hj (decide_eq_true z2.1)).1.symm.trans z2.2)
      omega
    have h3 : 0 < cnt (inL S L) c := cnt_mem q2 c q1
    refine ⟨by omega, ?_⟩
    have h4 := grtN_ge (S := S) (c := c) (L := L) (g := g) c q1
    have h5 : cnt (labP S L g (nI f)) c = cnt (inL S L) c := cnt_cong fun k hk => by
      unfold labP
      cases hp : inL S L k with
      | false => rfl
      | true => rw [(q3 k hk hp).1, decide_eq_true rfl]; rfl
    have h6 := grtN_le (S := S) (c := c) (B := cnt (inL S L) c) (L := L) (g := g) c fun k hk => cnt_sub fun j hj z => by
      unfold labP at z
      simp only [Bool.and_eq_true] at z
      exact z.1
    omega
/-! labels don't depend on the old ones -/
set_option maxHeartbeats 200000 in
theorem gIn_cong {S : St} {c t : Nat} {L far : Int32} {g g' : Nat → Int32} (h : ∀ k, k ≤ t → g k = g' k) : ∀ i, i ≤ t → ∀ k, k ≤ t → gIn S c L far g t i k = gIn S c L far g' t i k := by
  intro i
  induction i with
  | zero => intro _ k hk; exact h k hk
  | succ i ih =>
    intro hi k hk
    cases hp : nr S L far t i with
    | false => rw [gIn_f hp, gIn_f hp]; exact ih (by omega) k hk
    | true =>
      rw [gIn_t hp, gIn_t hp, ih (by omega) t (Nat.le_refl _), ih (by omega) i (by omega)]
      unfold jn
      split
      · exact ih (by omega) k hk
      · show (if k < c ∧ gIn S c L far g t i k = _ then _ else gIn S c L far g t i k) = (if k < c ∧ gIn S c L far g' t i k = _ then _ else gIn S c L far g' t i k)
        rw [ih (by omega) k hk]
set_option maxHeartbeats 200000 in
theorem gOut_cong {S : St} {c : Nat} {L far : Int32} {g g' : Nat → Int32} : ∀ t k, k < t → gOut S c L far g t k = gOut S c L far g' t k := by
  intro t
  induction t with
  | zero => intro k hk; omega
  | succ t ih =>
    intro k hk
    refine gIn_cong (fun j hj => ?_) t (Nat.le_refl _) k (by omega)
    by_cases e : j = t
    · subst e; rw [upd_at, upd_at]
    · rw [upd_nq e, upd_nq e]; exact ih j (by omega)
set_option maxHeartbeats 200000 in
theorem root_cong {S : St} {c : Nat} {L : Int32} {g g' : Nat → Int32} (h : ∀ k, k < c → g k = g' k) : cnt (rootP S L g) c = cnt (rootP S L g') c := cnt_cong fun k hk => by
  unfold rootP
  rw [h k hk]
set_option maxHeartbeats 200000 in
theorem grtN_cong {S : St} {c : Nat} {L : Int32} {g g' : Nat → Int32} (h : ∀ k, k < c → g k = g' k) : ∀ n, grtN S c L g n = grtN S c L g' n := by
  intro n
  induction n with
  | zero => rfl
  | succ n ih =>
    show max _ _ = max _ _
    rw [ih, cnt_cong (q := labP S L g' (nI n)) fun k hk => by unfold labP; rw [h k hk]]
