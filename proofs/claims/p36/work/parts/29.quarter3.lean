/-! the tree of quarters: what stays true while it grows -/
def pthG (sp : Nat → Bool) (fr lv : Nat → Nat) (x y : Nat) (f a b : Nat) : Prop := match f with
  | 0 => a = b
  | f + 1 => sp a = true ∧ pthG sp fr lv x y f (fr a + eN (lv a) x y) b
set_option maxHeartbeats 800000 in
theorem pthG_mono {sp sp' : Nat → Bool} {fr fr' lv lv' : Nat → Nat} {x y : Nat} (h : ∀ a, sp a = true → sp' a = true ∧ fr' a = fr a ∧ lv' a = lv a) {b : Nat} : ∀ f a, pthG sp fr lv x y f a b → pthG sp' fr' lv' x y f a b := by
  intro f
  induction f with
  | zero => intro a q; exact q
  | succ f ih =>
    intro a q
    obtain ⟨h1, h2, h3⟩ := h a q.1
    refine ⟨h1, ?_⟩
    rw [h2, h3]
    exact ih _ q.2
set_option maxHeartbeats 800000 in
theorem pthG_snoc {sp : Nat → Bool} {fr lv : Nat → Nat} {x y b : Nat} (hb : sp b = true) : ∀ f a, pthG sp fr lv x y f a b → pthG sp fr lv x y (f + 1) a (fr b + eN (lv b) x y) := by
  intro f
  induction f with
  | zero => intro a q; cases q; exact ⟨hb, rfl⟩
  | succ f ih => intro a q; exact ⟨q.1, ih _ q.2⟩
def inR (lv gx gy : Nat → Nat) (i x y : Nat) : Prop := x / 2 ^ (10 - lv i) = gx i ∧ y / 2 ^ (10 - lv i) = gy i
def smR (X Y : Nat → Nat) (l k j : Nat) : Bool := decide (X j / 2 ^ (10 - l) = X k / 2 ^ (10 - l)) && decide (Y j / 2 ^ (10 - l) = Y k / 2 ^ (10 - l))
/-- how many lie in one square with k -/
def ccN (p : Nat → Bool) (X Y : Nat → Nat) (c l k : Nat) : Nat := cnt (fun j => p j && smR X Y l k j) c
def fsN (p : Nat → Bool) (X Y : Nat → Nat) (l k : Nat) : Bool := decide (cnt (fun j => p j && smR X Y l k j) k = 0)
def hmC (p : Nat → Bool) (hm : Nat → Nat) (c i : Nat) : Nat := cnt (fun k => p k && decide (hm k = i)) c
def QI1 (S : St) (t N : Nat) (lv gx gy : Nat → Nat) : Prop := ∀ i, i < N → lv i ≤ 10 ∧ S.1 (t + 11) i = nI (lv i) ∧ S.1 (t + 3) i = nI (gx i * 2 ^ (10 - lv i)) ∧ S.1 (t + 5) i = nI (gy i * 2 ^ (10 - lv i)) ∧ S.1 (t + 7) i = nI (2 ^ (10 - lv i) - 1) ∧ S.1 (t + 9) i = nI (2 ^ (10 - lv i) - 1) ∧ gx i < 2 ^ lv i ∧ gy i < 2 ^ lv i
def QI2 (S : St) (t N sq : Nat) (lv gx gy fr : Nat → Nat) (sp : Nat → Bool) : Prop := (∀ i, i < N → S.1 (t + 17) i = if sp i = true then 4 else 0) ∧ ∀ i, sp i = true → i < sq ∧ i < N ∧ lv i ≤ 9 ∧ S.1 (t + 15) i = nI (fr i) ∧ fr i + 4 ≤ N ∧ ∀ j, j < 4 → S.1 (t + 19) (fr i + j) = nI (fr i + j) ∧ lv (fr i + j) = lv i + 1 ∧ gx (fr i + j) = 2 * gx i + j % 2 ∧ gy (fr i + j) = 2 * gy i + j / 2
def QI3 (S : St) (t c N : Nat) (p : Nat → Bool) (X Y lv gx gy hm fr : Nat → Nat) (sp : Nat → Bool) : Prop := (∀ k, k < c → S.1 (t + 21) k = if p k = true then nI (hm k) else -1) ∧ (∀ k, k < c → p k = true → hm k < N ∧ sp (hm k) = false ∧ inR lv gx gy (hm k) (X k) (Y k) ∧ pthG sp fr lv (X k) (Y k) (lv (hm k)) 0 (hm k)) ∧ (∀ i, i < N → sp i = false → S.1 (t + 13) i = nI (hmC p hm c i)) ∧ ∀ i, i < N → sp i = false → ∀ k, k < c → p k = true → inR lv gx gy i (X k) (Y k) → hm k = i
def QI4 (c N sq cap : Nat) (p : Nat → Bool) (X Y lv hm : Nat → Nat) (sp : Nat → Bool) : Prop := (∀ k, k < c → p k = true → ∀ l, l < lv (hm k) → cap < ccN p X Y c l k) ∧ N = 1 + 4 * smN (fun l => cnt (fun k => p k && (decide (l < lv (hm k)) && fsN p X Y l k)) c) 10 ∧ ∀ i, i < sq → i < N → sp i = false → ¬ (cap < hmC p hm c i ∧ lv i ≤ 9)
def QI (S : St) (t c : Nat) (p : Nat → Bool) (X Y : Nat → Nat) (cap N sq : Nat) (lv gx gy hm fr : Nat → Nat) (sp : Nat → Bool) : Prop :=
  (tN S t = nI N ∧ tR S t = nI 0 ∧ 1 ≤ N) ∧ QI1 S t N lv gx gy ∧ QI2 S t N sq lv gx gy fr sp ∧ QI3 S t c N p X Y lv gx gy hm fr sp ∧ QI4 c N sq cap p X Y lv hm sp
-- never many
set_option maxHeartbeats 800000 in
theorem qi_small {c N sq cap : Nat} {p : Nat → Bool} {X Y lv hm : Nat → Nat} {sp : Nat → Bool} (h : QI4 c N sq cap p X Y lv hm sp) : N ≤ 1 + 40 * c := by
  have : smN (fun l => cnt (fun k => p k && (decide (l < lv (hm k)) && fsN p X Y l k)) c) 10 ≤ smN (fun _ => c) 10 := smN_le fun l _ => cnt_le _ c
  have e : smN (fun _ => c) 10 = 10 * c := by simp only [smN]; omega
  have := h.2.1
  omega
set_option maxHeartbeats 800000 in
theorem cnt_first (P : Nat → Bool) : ∀ c, cnt (fun k => P k && decide (cnt P k = 0)) c = if 0 < cnt P c then 1 else 0 := by
  intro c
  induction c with
  | zero => rfl
  | succ c ih =>
    rw [cnt_succ, ih, cnt_succ]
    cases hp : P c with
    | false => show _ + 0 = if 0 < cnt P c + 0 then 1 else 0; rw [Nat.add_zero, Nat.add_zero]
    | true =>
      by_cases h : cnt P c = 0
      · rw [h]; rfl
      · rw [if_pos (by omega), decide_eq_false h, if_pos (by omega)]; rfl
set_option maxHeartbeats 800000 in
theorem smN_one (a : Nat → Nat) (l d : Nat) : ∀ n, l < n → smN (fun i => a i + if i = l then d else 0) n = smN a n + d := by
  intro n
  induction n with
  | zero => intro h; omega
  | succ n ih =>
    intro h
    rw [smN, smN]
    by_cases e : l = n
    · subst e
      rw [if_pos rfl, smN_cong (g' := a) (fun i hi => by rw [if_neg (by omega)]; rfl)]
      omega
    · rw [if_neg (by omega), ih (by omega)]; omega
-- one square with k
set_option maxHeartbeats 800000 in
theorem smR_in {X Y lv gx gy : Nat → Nat} {i k j : Nat} (h : inR lv gx gy i (X k) (Y k)) : smR X Y (lv i) k j = true ↔ inR lv gx gy i (X j) (Y j) := by
  unfold smR inR at *
  rw [h.1, h.2, Bool.and_eq_true, decide_eq_true_eq, decide_eq_true_eq]
set_option maxHeartbeats 800000 in
theorem cc_hm {c N : Nat} {p : Nat → Bool} {X Y lv gx gy hm : Nat → Nat} {sp : Nat → Bool} (h2 : ∀ k, k < c → p k = true → hm k < N ∧ sp (hm k) = false ∧ inR lv gx gy (hm k) (X k) (Y k)) (h4 : ∀ i, i < N → sp i = false → ∀ k, k < c → p k = true → inR lv gx gy i (X k) (Y k) → hm k = i) {i k n : Nat} (hn : n ≤ c) (hi : i < N) (hs : sp i = false) (hk : k < c) (hp : p k = true) (hr : hm k = i) : cnt (fun j => p j && smR X Y (lv i) k j) n = cnt (fun j => p j && decide (hm j = i)) n := by
  have hin := (h2 k hk hp).2.2
  rw [hr] at hin
  refine cnt_cong fun j hj => ?_
  show (p j && smR X Y (lv i) k j) = (p j && decide (hm j = i))
  cases hpj : p j with
  | false => rfl
  | true =>
    rw [Bool.true_and, Bool.true_and]
    by_cases e : hm j = i
    · rw [decide_eq_true e, smR_in hin]
      have := (h2 j (by omega) hpj).2.2
      rw [e] at this
      exact this
    · rw [decide_eq_false e]
      cases hz : smR X Y (lv i) k j with
      | false => rfl
      | true => exact absurd (h4 i hi hs j (by omega) hpj ((smR_in hin).mp hz)) e
section QS
variable {S : St} {t c : Nat} {p : Nat → Bool} {X Y : Nat → Nat} {cap N sq : Nat} {lv gx gy hm fr : Nat → Nat} {sp : Nat → Bool}
def lv' (N l : Nat) (lv : Nat → Nat) : Nat → Nat := fun i => if i < N then lv i else l + 1
def gx' (N g : Nat) (gx : Nat → Nat) : Nat → Nat := fun i => if i < N then gx i else 2 * g + (i - N) % 2
def gy' (N g : Nat) (gy : Nat → Nat) : Nat → Nat := fun i => if i < N then gy i else 2 * g + (i - N) / 2
def hm' (N sq l : Nat) (X Y hm : Nat → Nat) : Nat → Nat := fun k => if hm k = sq then N + eN l (X k) (Y k) else hm k
def fr' (N sq : Nat) (fr : Nat → Nat) : Nat → Nat := fun i => if i = sq then N else fr i
def sp' (sq : Nat) (sp : Nat → Bool) : Nat → Bool := fun i => if i = sq then true else sp i
-- the cut keeps it
set_option maxHeartbeats 800000 in
theorem qi_cut (ht : 12 < t) (hc : c ≤ 29) (hX : ∀ k, k < c → S.1 4 k = nI (X k) ∧ S.1 6 k = nI (Y k) ∧ X k ≤ 1023 ∧ Y k ≤ 1023) (h : QI S t c p X Y cap N sq lv gx gy hm fr sp) (hsq : sq < N) (hcap : cap < hmC p hm c sq) (hl : lv sq ≤ 9) :
    QI (splS S t (nI sq) c) t c p X Y cap (N + 4) (sq + 1) (lv' N (lv sq) lv) (gx' N (gx sq) gx) (gy' N (gy sq) gy) (hm' N sq (lv sq) X Y hm) (fr' N sq fr) (sp' sq sp) := by
  obtain ⟨⟨hN, hR, h1N⟩, q1, q2, q3, q4⟩ := h
  have hNs := qi_small q4
  have hss : sp sq = false := by
    cases z : sp sq with
    | false => rfl
    | true => exact absurd (q2.2 sq z).1 (by omega)
  have hspN : ∀ i, sp i = true → i < N := fun i z => (q2.2 i z).2.1
  obtain ⟨-, w11, w3, w5, w7, w9, wgx, wgy⟩ := q1 sq hsq
  have hp9 : 2 ^ (9 - lv sq) ≤ 1024 := by rcases pw_le (l := 9 - lv sq) with q | q <;> omega
  have hp1 := Nat.one_le_two_pow (n := 9 - lv sq)
  have hhalf : halfV S t (nI sq) = nI (2 ^ (9 - lv sq)) := by
    unfold halfV
    rw [show bW S (t + 1) 1205 (nI sq) = nI (2 ^ (10 - lv sq) - 1) from (rat_nI (by omega) (by decide)).trans w7]
    exact half_nI hl
  have hin : ∀ k, k < c → p k = true → hm k = sq → inR lv gx gy sq (X k) (Y k) := fun k hk hp e => by
    have := (q3.2.1 k hk hp).2.2.1
    rw [e] at this; exact this
  obtain ⟨⟨r8, r9⟩, ro, rn, r17, r17n, r15, r21, r13, r13n⟩ := splS_eff (S := S) (t := t) (N := N) (q := sq) (c := c) (hm := hm) (p := p) (e := fun k => eN (lv sq) (X k) (Y k)) ht hN hsq (by omega) (by omega) q3.1 (fun k hk hp => (q3.2.1 k hk hp).1)
    (fun k hk hp e => ⟨eN_lt _ _ _, by
      obtain ⟨x1, x2, x3, x4⟩ := hX k hk
      rw [show bX S 2 80 (nI k) = nI (X k) from (rat_nI (by omega) (by decide)).trans x1, show bY S 2 80 (nI k) = nI (Y k) from (rat_nI (by omega) (by decide)).trans x2]
      exact qtr_nI hl (by omega) w3 w5 w7 x3 x4 (hin k hk hp e).1 (hin k hk hp e).2⟩) hhalf
  generalize hRR : splS S t (nI sq) c = R at *
  have elv : ∀ i, i < N → lv' N (lv sq) lv i = lv i := fun i hi => if_pos hi
  have egx : ∀ i, i < N → gx' N (gx sq) gx i = gx i := fun i hi => if_pos hi
  have egy : ∀ i, i < N → gy' N (gy sq) gy i = gy i := fun i hi => if_pos hi
  have flv : ∀ j, lv' N (lv sq) lv (N + j) = lv sq + 1 := fun j => if_neg (by omega)
  have fgx : ∀ j, gx' N (gx sq) gx (N + j) = 2 * gx sq + j % 2 := fun j => by unfold gx'; rw [if_neg (by omega), show N + j - N = j by omega]
  have fgy : ∀ j, gy' N (gy sq) gy (N + j) = 2 * gy sq + j / 2 := fun j => by unfold gy'; rw [if_neg (by omega), show N + j - N = j by omega]
  have eR : ∀ i x y, i < N → (inR (lv' N (lv sq) lv) (gx' N (gx sq) gx) (gy' N (gy sq) gy) i x y ↔ inR lv gx gy i x y) := fun i x y hi => by unfold inR; rw [elv i hi, egx i hi, egy i hi]
  -- the quarter in which a point of the square lies
  have fR : ∀ x y j, inR lv gx gy sq x y → j < 4 → (inR (lv' N (lv sq) lv) (gx' N (gx sq) gx) (gy' N (gy sq) gy) (N + j) x y ↔ eN (lv sq) x y = j) := by
    intro x y j hxy hj
    have b1 := (bit_lt hl hxy.1).2
    have b2 := (bit_lt hl hxy.2).2
    unfold inR
    rw [flv, fgx, fgy, show 10 - (lv sq + 1) = 9 - lv sq by omega]
    unfold eN
    omega
  have fR2 : ∀ x y j, inR (lv' N (lv sq) lv) (gx' N (gx sq) gx) (gy' N (gy sq) gy) (N + j) x y → j < 4 → inR lv gx gy sq x y := by
    intro x y j hxy hj
    unfold inR at hxy ⊢
    rw [flv, fgx, fgy, show 10 - (lv sq + 1) = 9 - lv sq by omega] at hxy
    rw [dv2 hl, dv2 hl]
    omega
  have hmq : ∀ k, hm k = sq → hm' N sq (lv sq) X Y hm k = N + eN (lv sq) (X k) (Y k) := fun k e => if_pos e
  have hmn : ∀ k, ¬ hm k = sq → hm' N sq (lv sq) X Y hm k = hm k := fun k e => if_neg e
  have spn : ∀ i, ¬ i = sq → sp' sq sp i = sp i := fun i e => if_neg e
  have spq : sp' sq sp sq = true := if_pos rfl
  have spN : ∀ j, sp' sq sp (N + j) = false := fun j => by
    rw [spn _ (by omega)]
    cases z : sp (N + j) with
    | false => rfl
    | true => exact absurd (hspN _ z) (by omega)
  have hpm : ∀ a, sp a = true → sp' sq sp a = true ∧ fr' N sq fr a = fr a ∧ lv' N (lv sq) lv a = lv a := fun a ha => by
    have : ¬ a = sq := fun z => by rw [z, hss] at ha; cases ha
    exact ⟨by rw [spn a this]; exact ha, if_neg this, elv a (hspN a ha)⟩
  refine ⟨⟨r8, r9.trans hR, by omega⟩, ?_, ?_, ?_, ?_⟩
  · intro i hi
    rcases Nat.lt_or_ge i N with g | g
    · obtain ⟨v1, v2, v3, v4, v5, v6, v7, v8⟩ := q1 i g
      rw [elv i g, egx i g, egy i g, ro _ (by omega) i g, ro (t + 3) (by omega) i g, ro (t + 5) (by omega) i g, ro (t + 7) (by omega) i g, ro (t + 9) (by omega) i g]
      exact ⟨v1, v2, v3, v4, v5, v6, v7, v8⟩
    · obtain ⟨j, rfl⟩ : ∃ j, i = N + j := ⟨i - N, by omega⟩
      have hj : j < 4 := by omega
      obtain ⟨z1, z2, z3, z4, z5, z6⟩ := rn j hj
      have hpw := pw hl
      have j2 : nI j - nI j / 2 * 2 = nI (j % 2) := nI_rem (b := 2) (by omega) (by decide)
      have jd : nI j / 2 = nI (j / 2) := nI_div (b := 2) (by omega) (by decide)
      rw [w3, j2, nI_mul, nI_add] at z2
      rw [w5, jd, nI_mul, nI_add] at z3
      rw [w11, nI_1] at z1
      have hm1 : nI (2 ^ (9 - lv sq)) - 1 = nI (2 ^ (9 - lv sq) - 1) := nI_sub (b := 1) hp1
      rw [hm1] at z4 z5
      have hg2 : 2 ^ (lv sq + 1) = 2 * 2 ^ lv sq := by rw [Nat.pow_succ]; omega
      rw [flv, fgx, fgy, show 10 - (lv sq + 1) = 9 - lv sq by omega]
      refine ⟨by omega, z1, ?_, ?_, z4, z5, by omega, by omega⟩
      · rw [z2, hpw, Nat.add_mul]; congr 2; rw [Nat.mul_comm 2 (gx sq), Nat.mul_assoc]
      · rw [z3, hpw, Nat.add_mul]; congr 2; rw [Nat.mul_comm 2 (gy sq), Nat.mul_assoc]
  · refine ⟨fun i hi => ?_, fun i hi => ?_⟩
    · rcases Nat.lt_or_ge i N with g | g
      · rw [r17 i g]
        by_cases e : i = sq
        · subst e; rw [if_pos rfl, spq, if_pos rfl]
        · rw [if_neg e, spn i e]; exact q2.1 i g
      · obtain ⟨j, rfl⟩ : ∃ j, i = N + j := ⟨i - N, by omega⟩
        rw [r17n j (by omega), spN, if_neg (by decide)]
    · by_cases e : i = sq
      · subst e
        refine ⟨by omega, by omega, by rw [elv _ hsq]; exact hl, ?_, ?_, ?_⟩
        · rw [r15, if_pos rfl]; unfold fr'; rw [if_pos rfl]
        · unfold fr'; rw [if_pos rfl]; omega
        · intro j hj
          unfold fr'
          rw [if_pos rfl, flv, fgx, fgy, elv _ hsq, egx _ hsq, egy _ hsq]
          exact ⟨(rn j hj).2.2.2.2.2, rfl, rfl, rfl⟩
      · rw [spn i e] at hi
        obtain ⟨u1, u2, u3, u4, u5, u6⟩ := q2.2 i hi
        have ef : fr' N sq fr i = fr i := if_neg e
        rw [ef, elv i u2, egx i u2, egy i u2]
        refine ⟨by omega, by omega, u3, by rw [r15, if_neg e]; exact u4, by omega, fun j hj => ?_⟩
        rw [elv _ (by omega), egx _ (by omega), egy _ (by omega), ro _ (by omega) _ (by omega)]
        exact u6 j hj
  · refine ⟨fun k hk => ?_, fun k hk hp => ?_, fun i hi hs => ?_, fun i hi hs k hk hp hr => ?_⟩
    · rw [r21 k hk]
      by_cases e : p k = true ∧ hm k = sq
      · rw [if_pos e, if_pos e.1, hmq k e.2]
      · rw [if_neg e, q3.1 k hk]
        by_cases e1 : p k = true
        · rw [if_pos e1, if_pos e1, hmn k (fun z => e ⟨e1, z⟩)]
        · rw [if_neg e1, if_neg e1]
    · obtain ⟨u1, u2, u3, u4⟩ := q3.2.1 k hk hp
      by_cases e : hm k = sq
      · rw [hmq k e]
        have he4 := eN_lt (lv sq) (X k) (Y k)
        refine ⟨by omega, spN _, (fR _ _ _ (hin k hk hp e) he4).mpr rfl, ?_⟩
        rw [flv]
        rw [e] at u4
        have a1 := pthG_snoc (sp := sp' sq sp) (fr := fr' N sq fr) (lv := lv' N (lv sq) lv) spq _ _ (pthG_mono hpm _ _ u4)
        rw [show fr' N sq fr sq = N from if_pos rfl, elv sq hsq] at a1
        exact a1
      · rw [hmn k e]
        refine ⟨by omega, by rw [spn _ e]; exact u2, (eR _ _ _ u1).mpr u3, ?_⟩
        rw [elv _ u1]
        exact pthG_mono hpm _ _ u4
    · rcases Nat.lt_or_ge i N with g | g
      · have e : ¬ i = sq := fun z => by rw [z, spq] at hs; cases hs
        rw [spn i e] at hs
        rw [r13 i g, q3.2.2.1 i g hs]
        congr 1
        refine cnt_cong fun k hk => ?_
        show (p k && decide (hm k = i)) = (p k && decide (hm' N sq (lv sq) X Y hm k = i))
        by_cases z : hm k = sq
        · rw [hmq k z, decide_eq_false (p := hm k = i) (by omega), decide_eq_false (by omega)]
        · rw [hmn k z]
      · obtain ⟨j, rfl⟩ : ∃ j, i = N + j := ⟨i - N, by omega⟩
        rw [r13n j (by omega)]
        congr 1
        refine cnt_cong fun k hk => ?_
        show (p k && (decide (hm k = sq) && decide (eN (lv sq) (X k) (Y k) = j))) = (p k && decide (hm' N sq (lv sq) X Y hm k = N + j))
        cases hp : p k with
        | false => rfl
        | true =>
          by_cases z : hm k = sq
          · rw [hmq k z, decide_eq_true z, Bool.true_and, show decide (N + eN (lv sq) (X k) (Y k) = N + j) = decide (eN (lv sq) (X k) (Y k) = j) from decide_eq_decide.mpr (by omega)]
          · rw [hmn k z, decide_eq_false z, decide_eq_false (p := hm k = N + j) (by have := (q3.2.1 k hk hp).1; omega)]; rfl
    · rcases Nat.lt_or_ge i N with g | g
      · have e : ¬ i = sq := fun z => by rw [z, spq] at hs; cases hs
        rw [spn i e] at hs
        have a1 := q3.2.2.2 i g hs k hk hp ((eR _ _ _ g).mp hr)
        rw [hmn k (by omega)]
        exact a1
      · obtain ⟨j, rfl⟩ : ∃ j, i = N + j := ⟨i - N, by omega⟩
        have a1 := fR2 _ _ j hr (by omega)
        have a2 := q3.2.2.2 sq hsq hss k hk hp a1
        rw [hmq k a2, (fR _ _ j a1 (by omega)).mp hr]
  · have hcc : ∀ k n, n ≤ c → k < c → p k = true → hm k = sq → cnt (fun j => p j && smR X Y (lv sq) k j) n = cnt (fun j => p j && decide (hm j = sq)) n := fun k n hn hk hp e =>
      cc_hm (fun k hk hp => ⟨(q3.2.1 k hk hp).1, (q3.2.1 k hk hp).2.1, (q3.2.1 k hk hp).2.2.1⟩) q3.2.2.2 hn hsq hss hk hp e
    refine ⟨fun k hk hp l hl2 => ?_, ?_, fun i h1 h2 hs => ?_⟩
    · by_cases e : hm k = sq
      · rw [hmq k e, flv] at hl2
        by_cases el : l = lv sq
        · subst el
          unfold ccN
          rw [hcc k c (Nat.le_refl _) hk hp e]
          exact hcap
        · exact q4.1 k hk hp l (by rw [e]; omega)
      · rw [hmn k e, elv _ (q3.2.1 k hk hp).1] at hl2
        exact q4.1 k hk hp l hl2
    · have hd : cnt (fun k => (p k && decide (hm k = sq)) && decide (cnt (fun j => p j && decide (hm j = sq)) k = 0)) c = 1 := by
        rw [cnt_first (fun k => p k && decide (hm k = sq)) c, if_pos (show 0 < cnt (fun k => p k && decide (hm k = sq)) c by have := hcap; unfold hmC at this; omega)]
      have key : ∀ l, l < 10 → cnt (fun k => p k && (decide (l < lv' N (lv sq) lv (hm' N sq (lv sq) X Y hm k)) && fsN p X Y l k)) c = cnt (fun k => p k && (decide (l < lv (hm k)) && fsN p X Y l k)) c + (if l = lv sq then 1 else 0) := by
        intro l _
        by_cases el : l = lv sq
        · rw [if_pos el, ← hd]
          rw [show cnt (fun k => p k && (decide (l < lv (hm k)) && fsN p X Y l k)) c + cnt (fun k => (p k && decide (hm k = sq)) && decide (cnt (fun j => p j && decide (hm j = sq)) k = 0)) c = cnt (fun k => (p k && (decide (l < lv (hm k)) && fsN p X Y l k)) || ((p k && decide (hm k = sq)) && decide (cnt (fun j => p j && decide (hm j = sq)) k = 0))) c + cnt (fun k => (p k && (decide (l < lv (hm k)) && fsN p X Y l k)) && ((p k && decide (hm k = sq)) && decide (cnt (fun j => p j && decide (hm j = sq)) k = 0))) c from (cnt_or _ _ c).symm]
          rw [cnt_0 (p := fun k => (p k && (decide (l < lv (hm k)) && fsN p X Y l k)) && ((p k && decide (hm k = sq)) && decide (cnt (fun j => p j && decide (hm j = sq)) k = 0))) c (fun k hk => by
            by_cases z : hm k = sq
            · rw [z, decide_eq_false (p := l < lv sq) (by omega)]; simp
            · rw [decide_eq_false (p := hm k = sq) z]; simp), Nat.add_zero]
          refine cnt_cong fun k hk => ?_
          show (p k && (decide (l < lv' N (lv sq) lv (hm' N sq (lv sq) X Y hm k)) && fsN p X Y l k)) = ((p k && (decide (l < lv (hm k)) && fsN p X Y l k)) || ((p k && decide (hm k = sq)) && decide (cnt (fun j => p j && decide (hm j = sq)) k = 0)))
          cases hp : p k with
          | false => rfl
          | true =>
            by_cases z : hm k = sq
            · rw [hmq k z, flv, decide_eq_true (p := l < lv sq + 1) (by omega), z, decide_eq_false (p := l < lv sq) (by omega), decide_eq_true (p := sq = sq) rfl]
              unfold fsN
              rw [el, hcc k k (by omega) hk hp z]
              simp
            · rw [hmn k z, elv _ (q3.2.1 k hk hp).1, decide_eq_false (p := hm k = sq) z]
              simp
        · rw [if_neg el, Nat.add_zero]
          refine cnt_cong fun k hk => ?_
          show (p k && (decide (l < lv' N (lv sq) lv (hm' N sq (lv sq) X Y hm k)) && fsN p X Y l k)) = (p k && (decide (l < lv (hm k)) && fsN p X Y l k))
          cases hp : p k with
          | false => rfl
          | true =>
            by_cases z : hm k = sq
            · rw [hmq k z, flv, z, show decide (l < lv sq + 1) = decide (l < lv sq) from decide_eq_decide.mpr (by omega)]
            · rw [hmn k z, elv _ (q3.2.1 k hk hp).1]
      rw [smN_cong key, smN_one _ (lv sq) 1 10 (by omega)]
      have := q4.2.1
      omega
    · rcases Nat.lt_or_ge i N with g | g
      · have e : ¬ i = sq := fun z => by rw [z, spq] at hs; cases hs
        rw [spn i e] at hs
        rw [elv i g]
        have : hmC p (hm' N sq (lv sq) X Y hm) c i = hmC p hm c i := cnt_cong fun k hk => by
          show (p k && decide (hm' N sq (lv sq) X Y hm k = i)) = (p k && decide (hm k = i))
          by_cases z : hm k = sq
          · rw [hmq k z, decide_eq_false (p := hm k = i) (by omega), decide_eq_false (by omega)]
          · rw [hmn k z]
        rw [this]
        exact q4.2.2 i (by omega) g hs
      · omega
end QS
