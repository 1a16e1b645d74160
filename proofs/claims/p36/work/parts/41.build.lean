/-! the index is built -/
section BU
variable {S : St} {X Y W H : Nat → Nat} {c cap fan lr : Nat}
def BI (S : St) (X Y W H : Nat → Nat) (c cap fan : Nat) : Prop := (tc S = nI c ∧ S.2.1 0 4 = nI 2 ∧ S.2.1 20 2 = 0 ∧ S.2.1 49 3 = nI cap ∧ S.2.1 74 3 = nI fan) ∧ (TR S c X Y W H ∧ ∀ j, W j ≤ 200 ∧ H j ≤ 200) ∧ (∀ j, j < c → S.1 12 j = nI (j % 2)) ∧ okR (S.1 67) ∧ okR (S.1 42) ∧ okR (S.1 92)
def xup (X : Nat → Nat) (c x : Nat) : Nat → Nat := fun j => if j = c then x else X j
set_option maxHeartbeats 400000 in
theorem BI_add {tag : Int32} {x y w h : Nat} (hB : BI S X Y W H c cap fan) (hc : c < 24) (hlr : lr = c % 2) (hx : x + w ≤ 1023) (hy : y + h ≤ 1023) (hw : w ≤ 200) (hh : h ≤ 200) : BI (bput (addS S (nI lr) tag) 2 80 (nI c) (nI x) (nI y) (nI w) (nI h)) (xup X c x) (xup Y c y) (xup W c w) (xup H c h) (c + 1) cap fan := by
  obtain ⟨⟨a1, a2, a3, a4, a5⟩, ⟨b1, b2⟩, c1, d1, d2, d3⟩ := hB
  have hb := bput_at (S := addS S (nI lr) tag) (b := 2) (n := 80) (i := c) (x := nI x) (y := nI y) (w := nI w) (h := nI h) (by omega) (by omega)
  have hn : ∀ j, j ≠ c → ∀ a, (bput (addS S (nI lr) tag) 2 80 (nI c) (nI x) (nI y) (nI w) (nI h)).1 a j = (addS S (nI lr) tag).1 a j := fun j hj a => bput_ne (by omega) (by omega) hj a
  have ho : ∀ a, a ≠ 4 ∧ a ≠ 6 ∧ a ≠ 8 ∧ a ≠ 10 → (bput (addS S (nI lr) tag) 2 80 (nI c) (nI x) (nI y) (nI w) (nI h)).1 a = (addS S (nI lr) tag).1 a := fun a ha => bput_oth (by omega)
  have ao : ∀ a, a ≠ 12 → a ≠ 14 → (addS S (nI lr) tag).1 a = S.1 a := fun a h1 h2 => by
    show (setR (setR S 12 (rput (S.1 12) 80 (S.2.1 1 5) (nI lr))) 14 (rput (S.1 14) 80 (S.2.1 1 5) tag)).1 a = _
    rw [setR_ne h2, setR_ne h1]
  have a12 : (addS S (nI lr) tag).1 12 = upd (S.1 12) c (nI lr) := by
    show (setR (setR S 12 (rput (S.1 12) 80 (tc S) (nI lr))) 14 (rput (S.1 14) 80 (S.2.1 1 5) tag)).1 12 = _
    rw [setR_ne (by omega), setR_eq, a1, rput_nI (show c < 80 by omega) (by decide)]
  have ai : ∀ b i, ¬ (b = 1 ∧ i = 5) → (addS S (nI lr) tag).2.1 b i = S.2.1 b i := fun b i hbi => by
    show va_up S.2.1 1 (va_up (S.2.1 1) 5 (tc S + 1)) b i = _
    unfold va_up
    by_cases e : b = 1
    · subst e; rw [if_pos rfl, if_neg (fun z => hbi ⟨rfl, z⟩)]
    · rw [if_neg e]
  have ai2 : (addS S (nI lr) tag).2.1 1 5 = nI (c + 1) := by
    show va_up S.2.1 1 (va_up (S.2.1 1) 5 (tc S + 1)) 1 5 = _
    unfold va_up
    rw [if_pos rfl, if_pos rfl, a1, nI_1]
  refine ⟨⟨ai2, (ai 0 4 (by omega)).trans a2, (ai 20 2 (by omega)).trans a3, (ai 49 3 (by omega)).trans a4, (ai 74 3 (by omega)).trans a5⟩, ⟨fun j hj => ?_, fun j => ?_⟩, fun j hj => ?_, ?_, ?_, ?_⟩
  · unfold xup
    by_cases e : j = c
    · subst e
      obtain ⟨q1, q2, q3, q4⟩ := hb
      simp only [if_pos]
      exact ⟨q1, q2, q3, q4, hx, hy⟩
    · rw [hn j e, hn j e, hn j e, hn j e, ao 4 (by omega) (by omega), ao 6 (by omega) (by omega), ao 8 (by omega) (by omega), ao 10 (by omega) (by omega)]
      simp only [if_neg e]
      exact b1 j (by omega)
  · unfold xup
    have := b2 j
    by_cases e : j = c
    · simp only [if_pos e]; exact ⟨hw, hh⟩
    · simp only [if_neg e]; exact this
  · rw [ho 12 (by omega), a12]
    by_cases e : j = c
    · subst e; rw [upd_at, hlr]
    · rw [upd_nq e]; exact c1 j (by omega)
  · rw [ho 67 (by omega), ao 67 (by omega) (by omega)]; exact d1
  · rw [ho 42 (by omega), ao 42 (by omega) (by omega)]; exact d2
  · rw [ho 92 (by omega), ao 92 (by omega) (by omega)]; exact d3
set_option maxHeartbeats 400000 in
theorem BI_tch (hB : BI S X Y W H c cap fan) {R : St} (ht : Tch 50 S R) (h67 : okR (R.1 67)) : BI R X Y W H c cap fan := by
  obtain ⟨⟨a1, a2, a3, a4, a5⟩, ⟨b1, b2⟩, c1, d1, d2, d3⟩ := hB
  refine ⟨⟨?_, ?_, ?_, ?_, ?_⟩, ⟨fun j hj => ?_, b2⟩, fun j hj => ?_, h67, ?_, ?_⟩
  · show R.2.1 1 5 = _
    rw [ht.2.1 1 (by omega)]; exact a1
  · rw [ht.2.1 0 (by omega)]; exact a2
  · rw [ht.2.1 20 (by omega)]; exact a3
  · rw [ht.2.1 49 (by omega)]; exact a4
  · rw [ht.2.1 74 (by omega)]; exact a5
  · rw [ht.1 4 (by omega), ht.1 6 (by omega), ht.1 8 (by omega), ht.1 10 (by omega)]; exact b1 j hj
  · rw [ht.1 12 (by omega)]; exact c1 j hj
  · rw [ht.1 42 (by omega)]; exact d2
  · rw [ht.1 92 (by omega)]; exact d3
set_option maxHeartbeats 400000 in
theorem BI_grow {layer cp : Int32} {n : Nat} (hB : BI S X Y W H c cap fan) : BI (growS S 50 n layer cp) X Y W H c cap fan := by
  have h67 : okR ((growS S 50 n layer cp).1 (50 + 17)) := okR_growS (S := S) (t := 50) (c := n) (layer := layer) (cap := cp) hB.2.2.2.1
  rw [show 50 + 17 = 67 from rfl] at h67
  exact BI_tch hB (t_growS (Tch.rf _ _)) h67
set_option maxHeartbeats 400000 in
theorem BI_point {tag : Int32} {x y : Nat} (hB : BI S X Y W H c cap fan) (hc : c < 24) (hlr : 0 = c % 2) (hx : x ≤ 1023) (hy : y ≤ 1023) : BI (regS (bput (addS S (nI 0) tag) 2 80 (nI c) (nI x) (nI y) 0 0) (c + 1) 0) (xup X c x) (xup Y c y) (xup W c 0) (xup H c 0) (c + 1) cap fan := by
  unfold regS
  rw [if_pos rfl]
  exact BI_grow (BI_add (w := 0) (h := 0) hB hc hlr (by omega) (by omega) (by omega) (by omega))
set_option maxHeartbeats 400000 in
theorem setI_at {S : St} {a i : Nat} {x : Int32} : (setI S a i x).2.1 a i = x := by
  show va_up S.2.1 a (va_up (S.2.1 a) i x) a i = x
  unfold va_up
  rw [if_pos rfl, if_pos rfl]
set_option maxHeartbeats 400000 in
theorem setI_ni {S : St} {a i b j : Nat} {x : Int32} (h : ¬ (b = a ∧ j = i)) : (setI S a i x).2.1 b j = S.2.1 b j := by
  show va_up S.2.1 a (va_up (S.2.1 a) i x) b j = _
  unfold va_up
  by_cases e : b = a
  · subst e; rw [if_pos rfl, if_neg (fun z => h ⟨rfl, z⟩)]
  · rw [if_neg e]
-- all there, sizes set, packed: the first turn may begin
set_option maxHeartbeats 400000 in
theorem BI_INV {fn0 fn1 : Nat} (hB : BI S X Y W H 24 cap fan) (h0 : 1 ≤ fn0 ∧ fn0 ≤ 8) (h1 : 2 ≤ fn1 ∧ fn1 ≤ 8) :
    ∃ S2 S3 N0 N1 L, S2 = regS (setI S 49 3 (nI fn0)) 24 0 ∧ S3 = regS (setI S2 74 3 (nI fn1)) 24 1 ∧ tc S2 = nI 24 ∧ tc S3 = nI 24 ∧ S3.2.1 74 3 = nI fn1 ∧ (¬ cnt (inL (fellS S3 75) (nI 1)) 24 = 0 → gpOk (pk3 S3 75 24 fn1 (nI 1)) 75 fn1 10 0 1) ∧ INV (growP S3 75 24 fn1 (nI 1)) X Y W H fn0 L N0 N1 ∧ ∀ j, j < 24 → (growP S3 75 24 fn1 (nI 1)).1 12 j = nI (j % 2) := by
  obtain ⟨⟨a1, a2, a3, a4, a5⟩, ⟨b1, b2⟩, c1, d1, d2, d3⟩ := hB
  have hB2 : BI (setI S 49 3 (nI fn0)) X Y W H 24 fn0 fan := ⟨⟨a1, (setI_ni (by omega)).trans a2, (setI_ni (by omega)).trans a3, setI_at, (setI_ni (by omega)).trans a5⟩, ⟨b1, b2⟩, c1, d1, d2, d3⟩
  have eS2 : regS (setI S 49 3 (nI fn0)) 24 0 = growS (setI S 49 3 (nI fn0)) 50 24 (nI 0) (nI fn0) := by
    unfold regS
    rw [if_pos rfl, setI_at]
  have hB3 : BI (growS (setI S 49 3 (nI fn0)) 50 24 (nI 0) (nI fn0)) X Y W H 24 fn0 fan := BI_grow hB2
  obtain ⟨N0, hq⟩ := growS_QF (S := setI S 49 3 (nI fn0)) (t := 50) (c := 24) (cap := fn0) (layer := nI 0) (by omega) (by omega) (by omega) (TR_pos hB2.2.1.1)
  have hq12 : inL (growS (setI S 49 3 (nI fn0)) 50 24 (nI 0) (nI fn0)) (nI 0) = inL (setI S 49 3 (nI fn0)) (nI 0) := by
    have t1 : Tch 50 (setI S 49 3 (nI fn0)) (growS (setI S 49 3 (nI fn0)) 50 24 (nI 0) (nI fn0)) := t_growS (Tch.rf _ _)
    funext j
    show decide ((growS (setI S 49 3 (nI fn0)) 50 24 (nI 0) (nI fn0)).1 12 j = nI 0) = _
    rw [t1.1 12 (by omega)]
  rw [← hq12] at hq
  rw [eS2]
  generalize growS (setI S 49 3 (nI fn0)) 50 24 (nI 0) (nI fn0) = S2 at *
  have eS3 : regS (setI S2 74 3 (nI fn1)) 24 1 = setI S2 74 3 (nI fn1) := by unfold regS; rw [if_neg (by decide)]
  obtain ⟨⟨e1, e2, e3, e4, e5⟩, ⟨f1, f2⟩, g1, k1, k2, k3⟩ := hB3
  have tcS3 : tc (setI S2 74 3 (nI fn1)) = nI 24 := (setI_ni (by omega)).trans e1
  have pk := pk_all (S := setI S2 74 3 (nI fn1)) (t := 75) (c := 24) (fn := fn1) (layer := nI 1) (by omega) (by omega) h1.1 h1.2 (X := X) (Y := Y) (W := W) (H := H) f1 k3
  have t2 : Tch 75 (setI S2 74 3 (nI fn1)) (growP (setI S2 74 3 (nI fn1)) 75 24 fn1 (nI 1)) := t_growP (Tch.rf _ _)
  have ei : ∀ v, inL (growP (setI S2 74 3 (nI fn1)) 75 24 fn1 (nI 1)) v = inL S2 v := fun v => by
    funext j
    show decide ((growP (setI S2 74 3 (nI fn1)) 75 24 fn1 (nI 1)).1 12 j = v) = _
    rw [t2.1 12 (by omega)]
    rfl
  refine ⟨S2, setI S2 74 3 (nI fn1), N0, pkN fn1 (cnt (inL (setI S2 74 3 (nI fn1)) (nI 1)) 24), pkL fn1 (cnt (inL (setI S2 74 3 (nI fn1)) (nI 1)) 24), rfl, eS3.symm, e1, tcS3, setI_at, pk.1, ⟨⟨?_, ?_, ?_, ?_, h0.1, h0.2⟩, ⟨fun j hj => ?_, f2⟩, fun j hj => Or.inr ?_, ⟨X, Y, fun _ _ _ => ⟨rfl, rfl⟩, ?_⟩, ?_, ?_, ?_⟩, fun j hj => ?_⟩
  · show (growP (setI S2 74 3 (nI fn1)) 75 24 fn1 (nI 1)).2.1 1 5 = _
    rw [t2.2.1 1 (by omega)]; exact tcS3
  · rw [t2.2.1 0 (by omega)]; exact (setI_ni (by omega)).trans e2
  · rw [t2.2.1 20 (by omega)]; exact (setI_ni (by omega)).trans e3
  · rw [t2.2.1 49 (by omega)]; exact (setI_ni (by omega)).trans e4
  · rw [t2.1 4 (by omega), t2.1 6 (by omega), t2.1 8 (by omega), t2.1 10 (by omega)]; exact f1 j hj
  · rw [t2.1 12 (by omega)]; exact g1 j hj
  · rw [ei]
    exact QF_state (S := S2) ⟨fun a _ _ => t2.1 a (by omega), (t2.2.1 50 (by omega)).trans (by funext i; exact setI_ni (by omega))⟩ hq
  · rw [ei]
    exact pk.2
  · rw [t2.1 67 (by omega)]; exact k1
  · rw [t2.1 42 (by omega)]; exact k2
  · rw [t2.1 12 (by omega)]; exact g1 j hj
end BU
