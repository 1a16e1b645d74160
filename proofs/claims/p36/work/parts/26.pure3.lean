/-! what asking leaves: all but the scratch rows -/
def scr (a : Nat) : Prop := a = 16 ∨ a = 18 ∨ (26 ≤ a ∧ a ≤ 48)
def EqC (S0 S : St) : Prop := (∀ a, ¬ scr a → S.1 a = S0.1 a) ∧ ∀ a, a ≠ 25 → S.2.1 a = S0.2.1 a
set_option maxHeartbeats 200000 in
theorem EqC.rf (S : St) : EqC S S := ⟨fun _ _ => rfl, fun _ _ => rfl⟩
set_option maxHeartbeats 200000 in
theorem EqC.tr {A B C : St} (h : EqC A B) (k : EqC B C) : EqC A C := ⟨fun a ha => (k.1 a ha).trans (h.1 a ha), fun a ha => (k.2 a ha).trans (h.2 a ha)⟩
set_option maxHeartbeats 200000 in
theorem EqC.set {A B : St} {a : Nat} {f : Nat → Int32} (h : EqC A B) (ha : scr a) : EqC A (setR B a f) := ⟨fun b hb => (if_neg (fun e : b = a => hb (e.symm ▸ ha))).trans (h.1 b hb), h.2⟩
set_option maxHeartbeats 200000 in
theorem EqC.off {A B : St} (h : EqC A B) : EqC A (offS B) := h
section EQ
variable {S0 S : St}
set_option maxHeartbeats 200000 in
theorem eq_tc (h : EqC S0 S) : tc S = tc S0 := congrFun (h.2 1 (by omega)) 5
set_option maxHeartbeats 200000 in
theorem eq_inL (h : EqC S0 S) (L : Int32) : inL S L = inL S0 L := by
  funext k
  show decide (S.1 12 k = L) = decide (S0.1 12 k = L)
  rw [h.1 12 (by unfold scr; omega)]
set_option maxHeartbeats 200000 in
theorem eq_bfar (h : EqC S0 S) {b : Nat} (hb : b = 2 ∨ 49 ≤ b) (n : Nat) : bfar S b n = bfar S0 b n := by
  funext i x y w h'
  show ffar (rat (S.1 (b + 2)) n i) (rat (S.1 (b + 4)) n i) (rat (S.1 (b + 6)) n i) (rat (S.1 (b + 8)) n i) x y w h' = ffar (rat (S0.1 (b + 2)) n i) (rat (S0.1 (b + 4)) n i) (rat (S0.1 (b + 6)) n i) (rat (S0.1 (b + 8)) n i) x y w h'
  rw [h.1 (b + 2) (by unfold scr; omega), h.1 (b + 4) (by unfold scr; omega), h.1 (b + 6) (by unfold scr; omega), h.1 (b + 8) (by unfold scr; omega)]
set_option maxHeartbeats 200000 in
theorem eq_bX (h : EqC S0 S) {b : Nat} (hb : b = 2 ∨ 49 ≤ b) (n : Nat) : bX S b n = bX S0 b n := by
  funext i; show rat (S.1 (b + 2)) n i = _; rw [h.1 (b + 2) (by unfold scr; omega)]
set_option maxHeartbeats 200000 in
theorem eq_bY (h : EqC S0 S) {b : Nat} (hb : b = 2 ∨ 49 ≤ b) (n : Nat) : bY S b n = bY S0 b n := by
  funext i; show rat (S.1 (b + 4)) n i = _; rw [h.1 (b + 4) (by unfold scr; omega)]
set_option maxHeartbeats 200000 in
theorem eq_bW (h : EqC S0 S) {b : Nat} (hb : b = 2 ∨ 49 ≤ b) (n : Nat) : bW S b n = bW S0 b n := by
  funext i; show rat (S.1 (b + 6)) n i = _; rw [h.1 (b + 6) (by unfold scr; omega)]
set_option maxHeartbeats 200000 in
theorem eq_bH (h : EqC S0 S) {b : Nat} (hb : b = 2 ∨ 49 ≤ b) (n : Nat) : bH S b n = bH S0 b n := by
  funext i; show rat (S.1 (b + 8)) n i = _; rw [h.1 (b + 8) (by unfold scr; omega)]
set_option maxHeartbeats 200000 in
theorem eq_farK (h : EqC S0 S) (i : Int32) : farK S i = farK S0 i := by
  funext k
  unfold farK
  rw [eq_bfar h (Or.inl rfl), eq_bX h (Or.inl rfl), eq_bY h (Or.inl rfl), eq_bW h (Or.inl rfl), eq_bH h (Or.inl rfl)]
set_option maxHeartbeats 200000 in
theorem eq_keyV (h : EqC S0 S) (x y : Int32) : keyV S x y = keyV S0 x y := by
  funext k; unfold keyV; rw [eq_bfar h (Or.inl rfl)]
set_option maxHeartbeats 200000 in
theorem eq_pairG (h : EqC S0 S) (c : Nat) (L L2 far : Int32) : pairG S c L L2 far = pairG S0 c L L2 far := by
  funext k
  unfold pairG
  rw [eq_inL h]
  have e : ∀ a i, nearP S a i L2 far = nearP S0 a i L2 far := by
    intro a i
    funext k
    unfold nearP
    rw [eq_farK h]
    show (_ && (inL S L2 k && _)) = _
    rw [eq_inL h]
  rw [e]
set_option maxHeartbeats 200000 in
theorem eq_nr (h : EqC S0 S) (L far : Int32) : nr S L far = nr S0 L far := by
  funext t i
  unfold nr
  rw [eq_farK h]
  show ((inL S L t && inL S L i) && _) = _
  rw [eq_inL h]
set_option maxHeartbeats 200000 in
theorem eq_gIn (h : EqC S0 S) (c : Nat) (L far : Int32) (g : Nat → Int32) (t : Nat) : ∀ i, gIn S c L far g t i = gIn S0 c L far g t i := by
  intro i
  induction i with
  | zero => rfl
  | succ i ih => unfold gIn; rw [eq_nr h, ih]
set_option maxHeartbeats 200000 in
theorem eq_gOut (h : EqC S0 S) (c : Nat) (L far : Int32) (g : Nat → Int32) : ∀ t, gOut S c L far g t = gOut S0 c L far g t := by
  intro t
  induction t with
  | zero => rfl
  | succ t ih => unfold gOut; rw [ih, eq_gIn h]
set_option maxHeartbeats 200000 in
theorem eq_rootP (h : EqC S0 S) (L : Int32) (g : Nat → Int32) : rootP S L g = rootP S0 L g := by
  funext k; unfold rootP; show (inL S L k && _) = _; rw [eq_inL h]
set_option maxHeartbeats 200000 in
theorem eq_labP (h : EqC S0 S) (L : Int32) (g : Nat → Int32) (z : Int32) : labP S L g z = labP S0 L g z := by
  funext k; unfold labP; show (inL S L k && _) = _; rw [eq_inL h]
set_option maxHeartbeats 200000 in
theorem eq_grtN (h : EqC S0 S) (c : Nat) (L : Int32) (g : Nat → Int32) : ∀ n, grtN S c L g n = grtN S0 c L g n := by
  intro n
  induction n with
  | zero => rfl
  | succ n ih => unfold grtN; rw [ih, eq_labP h]
set_option maxHeartbeats 200000 in
theorem eq_tN (h : EqC S0 S) {t : Nat} (ht : 49 ≤ t) : tN S t = tN S0 t := congrFun (h.2 t (by omega)) 8
set_option maxHeartbeats 200000 in
theorem eq_tR (h : EqC S0 S) {t : Nat} (ht : 49 ≤ t) : tR S t = tR S0 t := congrFun (h.2 t (by omega)) 9
set_option maxHeartbeats 200000 in
theorem eq_row (h : EqC S0 S) {a : Nat} (ha : 49 ≤ a) : S.1 a = S0.1 a := h.1 a (by unfold scr; omega)
set_option maxHeartbeats 200000 in
theorem eq_visP (h : EqC S0 S) {t : Nat} (ht : 49 ≤ t) (x y w h' far : Int32) : visP S t x y w h' far = visP S0 t x y w h' far := by
  funext k; unfold visP; rw [eq_bfar h (Or.inr (by omega))]
set_option maxHeartbeats 200000 in
theorem eq_levV (h : EqC S0 S) {t : Nat} (ht : 49 ≤ t) : levV S t = levV S0 t := by
  unfold levV
  rw [eq_tN h ht, show tLv S t = tLv S0 t from eq_row h (by omega)]
set_option maxHeartbeats 200000 in
theorem eq_cvp (h : EqC S0 S) {t t' : Nat} (ht : 49 ≤ t) (ht' : 49 ≤ t') {far : Int32} : ∀ f u v, cvp S t t' far f u v = cvp S0 t t' far f u v := by
  intro f
  induction f with
  | zero => intro u v; rfl
  | succ f ih =>
    intro u v
    have e1 : tCt S t = tCt S0 t := eq_row h (by omega)
    have e2 : tCt S t' = tCt S0 t' := eq_row h (by omega)
    have e3 : tFr S t = tFr S0 t := eq_row h (by omega)
    have e4 : tFr S t' = tFr S0 t' := eq_row h (by omega)
    have e5 : tBl S t = tBl S0 t := eq_row h (by omega)
    have e6 : tBl S t' = tBl S0 t' := eq_row h (by omega)
    have d1 : ∀ u i, dnV S t u i = dnV S0 t u i := fun u i => by unfold dnV belV; rw [e1, e3, e5]
    have d2 : ∀ u i, dnV S t' u i = dnV S0 t' u i := fun u i => by unfold dnV belV; rw [e2, e4, e6]
    have n1 : nbV S t u = nbV S0 t u := by unfold nbV; rw [e1]
    have n2 : nbV S t' v = nbV S0 t' v := by unfold nbV; rw [e2]
    unfold cvp
    rw [e1, e2, eq_bfar h (Or.inr (by omega)), eq_bX h (Or.inr (by omega)), eq_bY h (Or.inr (by omega)), eq_bW h (Or.inr (by omega)), eq_bH h (Or.inr (by omega)), n1, n2]
    rw [show smI (fun i => smI (fun j => cvp S t t' far f (dnV S t u i) (dnV S t' v j)) (nbV S0 t' v)) (nbV S0 t u) = smI (fun i => smI (fun j => cvp S0 t t' far f (dnV S0 t u i) (dnV S0 t' v j)) (nbV S0 t' v)) (nbV S0 t u) from
      smI_cong fun i _ => smI_cong fun j _ => by rw [d1, d2]; exact ih _ _]
set_option maxHeartbeats 200000 in
theorem eq_vpV (h : EqC S0 S) {lr lr2 : Nat} {far : Int32} : vpV S lr lr2 far = vpV S0 lr lr2 far := by
  unfold vpV
  rw [eq_cvp h (by omega) (by omega), eq_tN h (show 49 ≤ 50 + 25 * lr by omega), eq_tN h (show 49 ≤ 50 + 25 * lr2 by omega), eq_tR h (show 49 ≤ 50 + 25 * lr by omega), eq_tR h (show 49 ≤ 50 + 25 * lr2 by omega)]
set_option maxHeartbeats 200000 in
theorem eq_okC (h : EqC S0 S) {t : Nat} (ht : 49 ≤ t) (k : okC S0 t) : okC S t := by
  unfold okC
  rw [show tCt S t = tCt S0 t from eq_row h (by omega)]
  exact k
set_option maxHeartbeats 200000 in
theorem eq_loose (h : EqC S0 S) {lr k : Nat} : looseV S lr k = looseV S0 lr k := by
  unfold looseV
  rw [show tHm S (50 + 25 * lr) = tHm S0 (50 + 25 * lr) from eq_row h (by omega)]
set_option maxHeartbeats 200000 in
theorem eq_ofV (h : EqC S0 S) {lr k w : Nat} : ofV S lr k w = ofV S0 lr k w := by
  unfold ofV
  split
  · rfl
  · rw [h.1 4 (by unfold scr; omega)]
  · rw [h.1 6 (by unfold scr; omega)]
  · rw [h.1 8 (by unfold scr; omega)]
  · rw [h.1 10 (by unfold scr; omega)]
  · rw [h.1 14 (by unfold scr; omega)]
  · exact eq_loose h
set_option maxHeartbeats 200000 in
theorem eq_keyN (h : EqC S0 S) {lr c : Nat} {x y : Int32} {kk : Nat} (hk : 1 ≤ kk) : keyN S lr c x y kk = keyN S0 lr c x y kk := by
  unfold keyN ksr
  rw [eq_inL h, eq_keyV h]
  by_cases q : cnt (inL S0 (nI lr)) c < kk
  · rw [if_pos q, if_pos q]
  · rw [if_neg q, if_neg q]
    exact srtA_cong _ 0 _ _ (fun k hk2 => kfil_cong c k (by omega)) (kk - 1) (by omega)
end EQ
/-! the things' places -/
def TR (S : St) (c : Nat) (X Y W H : Nat → Nat) : Prop := ∀ k, k < c → S.1 4 k = nI (X k) ∧ S.1 6 k = nI (Y k) ∧ S.1 8 k = nI (W k) ∧ S.1 10 k = nI (H k) ∧ X k + W k ≤ 1023 ∧ Y k + H k ≤ 1023
section TP
variable {S : St} {c : Nat} {X Y W H : Nat → Nat}
set_option maxHeartbeats 200000 in
theorem tr_bfar (hT : TR S c X Y W H) (hc : c ≤ 80) {k x y w h : Nat} (hk : k < c) (h1 : x < 2 ^ 20) (h2 : y < 2 ^ 20) (h3 : w < 2 ^ 20) (h4 : h < 2 ^ 20) : bfar S 2 80 (nI k) (nI x) (nI y) (nI w) (nI h) = nI (farN (X k) (Y k) (W k) (H k) x y w h) := by
  obtain ⟨e1, e2, e3, e4, b1, b2⟩ := hT k hk
  show ffar (rat (S.1 4) 80 (nI k)) (rat (S.1 6) 80 (nI k)) (rat (S.1 8) 80 (nI k)) (rat (S.1 10) 80 (nI k)) (nI x) (nI y) (nI w) (nI h) = _
  rw [rat_nI (show k < 80 by omega) (by decide), rat_nI (show k < 80 by omega) (by decide), rat_nI (show k < 80 by omega) (by decide), rat_nI (show k < 80 by omega) (by decide), e1, e2, e3, e4]
  exact ffar_nI (by omega) (by omega) (by omega) (by omega) h1 h2 h3 h4
set_option maxHeartbeats 200000 in
theorem tr_farK (hT : TR S c X Y W H) (hc : c ≤ 80) {i k : Nat} (hi : i < c) (hk : k < c) : farK S (nI i) k = nI (farN (X i) (Y i) (W i) (H i) (X k) (Y k) (W k) (H k)) := by
  obtain ⟨e1, e2, e3, e4, b1, b2⟩ := hT k hk
  unfold farK
  rw [show bX S 2 80 (nI k) = nI (X k) from (rat_nI (show k < 80 by omega) (by decide)).trans e1, show bY S 2 80 (nI k) = nI (Y k) from (rat_nI (show k < 80 by omega) (by decide)).trans e2, show bW S 2 80 (nI k) = nI (W k) from (rat_nI (show k < 80 by omega) (by decide)).trans e3, show bH S 2 80 (nI k) = nI (H k) from (rat_nI (show k < 80 by omega) (by decide)).trans e4]
  exact tr_bfar hT hc hi (by omega) (by omega) (by omega) (by omega)
set_option maxHeartbeats 200000 in
theorem tr_all (hT : TR S c X Y W H) (hc : c ≤ 80) : allN S c 3000000 := by
  intro i j hi hj
  rw [tr_farK hT hc hi hj]
  have b1 := (hT i hi).2.2.2.2
  have b2 := (hT j hj).2.2.2.2
  have := farN_le (x := X i) (y := Y i) (w := W i) (h := H i) (x' := X j) (y' := Y j) (w' := W j) (h' := H j) (m := 1023) (by omega) (by omega) (by omega) (by omega)
  exact nI_le (a := _) (b := 3000000) (by omega) (by decide)
set_option maxHeartbeats 200000 in
theorem tr_key (hT : TR S c X Y W H) (hc : c ≤ 80) {x y k : Nat} (hk : k < c) (hx : x ≤ 1023) (hy : y ≤ 1023) : keyV S (nI x) (nI y) k = nI (farN (X k) (Y k) (W k) (H k) x y 0 0 * 128 + k) ∧ farN (X k) (Y k) (W k) (H k) x y 0 0 ≤ 2093058 := by
  have b1 := (hT k hk).2.2.2.2
  have := farN_le (x := X k) (y := Y k) (w := W k) (h := H k) (x' := x) (y' := y) (w' := 0) (h' := 0) (m := 1023) (by omega) (by omega) hx hy
  refine ⟨?_, by omega⟩
  unfold keyV
  rw [show (0 : Int32) = nI 0 from nI_0.symm, tr_bfar hT hc hk (by omega) (by omega) (by omega) (by omega), show (128 : Int32) = nI 128 from rfl, nI_mul, nI_add]
-- the kk-th nearest: a member, its key
set_option maxHeartbeats 200000 in
theorem tr_keyN (hT : TR S c X Y W H) (hc : c ≤ 80) {lr x y kk : Nat} (hx : x ≤ 1023) (hy : y ≤ 1023) (h1 : 1 ≤ kk) (h2 : kk ≤ cnt (inL S (nI lr)) c) : ∃ k, k < c ∧ inL S (nI lr) k = true ∧ keyN S lr c (nI x) (nI y) kk = nI (farN (X k) (Y k) (W k) (H k) x y 0 0 * 128 + k) ∧ farN (X k) (Y k) (W k) (H k) x y 0 0 ≤ 2093058 := by
  have hm : ∀ P : Int32 → Bool, cnt (fun k => P (ksr S lr c (nI x) (nI y) k)) (cnt (inL S (nI lr)) c) = cnt (fun k => inL S (nI lr) k && P (keyV S (nI x) (nI y) k)) c := by
    intro P
    rw [← kfil_cnt P (f := S.1 16)]
    exact srtA_cnt P _ 0 _ (by omega)
  obtain ⟨k, q1, q2, q3⟩ := mem_of hm (show kk - 1 < cnt (inL S (nI lr)) c by omega)
  refine ⟨k, q1, q2, ?_, (tr_key hT hc q1 hx hy).2⟩
  unfold keyN
  rw [if_neg (by omega), q3]
  exact (tr_key hT hc q1 hx hy).1
set_option maxHeartbeats 200000 in
theorem keyN_mono {lr kk : Nat} {x y : Int32} (h1 : 1 ≤ kk) (h2 : kk + 1 ≤ cnt (inL S (nI lr)) c) : keyN S lr c x y kk ≤ keyN S lr c x y (kk + 1) := by
  unfold keyN
  rw [if_neg (by omega), if_neg (by omega)]
  exact (srtA_srt (cnt (inL S (nI lr)) c) 0 _ (fun i j _ hj => by omega)) (kk - 1) (kk + 1 - 1) (by omega) (by omega)
end TP
