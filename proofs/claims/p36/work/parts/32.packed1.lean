/-! the order to pack is a permutation -/
set_option maxHeartbeats 400000 in
theorem mapA_in {φ : Int32 → Int32} {g : Nat → Int32} {m k : Nat} (h : k < m) : mapA φ g m k = φ (g k) := if_pos h
set_option maxHeartbeats 400000 in
theorem soR_cnt (P : Int32 → Bool) {len n : Nat} : ∀ k a (f : Nat → Int32), cnt (fun i => P (soR f len n k a i)) n = cnt (fun i => P (f i)) n := by
  intro k
  induction k with
  | zero => intro a f; rfl
  | succ k ih =>
    intro a f
    unfold soR
    split
    · next h =>
      rw [ih]
      refine srtA_cnt P _ a f ?_
      split <;> omega
    · rfl
set_option maxHeartbeats 400000 in
theorem rem128_nI {a z : Nat} (hz : z < 128) (h : a * 128 + z < 2 ^ 31) : rem128 (nI (a * 128 + z)) = nI z := by
  unfold rem128
  rw [show (128 : Int32) = nI 128 from rfl, nI_rem h (by decide), show (a * 128 + z) % 128 = z by omega]
-- a box of naturals in the map
def bxE (S : St) (b i : Nat) : Prop := ∃ x y w h, x + w ≤ 1023 ∧ y + h ≤ 1023 ∧ S.1 (b + 2) i = nI x ∧ S.1 (b + 4) i = nI y ∧ S.1 (b + 6) i = nI w ∧ S.1 (b + 8) i = nI h
set_option maxHeartbeats 400000 in
theorem fX_nI {S : St} {b n i : Nat} (hi : i < n) (hn : n ≤ 1205) (h : bxE S b i) : ∃ a, a ≤ 4096 ∧ fX S b n (nI i) = nI (a * 128 + i) := by
  obtain ⟨x, y, w, h', h1, h2, e1, e2, e3, e4⟩ := h
  refine ⟨2 * x + w, by omega, ?_⟩
  unfold fX
  rw [show bX S b n (nI i) = nI x from (rat_nI hi (by omega)).trans e1, show bW S b n (nI i) = nI w from (rat_nI hi (by omega)).trans e3, show (2 : Int32) = nI 2 from rfl, show (128 : Int32) = nI 128 from rfl, nI_mul, nI_add, nI_mul, nI_add]
set_option maxHeartbeats 400000 in
theorem fY0_nI {S : St} {b n i : Nat} (hi : i < n) (hn : n ≤ 1205) (h : bxE S b i) : ∃ a, a ≤ 4096 ∧ fY0 S b n (nI i) = nI (a * 128 + i) := by
  obtain ⟨x, y, w, h', h1, h2, e1, e2, e3, e4⟩ := h
  refine ⟨2 * y + h', by omega, ?_⟩
  unfold fY0
  rw [show bY S b n (nI i) = nI y from (rat_nI hi (by omega)).trans e2, show bH S b n (nI i) = nI h' from (rat_nI hi (by omega)).trans e4, show (2 : Int32) = nI 2 from rfl, show (128 : Int32) = nI 128 from rfl, nI_mul, nI_add, nI_mul, nI_add]
set_option maxHeartbeats 400000 in
theorem otp_cnt (P : Int32 → Bool) {S : St} {b n m fn : Nat} {g : Nat → Int32} (hn : n ≤ 1205) (hg : ∀ k, k < m → ∃ z, z < 128 ∧ z < n ∧ bxE S b z ∧ g k = nI z) : cnt (fun i => P (otp S b n m fn g i)) m = cnt (fun i => P (g i)) m := by
  unfold otp
  rw [cnt_cong (q := fun i => P (rem128 (soR (mapA (fY S b n) (srtA (mapA (fX S b n) g m) 0 0 m) m) (lenN m fn) m (m + 1) 0 i))) fun k hk => by
    show P (mapA rem128 _ m k) = _
    rw [mapA_in hk]]
  rw [soR_cnt (fun v => P (rem128 v))]
  rw [cnt_cong (q := fun i => P (rem128 (fY S b n (srtA (mapA (fX S b n) g m) 0 0 m i)))) fun k hk => by
    show P (rem128 (mapA (fY S b n) _ m k)) = _
    rw [mapA_in hk]]
  rw [srtA_cnt (fun v => P (rem128 (fY S b n v))) m 0 _ (by omega)]
  refine cnt_cong fun k hk => ?_
  show P (rem128 (fY S b n (mapA (fX S b n) g m k))) = P (g k)
  obtain ⟨z, h1, h2, h3, h4⟩ := hg k hk
  obtain ⟨a, ha, ea⟩ := fX_nI h2 hn h3
  obtain ⟨a2, ha2, ea2⟩ := fY0_nI h2 hn h3
  rw [mapA_in hk, h4, ea]
  unfold fY
  rw [rem128_nI h1 (by omega), ea2, rem128_nI h1 (by omega)]
-- every key after is a key before
set_option maxHeartbeats 400000 in
theorem otp_mem {S : St} {b n m fn k : Nat} {g : Nat → Int32} (hn : n ≤ 1205) (hg : ∀ k, k < m → ∃ z, z < 128 ∧ z < n ∧ bxE S b z ∧ g k = nI z) (hk : k < m) : ∃ j, j < m ∧ otp S b n m fn g k = g j := by
  have h1 := cnt_mem (p := fun i => decide (otp S b n m fn g i = otp S b n m fn g k)) (k := k) (decide_eq_true rfl) m hk
  rw [otp_cnt (fun v => decide (v = otp S b n m fn g k)) hn hg] at h1
  obtain ⟨j, h2, h3⟩ := cnt_pos m h1
  exact ⟨j, h2, (of_decide_eq_true h3).symm⟩
set_option maxHeartbeats 400000 in
theorem cnt_two {p : Nat → Bool} {i j : Nat} (hij : i < j) (hi : p i = true) (hj : p j = true) : ∀ n, j < n → 2 ≤ cnt p n := by
  intro n
  induction n with
  | zero => intro h; omega
  | succ n ih =>
    intro h
    by_cases e : j = n
    · subst e
      rw [cnt_t hj]
      have := cnt_mem hi j hij
      omega
    · rw [cnt_succ]
      have := ih (by omega)
      omega
-- and no key twice
set_option maxHeartbeats 400000 in
theorem otp_inj {S : St} {b n m fn i j : Nat} {g : Nat → Int32} (hn : n ≤ 1205) (hg : ∀ k, k < m → ∃ z, z < 128 ∧ z < n ∧ bxE S b z ∧ g k = nI z) (hinj : ∀ i j, i < m → j < m → g i = g j → i = j) (hi : i < m) (hj : j < m) (e : otp S b n m fn g i = otp S b n m fn g j) : i = j := by
  have key : ∀ i j, i < j → j < m → otp S b n m fn g i = otp S b n m fn g j → False := by
    intro i j hij hj e
    have h1 := cnt_two (p := fun k => decide (otp S b n m fn g k = otp S b n m fn g j)) hij (decide_eq_true e) (decide_eq_true rfl) m hj
    rw [otp_cnt (fun v => decide (v = otp S b n m fn g j)) hn hg] at h1
    have h2 := cnt_one (p := fun k => decide (g k = otp S b n m fn g j)) m fun a b' ha hb q1 q2 => hinj a b' ha hb ((of_decide_eq_true q1).trans (of_decide_eq_true q2).symm)
    omega
  rcases Nat.lt_trichotomy i j with h | h | h
  · exact (key i j h hj e).elim
  · exact h
  · exact (key j i h hi e.symm).elim
/-! what the steps do to the rows -/
set_option maxHeartbeats 400000 in
theorem bput_ne {S : St} {b n i k : Nat} {x y w h : Int32} (hi : i < n) (hn : n ≤ 1205) (hk : k ≠ i) (a : Nat) : (bput S b n (nI i) x y w h).1 a k = S.1 a k := by
  have e0 : ∀ a, S.1 a k = S.1 a k := fun _ => rfl
  exact rd_ne (b := b + 8) (rd_ne (b := b + 6) (rd_ne (b := b + 4) (rd_ne (b := b + 2) e0 rfl hi (by omega) hk) rfl hi (by omega) hk) rfl hi (by omega) hk) rfl hi (by omega) hk a
set_option maxHeartbeats 400000 in
theorem bput_oth {S : St} {b n a : Nat} {i x y w h : Int32} (ha : a ≠ b + 2 ∧ a ≠ b + 4 ∧ a ≠ b + 6 ∧ a ≠ b + 8) : (bput S b n i x y w h).1 a = S.1 a := by
  unfold bput
  rw [setR_ne ha.2.2.2, setR_ne ha.2.2.1, setR_ne ha.2.1, setR_ne ha.1]
set_option maxHeartbeats 400000 in
theorem bput_at {S : St} {b n i : Nat} {x y w h : Int32} (hi : i < n) (hn : n ≤ 1205) : (bput S b n (nI i) x y w h).1 (b + 2) i = x ∧ (bput S b n (nI i) x y w h).1 (b + 4) i = y ∧ (bput S b n (nI i) x y w h).1 (b + 6) i = w ∧ (bput S b n (nI i) x y w h).1 (b + 8) i = h := by
  have rr : ∀ (f : Nat → Int32) (x : Int32), rput f n (nI i) x i = x := fun f x => by rw [rput_nI hi (by omega), upd_at]
  unfold bput
  refine ⟨?_, ?_, ?_, ?_⟩
  · rw [setR_ne (by omega), setR_ne (by omega), setR_ne (by omega), setR_eq]; exact rr _ _
  · rw [setR_ne (by omega), setR_ne (by omega), setR_eq]; exact rr _ _
  · rw [setR_ne (by omega), setR_eq]; exact rr _ _
  · rw [setR_eq]; exact rr _ _
set_option maxHeartbeats 400000 in
theorem mn_nI {a b : Nat} (ha : a < 2 ^ 31) (hb : b < 2 ^ 31) : mn (nI a) (nI b) = nI (min a b) := i32_ext (by rw [mn_toInt, nI_toInt ha, nI_toInt hb, nI_toInt (by omega)]; omega)
set_option maxHeartbeats 400000 in
theorem mx_nI {a b : Nat} (ha : a < 2 ^ 31) (hb : b < 2 ^ 31) : mx (nI a) (nI b) = nI (max a b) := i32_ext (by rw [mx_toInt, nI_toInt ha, nI_toInt hb, nI_toInt (by omega)]; omega)
-- a box is stretched over another: a box in the map again
set_option maxHeartbeats 400000 in
theorem strS_bx {S : St} {b n i b' n' j : Nat} (hi : i < n) (hn : n ≤ 1205) (hj : j < n') (hn' : n' ≤ 1205) (h1 : bxE S b i) (h2 : bxE S b' j) : bxE (strS S b n (nI i) b' n' (nI j)) b i := by
  obtain ⟨x, y, w, h, q1, q2, e1, e2, e3, e4⟩ := h1
  obtain ⟨x', y', w', h', q3, q4, f1, f2, f3, f4⟩ := h2
  have o := bput_at (S := S) (b := b) (n := n) (i := i) (x := mn (nI x) (nI x')) (y := mn (nI y) (nI y')) (w := mx (nI x + nI w) (nI x' + nI w') - mn (nI x) (nI x')) (h := mx (nI y + nI h) (nI y' + nI h') - mn (nI y) (nI y')) hi hn
  have ee : strS S b n (nI i) b' n' (nI j) = bput S b n (nI i) (mn (nI x) (nI x')) (mn (nI y) (nI y')) (mx (nI x + nI w) (nI x' + nI w') - mn (nI x) (nI x')) (mx (nI y + nI h) (nI y' + nI h') - mn (nI y) (nI y')) := by
    unfold strS
    rw [show bX S b n (nI i) = nI x from (rat_nI hi (by omega)).trans e1, show bY S b n (nI i) = nI y from (rat_nI hi (by omega)).trans e2, show bW S b n (nI i) = nI w from (rat_nI hi (by omega)).trans e3, show bH S b n (nI i) = nI h from (rat_nI hi (by omega)).trans e4,
      show bX S b' n' (nI j) = nI x' from (rat_nI hj (by omega)).trans f1, show bY S b' n' (nI j) = nI y' from (rat_nI hj (by omega)).trans f2, show bW S b' n' (nI j) = nI w' from (rat_nI hj (by omega)).trans f3, show bH S b' n' (nI j) = nI h' from (rat_nI hj (by omega)).trans f4]
  rw [ee]
  rw [nI_add, nI_add, nI_add, nI_add, mn_nI (by omega) (by omega), mn_nI (by omega) (by omega), mx_nI (by omega) (by omega), mx_nI (by omega) (by omega), nI_sub (by omega), nI_sub (by omega)] at o ⊢
  exact ⟨_, _, _, _, by omega, by omega, o.1, o.2.1, o.2.2.1, o.2.2.2⟩
set_option maxHeartbeats 400000 in
theorem boxAs_bx {S : St} {t a b n z : Nat} (ha : a < 1205) (hz : z < n) (hn : n ≤ 1205) (h : bxE S b z) : bxE (boxAs S t (nI a) b n (nI z)) (t + 1) a := by
  obtain ⟨x, y, w, h', q1, q2, e1, e2, e3, e4⟩ := h
  unfold boxAs
  rw [show bX S b n (nI z) = nI x from (rat_nI hz (by omega)).trans e1, show bY S b n (nI z) = nI y from (rat_nI hz (by omega)).trans e2, show bW S b n (nI z) = nI w from (rat_nI hz (by omega)).trans e3, show bH S b n (nI z) = nI h' from (rat_nI hz (by omega)).trans e4]
  have o := bput_at (S := S) (b := t + 1) (n := 1205) (i := a) (x := nI x) (y := nI y) (w := nI w) (h := nI h') ha (by omega)
  exact ⟨_, _, _, _, q1, q2, o.1, o.2.1, o.2.2.1, o.2.2.2⟩
set_option maxHeartbeats 400000 in
theorem addNS_ne {S : St} {t N k : Nat} {l : Int32} (hN : tN S t = nI N) (hN2 : N < 1205) (hk : k ≠ N) (a : Nat) : (addNS S t l).1 a k = S.1 a k := by
  unfold addNS
  rw [hN]
  have e0 : ∀ a, S.1 a k = S.1 a k := fun _ => rfl
  exact rd_ne (b := t + 17) (rd_ne (b := t + 13) (rd_ne (b := t + 11) e0 rfl hN2 (by decide) hk) rfl hN2 (by decide) hk) rfl hN2 (by decide) hk a
set_option maxHeartbeats 400000 in
theorem addNS_oth {S : St} {t a : Nat} {l : Int32} (ha : a ≠ t + 11 ∧ a ≠ t + 13 ∧ a ≠ t + 17) : (addNS S t l).1 a = S.1 a := by
  unfold addNS
  show (setR (setR (setR S _ _) _ _) _ _).1 a = _
  rw [setR_ne ha.2.2, setR_ne ha.2.1, setR_ne ha.1]
set_option maxHeartbeats 400000 in
theorem addNS_at {S : St} {t N : Nat} {l : Int32} (hN : tN S t = nI N) (hN2 : N < 1205) : (addNS S t l).1 (t + 11) N = l ∧ (addNS S t l).1 (t + 13) N = 0 ∧ (addNS S t l).1 (t + 17) N = 0 ∧ tN (addNS S t l) t = nI (N + 1) := by
  have rr : ∀ (f : Nat → Int32) (x : Int32), rput f 1205 (nI N) x N = x := fun f x => by rw [rput_nI hN2 (by decide), upd_at]
  unfold addNS
  rw [hN]
  refine ⟨?_, ?_, ?_, ?_⟩
  · show (setR (setR (setR S _ _) _ _) _ _).1 (t + 11) N = _
    rw [setR_ne (by omega), setR_ne (by omega), setR_eq]; exact rr _ _
  · show (setR (setR (setR S _ _) _ _) _ _).1 (t + 13) N = _
    rw [setR_ne (by omega), setR_eq]; exact rr _ _
  · show (setR (setR (setR S _ _) _ _) _ _).1 (t + 17) N = _
    rw [setR_eq]; exact rr _ _
  · rw [nI_1]
    show va_up S.2.1 t (va_up (S.2.1 t) 8 (nI (N + 1))) t 8 = _
    unfold va_up
    rw [if_pos rfl, if_pos rfl]
