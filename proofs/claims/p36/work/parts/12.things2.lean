theorem setR_twice {S : St} {a : Nat} {f g : Nat → Int32} : setR (setR S a f) a g = setR S a g := by
  refine Prod.ext ?_ rfl
  funext k
  show va_up (va_up S.1 a f) a g k = va_up S.1 a g k
  unfold va_up
  split <;> rfl
theorem setR_self {S : St} {a : Nat} : setR S a (S.1 a) = S := by
  refine Prod.ext ?_ rfl
  funext k
  show va_up S.1 a (S.1 a) k = S.1 k
  unfold va_up
  split
  · next e => rw [e]
  · rfl
/-- those that count are put behind one another -/
def kfil (f : Nat → Int32) (p : Nat → Bool) (v : Nat → Int32) (n : Nat) : Nat → Int32 := match n with
  | 0 => f
  | n + 1 => if p n = true then upd (kfil f p v n) (cnt p n) (v n) else kfil f p v n
theorem kfil_t {f : Nat → Int32} {p : Nat → Bool} {v : Nat → Int32} {n : Nat} (h : p n = true) : kfil f p v (n + 1) = upd (kfil f p v n) (cnt p n) (v n) := by rw [kfil, if_pos h]
theorem kfil_f {f : Nat → Int32} {p : Nat → Bool} {v : Nat → Int32} {n : Nat} (h : p n = false) : kfil f p v (n + 1) = kfil f p v n := by rw [kfil, if_neg (by rw [h]; decide)]
theorem le_f {x far : Int32} (h : far < x) : decide (x ≤ far) = false := decide_eq_false (fun z => absurd (Int32.lt_of_lt_of_le h z) Int32.lt_irrefl)
theorem le_t {x far : Int32} (h : ¬ far < x) : decide (x ≤ far) = true := decide_eq_true (i32_nlt h)
/-- how far two things are -/
def farK (S : St) (i : Int32) (k : Nat) : Int32 := bfar S 2 80 i (bX S 2 80 (nI k)) (bY S 2 80 (nI k)) (bW S 2 80 (nI k)) (bH S 2 80 (nI k))
def keyV (S : St) (x y : Int32) (k : Nat) : Int32 := bfar S 2 80 (nI k) x y 0 0 * 128 + nI k
def nearP (S : St) (a : Nat) (i layer far : Int32) (k : Nat) : Bool := decide (a ≤ k) && (inL S layer k && decide (farK S i k ≤ far))
def smN (g : Nat → Nat) (n : Nat) : Nat := match n with
  | 0 => 0
  | n + 1 => smN g n + g n
def pairG (S : St) (c : Nat) (one other far : Int32) (k : Nat) : Nat := if inL S one k = true then cnt (nearP S (if one = other then k + 1 else 0) (nI k) other far) c else 0
/-- labels: those that bear the greater one of two bear the smaller one then -/
def jn (g : Nat → Int32) (c : Nat) (one other : Int32) : Nat → Int32 := if one = other then g else fun k => if k < c ∧ g k = mx one other then mn one other else g k
def nr (S : St) (layer far : Int32) (t i : Nat) : Bool := (inL S layer t && inL S layer i) && decide (farK S (nI t) i ≤ far)
def gIn (S : St) (c : Nat) (layer far : Int32) (g : Nat → Int32) (t i : Nat) : Nat → Int32 := match i with
  | 0 => g
  | i + 1 => if nr S layer far t i = true then jn (gIn S c layer far g t i) c (gIn S c layer far g t i t) (gIn S c layer far g t i i) else gIn S c layer far g t i
def gOut (S : St) (c : Nat) (layer far : Int32) (g : Nat → Int32) (t : Nat) : Nat → Int32 := match t with
  | 0 => g
  | t + 1 => gIn S c layer far (upd (gOut S c layer far g t) t (nI t)) t t
theorem gIn_t {S : St} {c : Nat} {layer far : Int32} {g : Nat → Int32} {t i : Nat} (h : nr S layer far t i = true) : gIn S c layer far g t (i + 1) = jn (gIn S c layer far g t i) c (gIn S c layer far g t i t) (gIn S c layer far g t i i) := by rw [gIn, if_pos h]
theorem gIn_f {S : St} {c : Nat} {layer far : Int32} {g : Nat → Int32} {t i : Nat} (h : nr S layer far t i = false) : gIn S c layer far g t (i + 1) = gIn S c layer far g t i := by rw [gIn, if_neg (by rw [h]; decide)]
def rootP (S : St) (layer : Int32) (g : Nat → Int32) (k : Nat) : Bool := inL S layer k && decide (g k = nI k)
def labP (S : St) (layer : Int32) (g : Nat → Int32) (z : Int32) (k : Nat) : Bool := inL S layer k && decide (g k = z)
def grt (S : St) (c : Nat) (layer : Int32) (g : Nat → Int32) (n : Nat) : Int32 := match n with
  | 0 => 0
  | n + 1 => mx (grt S c layer g n) (nI (cnt (labP S layer g (nI n)) c))
section TH2
variable {K : GK} {ly : Nat} {S : St} {c : Nat}
theorem lp_X4_sortByFar (hc : S.2.1 1 5 = nI c) (h80 : c ≤ 80) {layer x y : Int32} : ∀ m j, j + m = c → G K MX4_sortByFar 8 0 0 0 0 6 [(5, .int (nI j)), (4, .int (nI (cnt (inL S layer) j))), (0, .ref 1), (1, .int layer), (2, .int x), (3, .int y)] [] (hp ly (setR S 16 (kfil (S.1 16) (inL S layer) (keyV S x y) j))) (QcP K (fun v u => v = some (.int (nI (cnt (inL S layer) c))) ∧ u = hp ly (setR S 16 (srtA (kfil (S.1 16) (inL S layer) (keyV S x y) c) 0 0 (cnt (inL S layer) c))))) (XcP K noX) := by
  intro m
  induction m with
  | zero =>
    intro j hj
    obtain rfl : j = c := by omega
    have hm := cnt_le (inL S layer) j
    refine G_iload dX4_sortByFar_6 rfl ?_
    refine G_aload_n dX4_sortByFar_8 rfl ?_
    refine G_get (k := 5) dX4_sortByFar_9 cThings rfl wfl_X4_36 (by decide) rfl ?_
    rw [show (setR S 16 (kfil (S.1 16) (inL S layer) (keyV S x y) j)).2.1 1 5 = nI j from hc]
    refine G_icmp_ge (tgt := 63) dX4_sortByFar_12 (by decide) (fun c_12 => ?_) (fun c_12 => ?_)
    · refine G_aload_n dX4_sortByFar_63 rfl ?_
      refine G_get (k := 3) dX4_sortByFar_64 cThings rfl wfl_X4_30 (by decide) rfl ?_
      refine G_iconst (v := 0) dX4_sortByFar_67 (by decide) ?_
      refine G_iload dX4_sortByFar_68 rfl ?_
      refine G_cVv (As := [_, _]) dX4_sortByFar_70 kV_X3_sortPart wml_X4_56 (sp_X3_sortPart (a0 := 0) rKeys (by decide) (Nat.zero_le _) (show cnt (inL S layer) j ≤ 80 by omega)) rfl (cRow rKeys) rfl rfl rfl (by decide) ⟨Nat.le_refl 0, Nat.le_refl 0⟩ (Nat.le_of_ble_eq_true rfl) ?_
      rw [setR_twice]
      refine G_iload dX4_sortByFar_73 rfl ?_
      exact G_iret dX4_sortByFar_75 rfl rfl ⟨Nat.le_refl 0, Nat.le_refl 0⟩ ⟨rfl, rfl⟩
    · exact absurd (nI_le (Nat.le_refl _) (by omega)) c_12
  | succ m ih =>
    intro j hj
    have hj8 : j < 80 := by omega
    have hm := cnt_le (inL S layer) j
    have q := ih (j + 1) (by omega)
    refine G_iload dX4_sortByFar_6 rfl ?_
    refine G_aload_n dX4_sortByFar_8 rfl ?_
    refine G_get (k := 5) dX4_sortByFar_9 cThings rfl wfl_X4_36 (by decide) rfl ?_
    rw [show (setR S 16 (kfil (S.1 16) (inL S layer) (keyV S x y) j)).2.1 1 5 = nI c from hc]
    refine G_icmp_ge (tgt := 63) dX4_sortByFar_12 (by decide) (fun c_12 => ?_) (fun c_12 => ?_)
    · exact absurd c_12 (nI_ge (show j < c by omega) (by omega))
    · refine G_aload_n dX4_sortByFar_15 rfl ?_
      refine G_iload dX4_sortByFar_16 rfl ?_
      refine G_iload_n dX4_sortByFar_18 rfl ?_
      refine G_cVi (As := [_, _]) dX4_sortByFar_19 kV_X4_isIn wml_X4_48 sp_X4_isIn rfl cThings rfl rfl rfl (by decide) ⟨Nat.le_refl 0, Nat.le_refl 0⟩ (Nat.le_of_ble_eq_true rfl) ?_
      refine G_if_eq (tgt := 57) dX4_sortByFar_22 (by decide) (fun c_22 => ?_) (fun c_22 => ?_)
      · refine GS_iinc (v := 1) (L' := [(5, _), (4, _), (0, _), (1, _), (2, _), (3, _)]) dX4_sortByFar_57 rfl (by decide) (by decide) rfl ?_
        refine G_goto (tgt := 6) dX4_sortByFar_60 (by decide) ?_
        refine G_sub [0, 1, 2, 3, 4, 5] rfl ?_
        rw [nI_1 j]
        first
          | (have e : inL S layer j = false := isin_f (S := S) hj8 c_22; rw [cnt_f e, kfil_f e] at q; exact q)
          | (have e : inL S layer j = true := isin_t (S := S) hj8 c_22; rw [cnt_t e, kfil_t e] at q; rw [nI_1, setR_twice, rput_nI (show cnt (inL S layer) j < 80 by omega) (by decide)]; exact q)
      · refine G_aload_n dX4_sortByFar_25 rfl ?_
        refine G_get (k := 3) dX4_sortByFar_26 cThings rfl wfl_X4_30 (by decide) rfl ?_
        refine G_iload dX4_sortByFar_29 rfl ?_
        refine G_aload_n dX4_sortByFar_31 rfl ?_
        refine G_get (k := 0) dX4_sortByFar_32 cThings rfl wfl_X4_14 (by decide) rfl ?_
        refine G_iload dX4_sortByFar_35 rfl ?_
        refine G_iload_n dX4_sortByFar_37 rfl ?_
        refine G_iload_n dX4_sortByFar_38 rfl ?_
        refine G_iconst (v := 0) dX4_sortByFar_39 (by decide) ?_
        refine G_iconst (v := 0) dX4_sortByFar_40 (by decide) ?_
        refine G_cVi (As := [_, _, _, _, _]) dX4_sortByFar_41 kV_X0_farFrom wml_X4_52 (sp_X0_farFrom bThings) rfl (cBox bThings) rfl rfl rfl (by decide) ⟨Nat.le_refl 0, Nat.le_refl 0⟩ (Nat.le_of_ble_eq_true rfl) ?_
        refine G_sipush (v := 128) dX4_sortByFar_44 (by decide) ?_
        refine G_imul dX4_sortByFar_47 ?_
        refine G_iload dX4_sortByFar_48 rfl ?_
        refine G_iadd dX4_sortByFar_50 ?_
        refine G_cVv (As := [_, _]) dX4_sortByFar_51 kV_X3_put wml_X4_40 (sp_X3_put rKeys) rfl (cRow rKeys) rfl rfl rfl (by decide) ⟨Nat.le_refl 0, Nat.le_refl 0⟩ (Nat.le_of_ble_eq_true rfl) ?_
        refine GS_iinc (v := 1) (L' := [(4, _), (5, _), (0, _), (1, _), (2, _), (3, _)]) dX4_sortByFar_54 rfl (by decide) (by decide) rfl ?_
        refine GS_iinc (v := 1) (L' := [(5, _), (4, _), (0, _), (1, _), (2, _), (3, _)]) dX4_sortByFar_57 rfl (by decide) (by decide) rfl ?_
        refine G_goto (tgt := 6) dX4_sortByFar_60 (by decide) ?_
        refine G_sub [0, 1, 2, 3, 4, 5] rfl ?_
        rw [nI_1 j]
        first
          | (have e : inL S layer j = false := isin_f (S := S) hj8 c_22; rw [cnt_f e, kfil_f e] at q; exact q)
          | (have e : inL S layer j = true := isin_t (S := S) hj8 c_22; rw [cnt_t e, kfil_t e] at q; rw [nI_1, setR_twice, rput_nI (show cnt (inL S layer) j < 80 by omega) (by decide)]; exact q)
theorem sp_X4_sortByFar (hc : S.2.1 1 5 = nI c) (h80 : c ≤ 80) {layer x y : Int32} : Sp K MX4_sortByFar 8 0 0 [.ref 1, .int layer, .int x, .int y] (hp ly S) (fun v u => v = some (.int (nI (cnt (inL S layer) c))) ∧ u = hp ly (setR S 16 (srtA (kfil (S.1 16) (inL S layer) (keyV S x y) c) 0 0 (cnt (inL S layer) c)))) noX := by
  refine Sp_of (by decide) (Nat.le_of_ble_eq_true rfl) ?_
  refine G_iconst (v := 0) dX4_sortByFar_0 (by decide) ?_
  refine GS_istore (L' := [(4, _), (0, _), (1, _), (2, _), (3, _)]) dX4_sortByFar_1 (by decide) rfl ?_
  refine G_iconst (v := 0) dX4_sortByFar_3 (by decide) ?_
  refine GS_istore (L' := [(5, _), (4, _), (0, _), (1, _), (2, _), (3, _)]) dX4_sortByFar_4 (by decide) rfl ?_
  refine G_sub [0, 1, 2, 3, 4, 5] rfl ?_
  have q := lp_X4_sortByFar (K := K) (ly := ly) hc h80 (layer := layer) (x := x) (y := y) c 0 (by omega)
  rw [kfil, setR_self] at q
  exact q
theorem lp_X4_countNear (hc : S.2.1 1 5 = nI c) (h80 : c ≤ 80) {i layer far : Int32} {a : Nat} : ∀ m j, j + m = c → a ≤ j → G K MX4_countNear 10 0 0 0 0 6 [(6, .int (nI j)), (5, .int (nI (cnt (nearP S a i layer far) j))), (0, .ref 1), (1, .int i), (3, .int layer), (4, .int far)] [] (hp ly S) (QcP K (fun v u => v = some (.int (nI (cnt (nearP S a i layer far) c))) ∧ u = hp ly S)) (XcP K noX) := by
  intro m
  induction m with
  | zero =>
    intro j hj haj
    obtain rfl : j = c := by omega
    refine G_iload dX4_countNear_6 rfl ?_
    refine G_aload_n dX4_countNear_8 rfl ?_
    refine G_get (k := 5) dX4_countNear_9 cThings rfl wfl_X4_36 (by decide) rfl ?_
    rw [hc]
    refine G_icmp_ge (tgt := 53) dX4_countNear_12 (by decide) (fun c_12 => ?_) (fun c_12 => ?_)
    · refine G_iload dX4_countNear_53 rfl ?_
      exact G_iret dX4_countNear_55 rfl rfl ⟨Nat.le_refl 0, Nat.le_refl 0⟩ ⟨rfl, rfl⟩
    · exact absurd (nI_le (Nat.le_refl _) (by omega)) c_12
  | succ m ih =>
    intro j hj haj
    have hj8 : j < 80 := by omega
    have q := ih (j + 1) (by omega) (by omega)
    refine G_iload dX4_countNear_6 rfl ?_
    refine G_aload_n dX4_countNear_8 rfl ?_
    refine G_get (k := 5) dX4_countNear_9 cThings rfl wfl_X4_36 (by decide) rfl ?_
    rw [hc]
    refine G_icmp_ge (tgt := 53) dX4_countNear_12 (by decide) (fun c_12 => ?_) (fun c_12 => ?_)
    · exact absurd c_12 (nI_ge (show j < c by omega) (by omega))
    · refine G_aload_n dX4_countNear_15 rfl ?_
      refine G_iload dX4_countNear_16 rfl ?_
      refine G_iload_n dX4_countNear_18 rfl ?_
      refine G_cVi (As := [_, _]) dX4_countNear_19 kV_X4_isIn wml_X4_48 sp_X4_isIn rfl cThings rfl rfl rfl (by decide) ⟨Nat.le_refl 0, Nat.le_refl 0⟩ (Nat.le_of_ble_eq_true rfl) ?_
      refine G_if_eq (tgt := 47) dX4_countNear_22 (by decide) (fun c_22 => ?_) (fun c_22 => ?_)
      · refine GS_iinc (v := 1) (L' := [(6, _), (5, _), (0, _), (1, _), (3, _), (4, _)]) dX4_countNear_47 rfl (by decide) (by decide) rfl ?_
        refine G_goto (tgt := 6) dX4_countNear_50 (by decide) ?_
        refine G_sub [0, 1, 2, 3, 4, 5] rfl ?_
        rw [nI_1 j]
        first
          | (have e : nearP S a i layer far j = false := pand_f2 (pand_f1 (isin_f hj8 c_22)); rw [cnt_f e] at q; exact q)
          | (have e : nearP S a i layer far j = false := pand_f2 (pand_f2 (le_f c_41)); rw [cnt_f e] at q; exact q)
          | (have e : nearP S a i layer far j = true := pand_t (decide_eq_true haj) (pand_t (isin_t hj8 c_22) (le_t c_41)); rw [cnt_t e] at q; rw [nI_1]; exact q)
      · refine G_aload_n dX4_countNear_25 rfl ?_
        refine G_get (k := 0) dX4_countNear_26 cThings rfl wfl_X4_14 (by decide) rfl ?_
        refine G_iload_n dX4_countNear_29 rfl ?_
        refine G_aload_n dX4_countNear_30 rfl ?_
        refine G_get (k := 0) dX4_countNear_31 cThings rfl wfl_X4_14 (by decide) rfl ?_
        refine G_iload dX4_countNear_34 rfl ?_
        refine G_cVi (As := [_, _, _]) dX4_countNear_36 kV_X0_farBetween wml_X4_63 (sp_X0_farBetween bThings bThings) rfl (cBox bThings) rfl rfl rfl (by decide) ⟨Nat.le_refl 0, Nat.le_refl 0⟩ (Nat.le_of_ble_eq_true rfl) ?_
        refine G_iload dX4_countNear_39 rfl ?_
        refine G_icmp_gt (tgt := 47) dX4_countNear_41 (by decide) (fun c_41 => ?_) (fun c_41 => ?_)
        · refine GS_iinc (v := 1) (L' := [(6, _), (5, _), (0, _), (1, _), (3, _), (4, _)]) dX4_countNear_47 rfl (by decide) (by decide) rfl ?_
          refine G_goto (tgt := 6) dX4_countNear_50 (by decide) ?_
          refine G_sub [0, 1, 2, 3, 4, 5] rfl ?_
          rw [nI_1 j]
          first
            | (have e : nearP S a i layer far j = false := pand_f2 (pand_f1 (isin_f hj8 c_22)); rw [cnt_f e] at q; exact q)
            | (have e : nearP S a i layer far j = false := pand_f2 (pand_f2 (le_f c_41)); rw [cnt_f e] at q; exact q)
            | (have e : nearP S a i layer far j = true := pand_t (decide_eq_true haj) (pand_t (isin_t hj8 c_22) (le_t c_41)); rw [cnt_t e] at q; rw [nI_1]; exact q)
        · refine GS_iinc (v := 1) (L' := [(5, _), (6, _), (0, _), (1, _), (3, _), (4, _)]) dX4_countNear_44 rfl (by decide) (by decide) rfl ?_
          refine GS_iinc (v := 1) (L' := [(6, _), (5, _), (0, _), (1, _), (3, _), (4, _)]) dX4_countNear_47 rfl (by decide) (by decide) rfl ?_
          refine G_goto (tgt := 6) dX4_countNear_50 (by decide) ?_
          refine G_sub [0, 1, 2, 3, 4, 5] rfl ?_
          rw [nI_1 j]
          first
            | (have e : nearP S a i layer far j = false := pand_f2 (pand_f1 (isin_f hj8 c_22)); rw [cnt_f e] at q; exact q)
            | (have e : nearP S a i layer far j = false := pand_f2 (pand_f2 (le_f c_41)); rw [cnt_f e] at q; exact q)
            | (have e : nearP S a i layer far j = true := pand_t (decide_eq_true haj) (pand_t (isin_t hj8 c_22) (le_t c_41)); rw [cnt_t e] at q; rw [nI_1]; exact q)
theorem cnt_0 {p : Nat → Bool} : ∀ n, (∀ k, k < n → p k = false) → cnt p n = 0 := by
  intro n
  induction n with
  | zero => intro _; rfl
  | succ n ih => intro h; rw [cnt_f (h n (by omega))]; exact ih (fun k hk => h k (by omega))
theorem sp_X4_countNear (hc : S.2.1 1 5 = nI c) (h80 : c ≤ 80) {i layer far : Int32} {a : Nat} (hac : a ≤ c) : Sp K MX4_countNear 10 0 0 [.ref 1, .int i, .int (nI a), .int layer, .int far] (hp ly S) (fun v u => v = some (.int (nI (cnt (nearP S a i layer far) c))) ∧ u = hp ly S) noX := by
  refine Sp_of (by decide) (Nat.le_of_ble_eq_true rfl) ?_
  refine G_iconst (v := 0) dX4_countNear_0 (by decide) ?_
  refine GS_istore (L' := [(5, _), (0, _), (1, _), (2, _), (3, _), (4, _)]) dX4_countNear_1 (by decide) rfl ?_
  refine G_iload_n dX4_countNear_3 rfl ?_
  refine GS_istore (L' := [(6, _), (5, _), (0, _), (1, _), (2, _), (3, _), (4, _)]) dX4_countNear_4 (by decide) rfl ?_
  refine G_sub [0, 1, 2, 3, 5, 6] rfl ?_
  have q := lp_X4_countNear (K := K) (ly := ly) hc h80 (i := i) (layer := layer) (far := far) (c - a) a (by omega) (Nat.le_refl a)
  rw [cnt_0 (p := nearP S a i layer far) a (fun k hk => pand_f1 (decide_eq_false (by omega)))] at q
  exact q
theorem lp_X4_countPairs (hc : S.2.1 1 5 = nI c) (h80 : c ≤ 80) {one other far : Int32} : ∀ m j, j + m = c → G K MX4_countPairs 12 0 0 0 0 6 [(5, .int (nI j)), (4, .int (nI (smN (pairG S c one other far) j))), (0, .ref 1), (1, .int one), (2, .int other), (3, .int far)] [] (hp ly S) (QcP K (fun v u => v = some (.int (nI (smN (pairG S c one other far) c))) ∧ u = hp ly S)) (XcP K noX) := by
  intro m
  induction m with
  | zero =>
    intro j hj
    obtain rfl : j = c := by omega
    refine G_iload dX4_countPairs_6 rfl ?_
    refine G_aload_n dX4_countPairs_8 rfl ?_
    refine G_get (k := 5) dX4_countPairs_9 cThings rfl wfl_X4_36 (by decide) rfl ?_
    rw [hc]
    refine G_icmp_ge (tgt := 61) dX4_countPairs_12 (by decide) (fun c_12 => ?_) (fun c_12 => ?_)
    · refine G_iload dX4_countPairs_61 rfl ?_
      exact G_iret dX4_countPairs_63 rfl rfl ⟨Nat.le_refl 0, Nat.le_refl 0⟩ ⟨rfl, rfl⟩
    · exact absurd (nI_le (Nat.le_refl _) (by omega)) c_12
  | succ m ih =>
    intro j hj
    have hj8 : j < 80 := by omega
    have q := ih (j + 1) (by omega)
    rw [smN] at q
    refine G_iload dX4_countPairs_6 rfl ?_
    refine G_aload_n dX4_countPairs_8 rfl ?_
    refine G_get (k := 5) dX4_countPairs_9 cThings rfl wfl_X4_36 (by decide) rfl ?_
    rw [hc]
    refine G_icmp_ge (tgt := 61) dX4_countPairs_12 (by decide) (fun c_12 => ?_) (fun c_12 => ?_)
    · exact absurd c_12 (nI_ge (show j < c by omega) (by omega))
    · refine G_aload_n dX4_countPairs_15 rfl ?_
      refine G_iload dX4_countPairs_16 rfl ?_
      refine G_iload_n dX4_countPairs_18 rfl ?_
      refine G_cVi (As := [_, _]) dX4_countPairs_19 kV_X4_isIn wml_X4_48 sp_X4_isIn rfl cThings rfl rfl rfl (by decide) ⟨Nat.le_refl 0, Nat.le_refl 0⟩ (Nat.le_of_ble_eq_true rfl) ?_
      refine G_if_eq (tgt := 55) dX4_countPairs_22 (by decide) (fun c_22 => ?_) (fun c_22 => ?_)
      · refine GS_iinc (v := 1) (L' := [(5, _), (4, _), (0, _), (1, _), (2, _), (3, _)]) dX4_countPairs_55 rfl (by decide) (by decide) rfl ?_
        refine G_goto (tgt := 6) dX4_countPairs_58 (by decide) ?_
        refine G_sub [0, 1, 2, 3, 4, 5] rfl ?_
        rw [nI_1 j]
        first
          | (have e : pairG S c one other far j = 0 := by (unfold pairG; rw [if_neg (by rw [isin_f hj8 c_22]; decide)])
             rw [e] at q
             exact q)
          | (have e : pairG S c one other far j = cnt (nearP S (j + 1) (nI j) other far) c := by (unfold pairG; rw [if_pos (isin_t hj8 c_22), if_pos c_27])
             rw [e] at q
             rw [nI_add]
             exact q)
          | (have e : pairG S c one other far j = cnt (nearP S 0 (nI j) other far) c := by (unfold pairG; rw [if_pos (isin_t hj8 c_22), if_neg c_27])
             rw [e] at q
             rw [nI_add]
             exact q)
      · refine G_iload_n dX4_countPairs_25 rfl ?_
        refine G_iload_n dX4_countPairs_26 rfl ?_
        refine G_icmp_ne (tgt := 37) dX4_countPairs_27 (by decide) (fun c_27 => ?_) (fun c_27 => ?_)
        · refine G_iconst (v := 0) dX4_countPairs_37 (by decide) ?_
          first | skip
          refine GS_istore (L' := [(6, _), (5, _), (4, _), (0, _), (1, _), (2, _), (3, _)]) dX4_countPairs_38 (by decide) rfl ?_
          refine G_iload dX4_countPairs_40 rfl ?_
          refine G_aload_n dX4_countPairs_42 rfl ?_
          refine G_iload dX4_countPairs_43 rfl ?_
          refine G_iload dX4_countPairs_45 rfl ?_
          refine G_iload_n dX4_countPairs_47 rfl ?_
          refine G_iload_n dX4_countPairs_48 rfl ?_
          refine G_cVi (As := [_, _, _, _]) dX4_countPairs_49 kV_X4_countNear wml_X4_59 (sp_X4_countNear (a := 0) hc h80 (Nat.zero_le c)) rfl cThings rfl rfl rfl (by decide) ⟨Nat.le_refl 0, Nat.le_refl 0⟩ (Nat.le_of_ble_eq_true rfl) ?_
          refine G_iadd dX4_countPairs_52 ?_
          refine GS_istore (L' := [(4, _), (6, _), (5, _), (0, _), (1, _), (2, _), (3, _)]) dX4_countPairs_53 (by decide) rfl ?_
          refine GS_iinc (v := 1) (L' := [(5, _), (4, _), (6, _), (0, _), (1, _), (2, _), (3, _)]) dX4_countPairs_55 rfl (by decide) (by decide) rfl ?_
          refine G_goto (tgt := 6) dX4_countPairs_58 (by decide) ?_
          refine G_sub [0, 1, 3, 4, 5, 6] rfl ?_
          rw [nI_1 j]
          first
            | (have e : pairG S c one other far j = 0 := by (unfold pairG; rw [if_neg (by rw [isin_f hj8 c_22]; decide)])
               rw [e] at q
               exact q)
            | (have e : pairG S c one other far j = cnt (nearP S (j + 1) (nI j) other far) c := by (unfold pairG; rw [if_pos (isin_t hj8 c_22), if_pos c_27])
               rw [e] at q
               rw [nI_add]
               exact q)
            | (have e : pairG S c one other far j = cnt (nearP S 0 (nI j) other far) c := by (unfold pairG; rw [if_pos (isin_t hj8 c_22), if_neg c_27])
               rw [e] at q
               rw [nI_add]
               exact q)
        · refine G_iload dX4_countPairs_30 rfl ?_
          refine G_iconst (v := 1) dX4_countPairs_32 (by decide) ?_
          refine G_iadd dX4_countPairs_33 ?_
          rw [nI_1 j]
          refine G_goto (tgt := 38) dX4_countPairs_34 (by decide) ?_
          first | skip
          refine GS_istore (L' := [(6, _), (5, _), (4, _), (0, _), (1, _), (2, _), (3, _)]) dX4_countPairs_38 (by decide) rfl ?_
          refine G_iload dX4_countPairs_40 rfl ?_
          refine G_aload_n dX4_countPairs_42 rfl ?_
          refine G_iload dX4_countPairs_43 rfl ?_
          refine G_iload dX4_countPairs_45 rfl ?_
          refine G_iload_n dX4_countPairs_47 rfl ?_
          refine G_iload_n dX4_countPairs_48 rfl ?_
          refine G_cVi (As := [_, _, _, _]) dX4_countPairs_49 kV_X4_countNear wml_X4_59 (sp_X4_countNear (a := j + 1) hc h80 (by omega)) rfl cThings rfl rfl rfl (by decide) ⟨Nat.le_refl 0, Nat.le_refl 0⟩ (Nat.le_of_ble_eq_true rfl) ?_
          refine G_iadd dX4_countPairs_52 ?_
          refine GS_istore (L' := [(4, _), (6, _), (5, _), (0, _), (1, _), (2, _), (3, _)]) dX4_countPairs_53 (by decide) rfl ?_
          refine GS_iinc (v := 1) (L' := [(5, _), (4, _), (6, _), (0, _), (1, _), (2, _), (3, _)]) dX4_countPairs_55 rfl (by decide) (by decide) rfl ?_
          refine G_goto (tgt := 6) dX4_countPairs_58 (by decide) ?_
          refine G_sub [0, 1, 3, 4, 5, 6] rfl ?_
          rw [nI_1 j]
          first
            | (have e : pairG S c one other far j = 0 := by (unfold pairG; rw [if_neg (by rw [isin_f hj8 c_22]; decide)])
               rw [e] at q
               exact q)
            | (have e : pairG S c one other far j = cnt (nearP S (j + 1) (nI j) other far) c := by (unfold pairG; rw [if_pos (isin_t hj8 c_22), if_pos c_27])
               rw [e] at q
               rw [nI_add]
               exact q)
            | (have e : pairG S c one other far j = cnt (nearP S 0 (nI j) other far) c := by (unfold pairG; rw [if_pos (isin_t hj8 c_22), if_neg c_27])
               rw [e] at q
               rw [nI_add]
               exact q)
theorem sp_X4_countPairs (hc : S.2.1 1 5 = nI c) (h80 : c ≤ 80) {one other far : Int32} : Sp K MX4_countPairs 12 0 0 [.ref 1, .int one, .int other, .int far] (hp ly S) (fun v u => v = some (.int (nI (smN (pairG S c one other far) c))) ∧ u = hp ly S) noX := by
  refine Sp_of (by decide) (Nat.le_of_ble_eq_true rfl) ?_
  refine G_iconst (v := 0) dX4_countPairs_0 (by decide) ?_
  refine GS_istore (L' := [(4, _), (0, _), (1, _), (2, _), (3, _)]) dX4_countPairs_1 (by decide) rfl ?_
  refine G_iconst (v := 0) dX4_countPairs_3 (by decide) ?_
  refine GS_istore (L' := [(5, _), (4, _), (0, _), (1, _), (2, _), (3, _)]) dX4_countPairs_4 (by decide) rfl ?_
  refine G_sub [0, 1, 2, 3, 4, 5] rfl ?_
  exact lp_X4_countPairs hc h80 c 0 (by omega)
end TH2
