/-- how many of the first n -/
def cnt (p : Nat → Bool) (n : Nat) : Nat := match n with
  | 0 => 0
  | n + 1 => cnt p n + (if p n = true then 1 else 0)
theorem cnt_t {p : Nat → Bool} {n : Nat} (h : p n = true) : cnt p (n + 1) = cnt p n + 1 := by rw [cnt, if_pos h]
theorem cnt_f {p : Nat → Bool} {n : Nat} (h : p n = false) : cnt p (n + 1) = cnt p n := by rw [cnt, if_neg (by rw [h]; decide)]; rfl
theorem cnt_qf {p : Nat → Bool} {n : Nat} {Q : Int32 → Prop} (q : Q (nI (cnt p (n + 1)))) (h : p n = false) : Q (nI (cnt p n)) := by rw [cnt_f h] at q; exact q
theorem cnt_qt {p : Nat → Bool} {n : Nat} {Q : Int32 → Prop} (q : Q (nI (cnt p (n + 1)))) (h : p n = true) : Q (nI (cnt p n) + 1) := by rw [cnt_t h, ← nI_1] at q; exact q
theorem pand_f1 {a b : Bool} (h : a = false) : (a && b) = false := by rw [h]; rfl
theorem pand_f2 {a b : Bool} (h : b = false) : (a && b) = false := by rw [h]; exact Bool.and_false a
theorem pand_t {a b : Bool} (h : a = true) (h2 : b = true) : (a && b) = true := by rw [h, h2]; rfl
theorem cnt_le (p : Nat → Bool) (n : Nat) : cnt p n ≤ n := by
  induction n with
  | zero => exact Nat.le_refl 0
  | succ n ih => rw [cnt]; split <;> omega
theorem cnt_cong {p q : Nat → Bool} {n : Nat} (h : ∀ k, k < n → p k = q k) : cnt p n = cnt q n := by
  induction n with
  | zero => rfl
  | succ n ih => rw [cnt, cnt, ih (fun k hk => h k (by omega)), h n (by omega)]
theorem cnt_sub {p q : Nat → Bool} {n : Nat} (h : ∀ k, k < n → p k = true → q k = true) : cnt p n ≤ cnt q n := by
  induction n with
  | zero => exact Nat.le_refl 0
  | succ n ih =>
    have h1 := ih (fun k hk => h k (by omega))
    have h2 := h n (by omega)
    rw [cnt, cnt]
    by_cases hp : p n = true
    · rw [if_pos hp, if_pos (h2 hp)]; omega
    · rw [if_neg hp]; split <;> omega
theorem rat_nI {f : Nat → Int32} {n k : Nat} (hk : k < n) (hn : n < 2 ^ 31) : rat f n (nI k) = f k := by
  rw [rat, if_neg (nI_pos (by omega)), if_neg (nI_ge hk hn), nI_clamp (by omega)]
theorem rput_nI {f : Nat → Int32} {n k : Nat} {x : Int32} (hk : k < n) (hn : n < 2 ^ 31) : rput f n (nI k) x = upd f k x := by
  rw [rput, if_neg (nI_pos (by omega)), if_neg (nI_ge hk hn), nI_clamp (by omega)]
/-- whether a thing is in a layer -/
def isin (S : St) (i layer : Int32) : Int32 := if rat (S.1 12) 80 i = layer then 1 else 0
abbrev inL (S : St) (layer : Int32) (k : Nat) : Bool := decide (S.1 12 k = layer)
theorem isin_f {S : St} {layer : Int32} {k : Nat} (hk : k < 80) (h : isin S (nI k) layer = 0) : inL S layer k = false := by
  unfold isin at h
  rw [rat_nI hk (by decide)] at h
  by_cases e : S.1 12 k = layer
  · rw [if_pos e] at h; exact absurd h (by decide)
  · exact decide_eq_false e
theorem isin_t {S : St} {layer : Int32} {k : Nat} (hk : k < 80) (h : ¬ isin S (nI k) layer = 0) : inL S layer k = true := by
  unfold isin at h
  rw [rat_nI hk (by decide)] at h
  by_cases e : S.1 12 k = layer
  · exact decide_eq_true e
  · rw [if_neg e] at h; exact absurd rfl h
section TH
variable {K : GK} {ly : Nat} {S : St} {c : Nat}
theorem sp_X4_isIn {i layer : Int32} : Sp K MX4_isIn 4 0 0 [.ref 1, .int i, .int layer] (hp ly S) (fun v u => v = some (.int (isin S i layer)) ∧ u = hp ly S) noX := by
  refine Sp_of (by decide) (Nat.le_of_ble_eq_true rfl) ?_
  refine G_aload_n dX4_isIn_0 rfl ?_
  refine G_get (k := 1) dX4_isIn_1 cThings rfl wfl_X4_23 (by decide) rfl ?_
  refine G_iload_n dX4_isIn_4 rfl ?_
  refine G_cVi (As := [_]) dX4_isIn_5 kV_X3_at wml_X4_44 (sp_X3_at rLayerOf) rfl (cRow rLayerOf) rfl rfl rfl (by decide) ⟨Nat.le_refl 0, Nat.le_refl 0⟩ (Nat.le_of_ble_eq_true rfl) ?_
  refine G_iload_n dX4_isIn_8 rfl ?_
  refine G_icmp_ne (tgt := 16) dX4_isIn_9 (by decide) (fun c_9 => ?_) (fun c_9 => ?_)
  · refine G_iconst (v := 0) dX4_isIn_16 (by decide) ?_
    exact G_iret dX4_isIn_17 rfl rfl ⟨Nat.le_refl 0, Nat.le_refl 0⟩ ⟨by unfold isin; first | rw [if_pos c_9] | rw [if_neg c_9], rfl⟩
  · refine G_iconst (v := 1) dX4_isIn_12 (by decide) ?_
    refine G_goto (tgt := 17) dX4_isIn_13 (by decide) ?_
    exact G_iret dX4_isIn_17 rfl rfl ⟨Nat.le_refl 0, Nat.le_refl 0⟩ ⟨by unfold isin; first | rw [if_pos c_9] | rw [if_neg c_9], rfl⟩
theorem lp_X4_countIn (hc : S.2.1 1 5 = nI c) (h80 : c ≤ 80) {layer : Int32} : ∀ m j, j + m = c → G K MX4_countIn 8 0 0 0 0 4 [(3, .int (nI j)), (2, .int (nI (cnt (inL S layer) j))), (0, .ref 1), (1, .int layer)] [] (hp ly S) (QcP K (fun v u => v = some (.int (nI (cnt (inL S layer) c))) ∧ u = hp ly S)) (XcP K noX) := by
  intro m
  induction m with
  | zero =>
    intro j hj
    obtain rfl : j = c := by omega
    refine G_iload_n dX4_countIn_4 rfl ?_
    refine G_aload_n dX4_countIn_5 rfl ?_
    refine G_get (k := 5) dX4_countIn_6 cThings rfl wfl_X4_36 (by decide) rfl ?_
    rw [hc]
    refine G_icmp_ge (tgt := 30) dX4_countIn_9 (by decide) (fun c_9 => ?_) (fun c_9 => ?_)
    · refine G_iload_n dX4_countIn_30 rfl ?_
      exact G_iret dX4_countIn_31 rfl rfl ⟨Nat.le_refl 0, Nat.le_refl 0⟩ ⟨rfl, rfl⟩
    · exact absurd (nI_le (Nat.le_refl _) (by omega)) c_9
  | succ m ih =>
    intro j hj
    have hj8 : j < 80 := by omega
    have q := ih (j + 1) (by omega)
    refine G_iload_n dX4_countIn_4 rfl ?_
    refine G_aload_n dX4_countIn_5 rfl ?_
    refine G_get (k := 5) dX4_countIn_6 cThings rfl wfl_X4_36 (by decide) rfl ?_
    rw [hc]
    refine G_icmp_ge (tgt := 30) dX4_countIn_9 (by decide) (fun c_9 => ?_) (fun c_9 => ?_)
    · exact absurd c_9 (nI_ge (show j < c by omega) (by omega))
    · refine G_aload_n dX4_countIn_12 rfl ?_
      refine G_iload_n dX4_countIn_13 rfl ?_
      refine G_iload_n dX4_countIn_14 rfl ?_
      refine G_cVi (As := [_, _]) dX4_countIn_15 kV_X4_isIn wml_X4_48 sp_X4_isIn rfl cThings rfl rfl rfl (by decide) ⟨Nat.le_refl 0, Nat.le_refl 0⟩ (Nat.le_of_ble_eq_true rfl) ?_
      refine G_if_eq (tgt := 24) dX4_countIn_18 (by decide) (fun c_18 => ?_) (fun c_18 => ?_)
      · refine GS_iinc (v := 1) (L' := [(3, _), (2, _), (0, _), (1, _)]) dX4_countIn_24 rfl (by decide) (by decide) rfl ?_
        refine G_goto (tgt := 4) dX4_countIn_27 (by decide) ?_
        refine G_sub [0, 1, 2, 3] rfl ?_
        rw [nI_1 j]
        first
          | (have e : (inL S layer) j = false := isin_f hj8 c_18; rw [cnt_f e] at q; exact q)
          | (have e : (inL S layer) j = true := isin_t hj8 c_18; rw [cnt_t e] at q; rw [nI_1]; exact q)
      · refine GS_iinc (v := 1) (L' := [(2, _), (3, _), (0, _), (1, _)]) dX4_countIn_21 rfl (by decide) (by decide) rfl ?_
        refine GS_iinc (v := 1) (L' := [(3, _), (2, _), (0, _), (1, _)]) dX4_countIn_24 rfl (by decide) (by decide) rfl ?_
        refine G_goto (tgt := 4) dX4_countIn_27 (by decide) ?_
        refine G_sub [0, 1, 2, 3] rfl ?_
        rw [nI_1 j]
        first
          | (have e : (inL S layer) j = false := isin_f hj8 c_18; rw [cnt_f e] at q; exact q)
          | (have e : (inL S layer) j = true := isin_t hj8 c_18; rw [cnt_t e] at q; rw [nI_1]; exact q)
theorem sp_X4_countIn (hc : S.2.1 1 5 = nI c) (h80 : c ≤ 80) {layer : Int32} : Sp K MX4_countIn 8 0 0 [.ref 1, .int layer] (hp ly S) (fun v u => v = some (.int (nI (cnt (inL S layer) c))) ∧ u = hp ly S) noX := by
  refine Sp_of (by decide) (Nat.le_of_ble_eq_true rfl) ?_
  refine G_iconst (v := 0) dX4_countIn_0 (by decide) ?_
  refine GS_istore_n (L' := [(2, _), (0, _), (1, _)]) dX4_countIn_1 (by decide) rfl ?_
  refine G_iconst (v := 0) dX4_countIn_2 (by decide) ?_
  refine GS_istore_n (L' := [(3, _), (2, _), (0, _), (1, _)]) dX4_countIn_3 (by decide) rfl ?_
  refine G_sub [0, 1, 2, 3] rfl ?_
  exact lp_X4_countIn hc h80 c 0 (by omega)
theorem lp_X4_countMeeting (hc : S.2.1 1 5 = nI c) (h80 : c ≤ 80) {layer x y w h : Int32} : ∀ m j, j + m = c → G K MX4_countMeeting 8 0 0 0 0 6 [(7, .int (nI j)), (6, .int (nI (cnt (fun k => inL S layer k && decide (bfar S 2 80 (nI k) x y w h = 0)) j))), (0, .ref 1), (1, .int layer), (2, .int x), (3, .int y), (4, .int w), (5, .int h)] [] (hp ly S) (QcP K (fun v u => v = some (.int (nI (cnt (fun k => inL S layer k && decide (bfar S 2 80 (nI k) x y w h = 0)) c))) ∧ u = hp ly S)) (XcP K noX) := by
  intro m
  induction m with
  | zero =>
    intro j hj
    obtain rfl : j = c := by omega
    refine G_iload dX4_countMeeting_6 rfl ?_
    refine G_aload_n dX4_countMeeting_8 rfl ?_
    refine G_get (k := 5) dX4_countMeeting_9 cThings rfl wfl_X4_36 (by decide) rfl ?_
    rw [hc]
    refine G_icmp_ge (tgt := 52) dX4_countMeeting_12 (by decide) (fun c_12 => ?_) (fun c_12 => ?_)
    · refine G_iload dX4_countMeeting_52 rfl ?_
      exact G_iret dX4_countMeeting_54 rfl rfl ⟨Nat.le_refl 0, Nat.le_refl 0⟩ ⟨rfl, rfl⟩
    · exact absurd (nI_le (Nat.le_refl _) (by omega)) c_12
  | succ m ih =>
    intro j hj
    have hj8 : j < 80 := by omega
    have q := ih (j + 1) (by omega)
    refine G_iload dX4_countMeeting_6 rfl ?_
    refine G_aload_n dX4_countMeeting_8 rfl ?_
    refine G_get (k := 5) dX4_countMeeting_9 cThings rfl wfl_X4_36 (by decide) rfl ?_
    rw [hc]
    refine G_icmp_ge (tgt := 52) dX4_countMeeting_12 (by decide) (fun c_12 => ?_) (fun c_12 => ?_)
    · exact absurd c_12 (nI_ge (show j < c by omega) (by omega))
    · refine G_aload_n dX4_countMeeting_15 rfl ?_
      refine G_iload dX4_countMeeting_16 rfl ?_
      refine G_iload_n dX4_countMeeting_18 rfl ?_
      refine G_cVi (As := [_, _]) dX4_countMeeting_19 kV_X4_isIn wml_X4_48 sp_X4_isIn rfl cThings rfl rfl rfl (by decide) ⟨Nat.le_refl 0, Nat.le_refl 0⟩ (Nat.le_of_ble_eq_true rfl) ?_
      refine G_if_eq (tgt := 46) dX4_countMeeting_22 (by decide) (fun c_22 => ?_) (fun c_22 => ?_)
      · refine GS_iinc (v := 1) (L' := [(7, _), (6, _), (0, _), (1, _), (2, _), (3, _), (4, _), (5, _)]) dX4_countMeeting_46 rfl (by decide) (by decide) rfl ?_
        refine G_goto (tgt := 6) dX4_countMeeting_49 (by decide) ?_
        refine G_sub [0, 1, 2, 3, 4, 5, 6, 7] rfl ?_
        rw [nI_1 j]
        first
          | (have e : (fun k => inL S layer k && decide (bfar S 2 80 (nI k) x y w h = 0)) j = false := pand_f1 (isin_f hj8 c_22); rw [cnt_f e] at q; exact q)
          | (have e : (fun k => inL S layer k && decide (bfar S 2 80 (nI k) x y w h = 0)) j = false := pand_f2 (decide_eq_false c_40); rw [cnt_f e] at q; exact q)
          | (have e : (fun k => inL S layer k && decide (bfar S 2 80 (nI k) x y w h = 0)) j = true := pand_t (isin_t hj8 c_22) (decide_eq_true c_40); rw [cnt_t e] at q; rw [nI_1]; exact q)
      · refine G_aload_n dX4_countMeeting_25 rfl ?_
        refine G_get (k := 0) dX4_countMeeting_26 cThings rfl wfl_X4_14 (by decide) rfl ?_
        refine G_iload dX4_countMeeting_29 rfl ?_
        refine G_iload_n dX4_countMeeting_31 rfl ?_
        refine G_iload_n dX4_countMeeting_32 rfl ?_
        refine G_iload dX4_countMeeting_33 rfl ?_
        refine G_iload dX4_countMeeting_35 rfl ?_
        refine G_cVi (As := [_, _, _, _, _]) dX4_countMeeting_37 kV_X0_farFrom wml_X4_52 (sp_X0_farFrom bThings) rfl (cBox bThings) rfl rfl rfl (by decide) ⟨Nat.le_refl 0, Nat.le_refl 0⟩ (Nat.le_of_ble_eq_true rfl) ?_
        refine G_if_ne (tgt := 46) dX4_countMeeting_40 (by decide) (fun c_40 => ?_) (fun c_40 => ?_)
        · refine GS_iinc (v := 1) (L' := [(7, _), (6, _), (0, _), (1, _), (2, _), (3, _), (4, _), (5, _)]) dX4_countMeeting_46 rfl (by decide) (by decide) rfl ?_
          refine G_goto (tgt := 6) dX4_countMeeting_49 (by decide) ?_
          refine G_sub [0, 1, 2, 3, 4, 5, 6, 7] rfl ?_
          rw [nI_1 j]
          first
            | (have e : (fun k => inL S layer k && decide (bfar S 2 80 (nI k) x y w h = 0)) j = false := pand_f1 (isin_f hj8 c_22); rw [cnt_f e] at q; exact q)
            | (have e : (fun k => inL S layer k && decide (bfar S 2 80 (nI k) x y w h = 0)) j = false := pand_f2 (decide_eq_false c_40); rw [cnt_f e] at q; exact q)
            | (have e : (fun k => inL S layer k && decide (bfar S 2 80 (nI k) x y w h = 0)) j = true := pand_t (isin_t hj8 c_22) (decide_eq_true c_40); rw [cnt_t e] at q; rw [nI_1]; exact q)
        · refine GS_iinc (v := 1) (L' := [(6, _), (7, _), (0, _), (1, _), (2, _), (3, _), (4, _), (5, _)]) dX4_countMeeting_43 rfl (by decide) (by decide) rfl ?_
          refine GS_iinc (v := 1) (L' := [(7, _), (6, _), (0, _), (1, _), (2, _), (3, _), (4, _), (5, _)]) dX4_countMeeting_46 rfl (by decide) (by decide) rfl ?_
          refine G_goto (tgt := 6) dX4_countMeeting_49 (by decide) ?_
          refine G_sub [0, 1, 2, 3, 4, 5, 6, 7] rfl ?_
          rw [nI_1 j]
          first
            | (have e : (fun k => inL S layer k && decide (bfar S 2 80 (nI k) x y w h = 0)) j = false := pand_f1 (isin_f hj8 c_22); rw [cnt_f e] at q; exact q)
            | (have e : (fun k => inL S layer k && decide (bfar S 2 80 (nI k) x y w h = 0)) j = false := pand_f2 (decide_eq_false c_40); rw [cnt_f e] at q; exact q)
            | (have e : (fun k => inL S layer k && decide (bfar S 2 80 (nI k) x y w h = 0)) j = true := pand_t (isin_t hj8 c_22) (decide_eq_true c_40); rw [cnt_t e] at q; rw [nI_1]; exact q)
theorem sp_X4_countMeeting (hc : S.2.1 1 5 = nI c) (h80 : c ≤ 80) {layer x y w h : Int32} : Sp K MX4_countMeeting 8 0 0 [.ref 1, .int layer, .int x, .int y, .int w, .int h] (hp ly S) (fun v u => v = some (.int (nI (cnt (fun k => inL S layer k && decide (bfar S 2 80 (nI k) x y w h = 0)) c))) ∧ u = hp ly S) noX := by
  refine Sp_of (by decide) (Nat.le_of_ble_eq_true rfl) ?_
  refine G_iconst (v := 0) dX4_countMeeting_0 (by decide) ?_
  refine GS_istore (L' := [(6, _), (0, _), (1, _), (2, _), (3, _), (4, _), (5, _)]) dX4_countMeeting_1 (by decide) rfl ?_
  refine G_iconst (v := 0) dX4_countMeeting_3 (by decide) ?_
  refine GS_istore (L' := [(7, _), (6, _), (0, _), (1, _), (2, _), (3, _), (4, _), (5, _)]) dX4_countMeeting_4 (by decide) rfl ?_
  refine G_sub [0, 1, 2, 3, 4, 5, 6, 7] rfl ?_
  exact lp_X4_countMeeting hc h80 c 0 (by omega)
end TH
