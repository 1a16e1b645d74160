/-! the law: the loop over the nearest -/
abbrev ML_law : MD := (yL_law, cL_law, 16, some .boolean)
section LW
variable {K : GK} {S0 : St} {X Y W H : Nat → Nat} {cap L N0 N1 lr uc us : Nat} {P : Option Value → VH → Prop}
abbrev GL (K : GK) (uc us : Nat) (P : Option Value → VH → Prop) (pc : Nat) (l : List (Nat × Value)) (S : St) : Prop := G K ML_law 1300 600074 7301550 uc us pc l [] (hp 2 S) (QcP K P) (XcP K noX)
def laN (S0 : St) (lr x y kk : Nat) : Int32 := if kk = 1 then 0 else nI (frN S0 lr x y (kk - 1))
def seN (S0 : St) (N lr x y kk : Nat) : Int32 := if kk = 1 then 0 else nI (cnt (visP S0 (50 + 25 * lr) (nI x) (nI y) 0 0 (nI (frN S0 lr x y (kk - 1)))) N)
set_option maxHeartbeats 400000 in
theorem la_step (hI : INV S0 X Y W H cap L N0 N1) {x y kk : Nat} (hx : x ≤ 1023) (hy : y ≤ 1023) (h1 : 1 ≤ kk) (h2 : kk ≤ mN S0 lr) : ¬ nI (frN S0 lr x y kk) < laN S0 lr x y kk ∧ ¬ nI (cnt (visP S0 (50 + 25 * lr) (nI x) (nI y) 0 0 (nI (frN S0 lr x y kk))) (NN N0 N1 lr)) < seN S0 (NN N0 N1 lr) lr x y kk := by
  obtain ⟨k, k1, k2, k3, k4, k5, k6⟩ := near_at hI hx hy h1 h2
  have hN : NN N0 N1 lr ≤ 2000 := by
    have q := qx_small hI.2.2.2.1.choose_spec.choose_spec.2
    have q2 := hI.2.2.2.2.1.2.1
    unfold NN
    split <;> omega
  have hc := cnt_le (visP S0 (50 + 25 * lr) (nI x) (nI y) 0 0 (nI (frN S0 lr x y kk))) (NN N0 N1 lr)
  unfold laN seN
  by_cases e : kk = 1
  · rw [if_pos e, if_pos e]
    exact ⟨nI_pos (by omega), nI_pos (by omega)⟩
  · rw [if_neg e, if_neg e]
    have hm := near_mono (lr := lr) hI hx hy (show 1 ≤ kk - 1 by omega) (show kk - 1 + 1 ≤ mN S0 lr by omega)
    rw [show kk - 1 + 1 = kk by omega] at hm
    exact ⟨nI_nlt hm (by omega), nI_nlt (vis_far hm (by omega)) (by omega)⟩

set_option maxHeartbeats 400000 in
theorem lw259 (hI : INV S0 X Y W H cap L N0 N1) (hlr : lr < 2) {x y : Nat} (hx : x ≤ 1023) (hy : y ≤ 1023) {w tn : Int32} {sum : Int64} {z : UInt32} (hu : uc ≤ 600074) (hv : us ≤ 7301550) (k3 : ∀ S a b d, AK S0 S → GL K uc us P 366 [(12, .int a), (11, .int b), (10, .int d), (9, .int (nI (mN S0 lr))), (8, .int (nI lr)), (7, .int w), (6, .int (nI y)), (5, .int (nI x)), (3, .long sum), (2, .int tn), (1, .ref 0), (0, .float z)] S) : ∀ m kk, kk + m = mN S0 lr + 1 → 1 ≤ kk → ∀ S, AK S0 S → GL K uc us P 259 [(12, .int (nI kk)), (11, .int (seN S0 (NN N0 N1 lr) lr x y kk)), (10, .int (laN S0 lr x y kk)), (9, .int (nI (mN S0 lr))), (8, .int (nI lr)), (7, .int w), (6, .int (nI y)), (5, .int (nI x)), (3, .long sum), (2, .int tn), (1, .ref 0), (0, .float z)] S := by
  have hmN : mN S0 lr ≤ 24 := mN_le
  intro m
  induction m with
  | zero =>
    intro kk hk h1 S hA
    refine G_iload dL_law_259 rfl ?_
    refine G_iload dL_law_261 rfl ?_
    refine G_icmp_gt (tgt := 366) dL_law_263 (by decide) (fun c_263 => ?_) (fun c_263 => ?_)
    · exact k3 S _ _ _ hA
    · exact absurd (nI_lt (a := mN S0 lr) (b := kk) (by omega) (by omega)) c_263
  | succ m ih =>
    intro kk hk h1 S hA
    obtain ⟨k, k1, k2, e1, e2, e3, e4⟩ := near_at hI hx hy h1 (show kk ≤ mN S0 lr by omega)
    obtain ⟨s1, s2⟩ := la_step hI hx hy h1 (show kk ≤ mN S0 lr by omega)
    refine G_iload dL_law_259 rfl ?_
    refine G_iload dL_law_261 rfl ?_
    refine G_icmp_gt (tgt := 366) dL_law_263 (by decide) (fun c_263 => ?_) (fun c_263 => ?_)
    · exact absurd c_263 (nI_nlt (by omega) (by omega))
    · refine G_aload_n dL_law_266 rfl ?_
      refine G_iload dL_law_267 rfl ?_
      refine G_iload dL_law_269 rfl ?_
      refine G_iload dL_law_271 rfl ?_
      refine G_iload dL_law_273 rfl ?_
      refine G_cVq (As := [_, _, _, _]) dL_law_275 kV_X6_nearest wml_L_48 (q_nearest hI hA hlr (x := x) (y := y) (kk := kk) hx hy (by omega) (by omega)) rfl cIdx rfl rfl rfl (by decide) ⟨by omega, by omega⟩ (Nat.le_of_ble_eq_true rfl) ?_
      intro S hA
      rw [show (if 0 ≤ keyN S0 lr 24 (nI x) (nI y) kk then keyN S0 lr 24 (nI x) (nI y) kk - keyN S0 lr 24 (nI x) (nI y) kk / 128 * 128 else -1) = nI k from e1]
      refine GS_istore (L' := [(13, _), (12, _), (11, _), (10, _), (9, _), (8, _), (7, _), (6, _), (5, _), (3, _), (2, _), (1, _), (0, _)]) dL_law_278 (by decide) rfl ?_
      refine G_aload_n dL_law_280 rfl ?_
      refine G_iload dL_law_281 rfl ?_
      refine G_iload dL_law_283 rfl ?_
      refine G_iload dL_law_285 rfl ?_
      refine G_iload dL_law_287 rfl ?_
      refine G_cVq (As := [_, _, _, _]) dL_law_289 kV_X6_far wml_L_51 (q_far hI hA hlr (x := x) (y := y) (kk := kk) hx hy (by omega) (by omega)) rfl cIdx rfl rfl rfl (by decide) ⟨by omega, by omega⟩ (Nat.le_of_ble_eq_true rfl) ?_
      intro S hA
      rw [show (if 0 ≤ keyN S0 lr 24 (nI x) (nI y) kk then keyN S0 lr 24 (nI x) (nI y) kk / 128 else -1) = nI (frN S0 lr x y kk) from e2]
      refine GS_istore (L' := [(14, _), (13, _), (12, _), (11, _), (10, _), (9, _), (8, _), (7, _), (6, _), (5, _), (3, _), (2, _), (1, _), (0, _)]) dL_law_292 (by decide) rfl ?_
      refine G_aload_n dL_law_294 rfl ?_
      refine G_iload dL_law_295 rfl ?_
      refine G_iload dL_law_297 rfl ?_
      refine G_iload dL_law_299 rfl ?_
      refine G_iload dL_law_301 rfl ?_
      refine G_cVq (As := [_, _, _, _]) dL_law_303 kV_X6_visitedFor wml_L_54 (q_visitedFor hI hA hlr (x := x) (y := y) (kk := kk) hx hy (by omega) (by omega)) rfl cIdx rfl rfl rfl (by decide) ⟨by omega, by omega⟩ (Nat.le_of_ble_eq_true rfl) ?_
      intro S hA
      rw [show (if 0 ≤ keyN S0 lr 24 (nI x) (nI y) kk then nI (cnt (visP S0 (50 + 25 * lr) (nI x) (nI y) 0 0 (keyN S0 lr 24 (nI x) (nI y) kk / 128)) (NN N0 N1 lr)) else nI (NN N0 N1 lr)) = _ from e4]
      refine GS_istore (L' := [(15, _), (14, _), (13, _), (12, _), (11, _), (10, _), (9, _), (8, _), (7, _), (6, _), (5, _), (3, _), (2, _), (1, _), (0, _)]) dL_law_306 (by decide) rfl ?_
      refine G_iload dL_law_308 rfl ?_
      refine G_if_lt (tgt := 350) dL_law_310 (by decide) (fun c_310 => ?_) (fun c_310 => ?_)
      · first
          | exact absurd c_310 (nI_pos (by omega))
          | exact absurd rfl c_322
          | exact absurd c_329 s1
          | exact absurd c_336 s2
          | exact absurd (nI_le (cnt_le _ _) (by have := (inv_N hI hlr).2; omega)) c_347
      · refine G_aload_n dL_law_313 rfl ?_
        refine G_iload dL_law_314 rfl ?_
        refine G_iconst (v := 0) dL_law_316 (by decide) ?_
        refine G_cVq (As := [_, _]) dL_law_317 kV_X6_of wml_L_57 (q_of hI hA hlr k1 k2 (w := 0) (by omega)) rfl cIdx rfl rfl rfl (by decide) ⟨by omega, by omega⟩ (Nat.le_of_ble_eq_true rfl) ?_
        intro S hA
        rw [show ofV S0 lr k 0 = nI lr from rfl]
        refine G_iload dL_law_320 rfl ?_
        refine G_icmp_ne (tgt := 350) dL_law_322 (by decide) (fun c_322 => ?_) (fun c_322 => ?_)
        · first
            | exact absurd c_310 (nI_pos (by omega))
            | exact absurd rfl c_322
            | exact absurd c_329 s1
            | exact absurd c_336 s2
            | exact absurd (nI_le (cnt_le _ _) (by have := (inv_N hI hlr).2; omega)) c_347
        · refine G_iload dL_law_325 rfl ?_
          refine G_iload dL_law_327 rfl ?_
          refine G_icmp_lt (tgt := 350) dL_law_329 (by decide) (fun c_329 => ?_) (fun c_329 => ?_)
          · first
              | exact absurd c_310 (nI_pos (by omega))
              | exact absurd rfl c_322
              | exact absurd c_329 s1
              | exact absurd c_336 s2
              | exact absurd (nI_le (cnt_le _ _) (by have := (inv_N hI hlr).2; omega)) c_347
          · refine G_iload dL_law_332 rfl ?_
            refine G_iload dL_law_334 rfl ?_
            refine G_icmp_lt (tgt := 350) dL_law_336 (by decide) (fun c_336 => ?_) (fun c_336 => ?_)
            · first
                | exact absurd c_310 (nI_pos (by omega))
                | exact absurd rfl c_322
                | exact absurd c_329 s1
                | exact absurd c_336 s2
                | exact absurd (nI_le (cnt_le _ _) (by have := (inv_N hI hlr).2; omega)) c_347
            · refine G_iload dL_law_339 rfl ?_
              refine G_aload_n dL_law_341 rfl ?_
              refine G_iload dL_law_342 rfl ?_
              refine G_cVq (As := [_]) dL_law_344 kV_X6_nodes wml_L_60 (q_nodes hI hA hlr) rfl cIdx rfl rfl rfl (by decide) ⟨by omega, by omega⟩ (Nat.le_of_ble_eq_true rfl) ?_
              intro S hA
              refine G_icmp_le (tgt := 352) dL_law_347 (by decide) (fun c_347 => ?_) (fun c_347 => ?_)
              · refine G_iload dL_law_352 rfl ?_
                refine GS_istore (L' := [(10, _), (15, _), (14, _), (13, _), (12, _), (11, _), (9, _), (8, _), (7, _), (6, _), (5, _), (3, _), (2, _), (1, _), (0, _)]) dL_law_354 (by decide) rfl ?_
                refine G_iload dL_law_356 rfl ?_
                refine GS_istore (L' := [(11, _), (10, _), (15, _), (14, _), (13, _), (12, _), (9, _), (8, _), (7, _), (6, _), (5, _), (3, _), (2, _), (1, _), (0, _)]) dL_law_358 (by decide) rfl ?_
                refine GS_iinc (v := 1) (L' := [(12, _), (11, _), (10, _), (15, _), (14, _), (13, _), (9, _), (8, _), (7, _), (6, _), (5, _), (3, _), (2, _), (1, _), (0, _)]) dL_law_360 rfl (by decide) (by decide) rfl ?_
                refine G_goto (tgt := 259) dL_law_363 (by decide) ?_
                refine G_sub [0, 1, 2, 6, 7, 8, 9, 10, 11, 12, 13, 14] rfl ?_
                rw [nI_1]
                have f1 : nI (frN S0 lr x y kk) = laN S0 lr x y (kk + 1) := (if_neg (by omega)).symm
                have f2 : nI (cnt (visP S0 (50 + 25 * lr) (nI x) (nI y) 0 0 (nI (frN S0 lr x y kk))) (NN N0 N1 lr)) = seN S0 (NN N0 N1 lr) lr x y (kk + 1) := (if_neg (by omega)).symm
                rw [f2, f1]
                exact ih (kk + 1) (by omega) (by omega) S hA
              · first
                  | exact absurd c_310 (nI_pos (by omega))
                  | exact absurd rfl c_322
                  | exact absurd c_329 s1
                  | exact absurd c_336 s2
                  | exact absurd (nI_le (cnt_le _ _) (by have := (inv_N hI hlr).2; omega)) c_347
end LW
