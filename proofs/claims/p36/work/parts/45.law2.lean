/-! the law: what lies within a box -/
section LX
variable {K : GK} {S0 : St} {X Y W H : Nat → Nat} {cap L N0 N1 lr uc us : Nat} {P : Option Value → VH → Prop}
set_option maxHeartbeats 400000 in
theorem lw366 (hI : INV S0 X Y W H cap L N0 N1) (hlr : lr < 2) {x y w : Nat} (hx : x ≤ 1023) (hy : y ≤ 1023) (hw : w ≤ 600) {tn : Int32} {sum : Int64} {z : UInt32} (hu : uc ≤ 600074) (hv : us ≤ 7301550) (k3 : ∀ S a b d, AK S0 S → GL K uc us P 534 [(12, .int a), (11, .int b), (10, .int d), (9, .int (nI (mN S0 lr))), (8, .int (nI lr)), (7, .int (nI w)), (6, .int (nI y)), (5, .int (nI x)), (3, .long sum), (2, .int tn), (1, .ref 0), (0, .float z)] S) (S : St) (hA : AK S0 S) (a b d : Int32) : GL K uc us P 366 [(12, .int a), (11, .int b), (10, .int d), (9, .int (nI (mN S0 lr))), (8, .int (nI lr)), (7, .int (nI w)), (6, .int (nI y)), (5, .int (nI x)), (3, .long sum), (2, .int tn), (1, .ref 0), (0, .float z)] S := by
  have hmN : mN S0 lr ≤ 24 := mN_le
  obtain ⟨n1, n2⟩ := near_no (S0 := S0) (N0 := N0) (N1 := N1) (lr := lr) (x := x) (y := y)
  have hNN := (inv_N hI hlr).2
  have g1 := vis_mono (t := 50 + 25 * lr) (inv_box hI hlr) hNN hx hy (show w ≤ 1023 by omega) (show w / 2 ≤ w by omega)
  have g2 := in_mono (q := inL S0 (nI lr)) hI.2.1.1 (by omega) hx hy (show w ≤ 1023 by omega) (show w / 2 ≤ w by omega)
  have g3 := in_all (q := inL S0 (nI lr)) hI.2.1.1 (by omega)
  have g4 : cnt (fun k => inL S0 (nI lr) k && decide (bfar S0 2 80 (nI k) (nI x) (nI y) (nI w) (nI w) = 0)) 24 ≤ mN S0 lr := in_le
  have g5 := cnt_le (visP S0 (50 + 25 * lr) (nI x) (nI y) (nI w) (nI w) 0) (NN N0 N1 lr)
  have hdv : nI w / 2 = nI (w / 2) := nI_div (b := 2) (by omega) (by decide)
  refine G_aload_n dL_law_366 rfl ?_
  refine G_iload dL_law_367 rfl ?_
  refine G_iload dL_law_369 rfl ?_
  refine G_iload dL_law_371 rfl ?_
  refine G_iload dL_law_373 rfl ?_
  refine G_iconst (v := 1) dL_law_375 (by decide) ?_
  refine G_iadd dL_law_376 ?_
  rw [nI_1]
  refine G_cVq (As := [_, _, _, _]) dL_law_377 kV_X6_nearest wml_L_48 (q_nearest hI hA hlr (x := x) (y := y) (kk := mN S0 lr + 1) hx hy (by omega) (by omega)) rfl cIdx rfl rfl rfl (by decide) ⟨by omega, by omega⟩ (Nat.le_of_ble_eq_true rfl) ?_
  intro S hA
  rw [show (if 0 ≤ keyN S0 lr 24 (nI x) (nI y) (mN S0 lr + 1) then keyN S0 lr 24 (nI x) (nI y) (mN S0 lr + 1) - keyN S0 lr 24 (nI x) (nI y) (mN S0 lr + 1) / 128 * 128 else -1) = -1 from n1]
  refine G_iconst (v := (-1)) dL_law_380 (by decide) ?_
  refine G_icmp_ne (tgt := 407) dL_law_381 (by decide) (fun c_381 => ?_) (fun c_381 => ?_)
  · first
      | exact absurd rfl c_529
      | exact absurd c_510 (nI_nlt g2 (by omega))
      | exact absurd c_475 (nI_nlt g1 (by omega))
      | exact absurd c_452 (nI_nlt g5 (by omega))
      | exact absurd c_441 (nI_nlt g4 (by omega))
      | exact absurd rfl c_404
      | exact absurd rfl c_381
  · refine G_aload_n dL_law_384 rfl ?_
    refine G_iload dL_law_385 rfl ?_
    refine G_iload dL_law_387 rfl ?_
    refine G_iload dL_law_389 rfl ?_
    refine G_iload dL_law_391 rfl ?_
    refine G_iconst (v := 1) dL_law_393 (by decide) ?_
    refine G_iadd dL_law_394 ?_
    rw [nI_1]
    refine G_cVq (As := [_, _, _, _]) dL_law_395 kV_X6_visitedFor wml_L_54 (q_visitedFor hI hA hlr (x := x) (y := y) (kk := mN S0 lr + 1) hx hy (by omega) (by omega)) rfl cIdx rfl rfl rfl (by decide) ⟨by omega, by omega⟩ (Nat.le_of_ble_eq_true rfl) ?_
    intro S hA
    rw [show (if 0 ≤ keyN S0 lr 24 (nI x) (nI y) (mN S0 lr + 1) then nI (cnt (visP S0 (50 + 25 * lr) (nI x) (nI y) 0 0 (keyN S0 lr 24 (nI x) (nI y) (mN S0 lr + 1) / 128)) (NN N0 N1 lr)) else nI (NN N0 N1 lr)) = _ from n2]
    refine G_aload_n dL_law_398 rfl ?_
    refine G_iload dL_law_399 rfl ?_
    refine G_cVq (As := [_]) dL_law_401 kV_X6_nodes wml_L_60 (q_nodes hI hA hlr) rfl cIdx rfl rfl rfl (by decide) ⟨by omega, by omega⟩ (Nat.le_of_ble_eq_true rfl) ?_
    intro S hA
    refine G_icmp_eq (tgt := 409) dL_law_404 (by decide) (fun c_404 => ?_) (fun c_404 => ?_)
    · refine G_aload_n dL_law_409 rfl ?_
      refine G_iload dL_law_410 rfl ?_
      refine G_iload dL_law_412 rfl ?_
      refine G_iload dL_law_414 rfl ?_
      refine G_iload dL_law_416 rfl ?_
      refine G_iload dL_law_418 rfl ?_
      refine G_cVq (As := [_, _, _, _, _]) dL_law_420 kV_X6_visited wml_L_63 (q_visited hI hA hlr (x := x) (y := y) (w := w) (h := w) hx hy (by omega) (by omega)) rfl cIdx rfl rfl rfl (by decide) ⟨by omega, by omega⟩ (Nat.le_of_ble_eq_true rfl) ?_
      intro S hA
      refine GS_istore (L' := [(12, _), (11, _), (10, _), (9, _), (8, _), (7, _), (6, _), (5, _), (3, _), (2, _), (1, _), (0, _)]) dL_law_423 (by decide) rfl ?_
      refine G_aload_n dL_law_425 rfl ?_
      refine G_iload dL_law_426 rfl ?_
      refine G_iload dL_law_428 rfl ?_
      refine G_iload dL_law_430 rfl ?_
      refine G_iload dL_law_432 rfl ?_
      refine G_iload dL_law_434 rfl ?_
      refine G_cVq (As := [_, _, _, _, _]) dL_law_436 kV_X6_inBox wml_L_67 (q_inBox hI hA hlr (x := x) (y := y) (w := w) (h := w) hx hy (by omega) (by omega)) rfl cIdx rfl rfl rfl (by decide) ⟨by omega, by omega⟩ (Nat.le_of_ble_eq_true rfl) ?_
      intro S hA
      refine G_iload dL_law_439 rfl ?_
      refine G_icmp_gt (tgt := 532) dL_law_441 (by decide) (fun c_441 => ?_) (fun c_441 => ?_)
      · first
          | exact absurd rfl c_529
          | exact absurd c_510 (nI_nlt g2 (by omega))
          | exact absurd c_475 (nI_nlt g1 (by omega))
          | exact absurd c_452 (nI_nlt g5 (by omega))
          | exact absurd c_441 (nI_nlt g4 (by omega))
          | exact absurd rfl c_404
          | exact absurd rfl c_381
      · refine G_iload dL_law_444 rfl ?_
        refine G_aload_n dL_law_446 rfl ?_
        refine G_iload dL_law_447 rfl ?_
        refine G_cVq (As := [_]) dL_law_449 kV_X6_nodes wml_L_60 (q_nodes hI hA hlr) rfl cIdx rfl rfl rfl (by decide) ⟨by omega, by omega⟩ (Nat.le_of_ble_eq_true rfl) ?_
        intro S hA
        refine G_icmp_gt (tgt := 532) dL_law_452 (by decide) (fun c_452 => ?_) (fun c_452 => ?_)
        · first
            | exact absurd rfl c_529
            | exact absurd c_510 (nI_nlt g2 (by omega))
            | exact absurd c_475 (nI_nlt g1 (by omega))
            | exact absurd c_452 (nI_nlt g5 (by omega))
            | exact absurd c_441 (nI_nlt g4 (by omega))
            | exact absurd rfl c_404
            | exact absurd rfl c_381
        · refine G_aload_n dL_law_455 rfl ?_
          refine G_iload dL_law_456 rfl ?_
          refine G_iload dL_law_458 rfl ?_
          refine G_iload dL_law_460 rfl ?_
          refine G_iload dL_law_462 rfl ?_
          refine G_iconst (v := 2) dL_law_464 (by decide) ?_
          refine G_idiv dL_law_465 (by decide) ?_
          refine G_iload dL_law_466 rfl ?_
          refine G_iconst (v := 2) dL_law_468 (by decide) ?_
          refine G_idiv dL_law_469 (by decide) ?_
          rw [hdv]
          refine G_cVq (As := [_, _, _, _, _]) dL_law_470 kV_X6_visited wml_L_63 (q_visited hI hA hlr (x := x) (y := y) (w := w / 2) (h := w / 2) hx hy (by omega) (by omega)) rfl cIdx rfl rfl rfl (by decide) ⟨by omega, by omega⟩ (Nat.le_of_ble_eq_true rfl) ?_
          intro S hA
          refine G_iload dL_law_473 rfl ?_
          refine G_icmp_gt (tgt := 532) dL_law_475 (by decide) (fun c_475 => ?_) (fun c_475 => ?_)
          · first
              | exact absurd rfl c_529
              | exact absurd c_510 (nI_nlt g2 (by omega))
              | exact absurd c_475 (nI_nlt g1 (by omega))
              | exact absurd c_452 (nI_nlt g5 (by omega))
              | exact absurd c_441 (nI_nlt g4 (by omega))
              | exact absurd rfl c_404
              | exact absurd rfl c_381
          · refine G_aload_n dL_law_478 rfl ?_
            refine G_iload dL_law_479 rfl ?_
            refine G_iload dL_law_481 rfl ?_
            refine G_iload dL_law_483 rfl ?_
            refine G_iload dL_law_485 rfl ?_
            refine G_iconst (v := 2) dL_law_487 (by decide) ?_
            refine G_idiv dL_law_488 (by decide) ?_
            refine G_iload dL_law_489 rfl ?_
            refine G_iconst (v := 2) dL_law_491 (by decide) ?_
            refine G_idiv dL_law_492 (by decide) ?_
            rw [hdv]
            refine G_cVq (As := [_, _, _, _, _]) dL_law_493 kV_X6_inBox wml_L_67 (q_inBox hI hA hlr (x := x) (y := y) (w := w / 2) (h := w / 2) hx hy (by omega) (by omega)) rfl cIdx rfl rfl rfl (by decide) ⟨by omega, by omega⟩ (Nat.le_of_ble_eq_true rfl) ?_
            intro S hA
            refine G_aload_n dL_law_496 rfl ?_
            refine G_iload dL_law_497 rfl ?_
            refine G_iload dL_law_499 rfl ?_
            refine G_iload dL_law_501 rfl ?_
            refine G_iload dL_law_503 rfl ?_
            refine G_iload dL_law_505 rfl ?_
            refine G_cVq (As := [_, _, _, _, _]) dL_law_507 kV_X6_inBox wml_L_67 (q_inBox hI hA hlr (x := x) (y := y) (w := w) (h := w) hx hy (by omega) (by omega)) rfl cIdx rfl rfl rfl (by decide) ⟨by omega, by omega⟩ (Nat.le_of_ble_eq_true rfl) ?_
            intro S hA
            refine G_icmp_gt (tgt := 532) dL_law_510 (by decide) (fun c_510 => ?_) (fun c_510 => ?_)
            · first
                | exact absurd rfl c_529
                | exact absurd c_510 (nI_nlt g2 (by omega))
                | exact absurd c_475 (nI_nlt g1 (by omega))
                | exact absurd c_452 (nI_nlt g5 (by omega))
                | exact absurd c_441 (nI_nlt g4 (by omega))
                | exact absurd rfl c_404
                | exact absurd rfl c_381
            · refine G_aload_n dL_law_513 rfl ?_
              refine G_iload dL_law_514 rfl ?_
              refine G_iconst (v := 0) dL_law_516 (by decide) ?_
              refine G_iconst (v := 0) dL_law_517 (by decide) ?_
              refine G_sipush (v := 1023) dL_law_518 (by decide) ?_
              refine G_sipush (v := 1023) dL_law_521 (by decide) ?_
              refine G_cVq (As := [_, _, _, _, _]) dL_law_524 kV_X6_inBox wml_L_67 (q_inBox hI hA hlr (x := 0) (y := 0) (w := 1023) (h := 1023) (by omega) (by omega) (by omega) (by omega)) rfl cIdx rfl rfl rfl (by decide) ⟨by omega, by omega⟩ (Nat.le_of_ble_eq_true rfl) ?_
              intro S hA
              rw [show nI (cnt (fun k => inL S0 (nI lr) k && decide (bfar S0 2 80 (nI k) (nI 0) (nI 0) (nI 1023) (nI 1023) = 0)) 24) = nI (mN S0 lr) from congrArg nI g3]
              refine G_iload dL_law_527 rfl ?_
              refine G_icmp_eq (tgt := 534) dL_law_529 (by decide) (fun c_529 => ?_) (fun c_529 => ?_)
              · refine G_sub [0, 1, 2, 3, 4, 5, 6, 7, 8, 9, 10, 11] rfl ?_
                exact k3 S _ _ _ hA
              · first
                  | exact absurd rfl c_529
                  | exact absurd c_510 (nI_nlt g2 (by omega))
                  | exact absurd c_475 (nI_nlt g1 (by omega))
                  | exact absurd c_452 (nI_nlt g5 (by omega))
                  | exact absurd c_441 (nI_nlt g4 (by omega))
                  | exact absurd rfl c_404
                  | exact absurd rfl c_381
    · first
        | exact absurd rfl c_529
        | exact absurd c_510 (nI_nlt g2 (by omega))
        | exact absurd c_475 (nI_nlt g1 (by omega))
        | exact absurd c_452 (nI_nlt g5 (by omega))
        | exact absurd c_441 (nI_nlt g4 (by omega))
        | exact absurd rfl c_404
        | exact absurd rfl c_381
end LX
