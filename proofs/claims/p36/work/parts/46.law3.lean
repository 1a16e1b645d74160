/-! the law: pairs, clusters, what would be -/
section LY
variable {K : GK} {S0 : St} {X Y W H : Nat → Nat} {cap L N0 N1 lr uc us : Nat} {P : Option Value → VH → Prop}
set_option maxHeartbeats 400000 in
theorem nlt_sub {m a c : Nat} (hm : m ≤ 24) (ha : a ≤ 1000) (hc : c ≤ 24) (h : m ≤ c + a) : ¬ nI c < nI m - nI a := by
  rw [Int32.lt_iff_toInt_lt, Int32.toInt_sub, nI_toInt (show m < 2 ^ 31 by omega), nI_toInt (show a < 2 ^ 31 by omega), nI_toInt (show c < 2 ^ 31 by omega)]
  rw [Int.bmod_eq_of_le (by omega) (by omega)]
  omega
set_option maxHeartbeats 400000 in
theorem min_nI {m : Nat} : ∀ (_ : m ≤ 24), (if nI m < 1 then nI m else 1) = nI (min 1 m) := by
  intro hm
  rcases Nat.eq_zero_or_pos m with z | z
  · subst z; decide
  · rw [if_neg (show ¬ nI m < (1 : Int32) from nI_nlt (a := m) (b := 1) z (by omega)), Nat.min_eq_left z]
    rfl
set_option maxHeartbeats 400000 in
theorem lw534 (hI : INV S0 X Y W H cap L N0 N1) (hlr : lr < 2) {x y w : Nat} {tn : Int32} {sum : Int64} {z : UInt32} (hu : uc ≤ 600074) (hv : us ≤ 7301550) (k3 : ∀ S, AK S0 S → GL K uc us P 739 [(8, .int (nI lr)), (7, .int (nI w)), (6, .int (nI y)), (5, .int (nI x)), (3, .long sum), (2, .int tn), (1, .ref 0), (0, .float z)] S) (S : St) (hA : AK S0 S) (a b d : Int32) : GL K uc us P 534 [(12, .int a), (11, .int b), (10, .int d), (9, .int (nI (mN S0 lr))), (8, .int (nI lr)), (7, .int (nI w)), (6, .int (nI y)), (5, .int (nI x)), (3, .long sum), (2, .int tn), (1, .ref 0), (0, .float z)] S := by
  have hmN : mN S0 lr ≤ 24 := mN_le
  have hmO : mN S0 (1 - lr) ≤ 24 := mN_le
  obtain ⟨p1, p2, p3, p4⟩ := ck_pairs (lr := lr) hI
  obtain ⟨o1, o2⟩ := ck_one (lr := lr) hI
  have g1 := ck_great (S0 := S0) (lr := lr)
  have x1 := ck_cross (lr := lr) (lr2 := 1 - lr) hI hlr (by omega) (by omega)
  have t1 := tri_nI hmN p2
  have hl1 : (1 : Int32) - nI lr = nI (1 - lr) := nI_sub (a := 1) (b := lr) (by omega)
  have hsq : mN S0 lr * mN S0 lr ≤ 24 * 24 := Nat.mul_le_mul hmN hmN
  have m1 := min_nI hmN
  have w1 := plN_mono (S0 := S0) (X := X) (Y := Y) (lr := lr)
  have e1 : nI (mN S0 lr) - nI (clN S0 lr 400) + 1 = nI (mN S0 lr - clN S0 lr 400 + 1) := by rw [nI_sub p4, nI_1]
  refine G_aload_n dL_law_534 rfl ?_
  refine G_iload dL_law_535 rfl ?_
  refine G_iload dL_law_537 rfl ?_
  refine G_sipush (v := 400) dL_law_539 (by decide) ?_
  refine G_cVq (As := [_, _, _]) dL_law_542 kV_X6_pairs wml_L_70 (q_pairs hI hA hlr hlr (far := 400) ⟨by decide, by decide⟩) rfl cIdx rfl rfl rfl (by decide) ⟨by omega, by omega⟩ (Nat.le_of_ble_eq_true rfl) ?_
  intro S hA
  rw [show nI (smN (pairG S0 24 (nI lr) (nI lr) 400) 24) = nI (paN S0 lr lr 400) from rfl]
  refine GS_istore (L' := [(13, _), (12, _), (11, _), (10, _), (9, _), (8, _), (7, _), (6, _), (5, _), (3, _), (2, _), (1, _), (0, _)]) dL_law_545 (by decide) rfl ?_
  refine G_aload_n dL_law_547 rfl ?_
  refine G_iload dL_law_548 rfl ?_
  refine G_iload dL_law_550 rfl ?_
  refine G_ldc dL_law_552 wk_L_74 ?_
  refine G_cVq (As := [_, _, _]) dL_law_554 kV_X6_pairs wml_L_70 (q_pairs hI hA hlr hlr (far := 3000000) ⟨by decide, by decide⟩) rfl cIdx rfl rfl rfl (by decide) ⟨by omega, by omega⟩ (Nat.le_of_ble_eq_true rfl) ?_
  intro S hA
  rw [show nI (smN (pairG S0 24 (nI lr) (nI lr) 3000000) 24) = nI (paN S0 lr lr 3000000) from rfl]
  refine GS_istore (L' := [(14, _), (13, _), (12, _), (11, _), (10, _), (9, _), (8, _), (7, _), (6, _), (5, _), (3, _), (2, _), (1, _), (0, _)]) dL_law_557 (by decide) rfl ?_
  refine G_aload_n dL_law_559 rfl ?_
  refine G_iload dL_law_560 rfl ?_
  refine G_sipush (v := 400) dL_law_562 (by decide) ?_
  refine G_cVq (As := [_, _]) dL_law_565 kV_X6_clusters wml_L_75 (q_clusters hI hA hlr (far := 400) ⟨by decide, by decide⟩) rfl cIdx rfl rfl rfl (by decide) ⟨by omega, by omega⟩ (Nat.le_of_ble_eq_true rfl) ?_
  intro S hA
  rw [show nI (cnt (rootP S0 (nI lr) (gOut S0 24 (nI lr) 400 (fun _ => 0) 24)) 24) = nI (clN S0 lr 400) from rfl]
  refine GS_istore (L' := [(15, _), (14, _), (13, _), (12, _), (11, _), (10, _), (9, _), (8, _), (7, _), (6, _), (5, _), (3, _), (2, _), (1, _), (0, _)]) dL_law_568 (by decide) rfl ?_
  refine G_iload dL_law_570 rfl ?_
  refine G_iload dL_law_572 rfl ?_
  refine G_icmp_gt (tgt := 662) dL_law_574 (by decide) (fun c_574 => ?_) (fun c_574 => ?_)
  · first
      | exact absurd rfl c_734
      | exact absurd rfl c_705
      | exact absurd c_679 (nI_nlt w1.1 (by omega))
      | exact absurd rfl c_635
      | exact absurd rfl c_622
      | exact absurd c_605 (nI_nlt p4 (by omega))
      | exact absurd c_598 (nlt_sub hmN (by omega) (by omega) (by omega))
      | exact absurd rfl c_588
      | exact absurd c_574 (nI_nlt p1 (by omega))
  · refine G_iload dL_law_577 rfl ?_
    refine G_iload dL_law_579 rfl ?_
    refine G_iload dL_law_581 rfl ?_
    refine G_iconst (v := 1) dL_law_583 (by decide) ?_
    refine G_isub dL_law_584 ?_
    refine G_imul dL_law_585 ?_
    refine G_iconst (v := 2) dL_law_586 (by decide) ?_
    refine G_idiv dL_law_587 (by decide) ?_
    rw [t1]
    refine G_icmp_ne (tgt := 662) dL_law_588 (by decide) (fun c_588 => ?_) (fun c_588 => ?_)
    · first
        | exact absurd rfl c_734
        | exact absurd rfl c_705
        | exact absurd c_679 (nI_nlt w1.1 (by omega))
        | exact absurd rfl c_635
        | exact absurd rfl c_622
        | exact absurd c_605 (nI_nlt p4 (by omega))
        | exact absurd c_598 (nlt_sub hmN (by omega) (by omega) (by omega))
        | exact absurd rfl c_588
        | exact absurd c_574 (nI_nlt p1 (by omega))
    · refine G_iload dL_law_591 rfl ?_
      refine G_iload dL_law_593 rfl ?_
      refine G_iload dL_law_595 rfl ?_
      refine G_isub dL_law_597 ?_
      refine G_icmp_lt (tgt := 662) dL_law_598 (by decide) (fun c_598 => ?_) (fun c_598 => ?_)
      · first
          | exact absurd rfl c_734
          | exact absurd rfl c_705
          | exact absurd c_679 (nI_nlt w1.1 (by omega))
          | exact absurd rfl c_635
          | exact absurd rfl c_622
          | exact absurd c_605 (nI_nlt p4 (by omega))
          | exact absurd c_598 (nlt_sub hmN (by omega) (by omega) (by omega))
          | exact absurd rfl c_588
          | exact absurd c_574 (nI_nlt p1 (by omega))
      · refine G_iload dL_law_601 rfl ?_
        refine G_iload dL_law_603 rfl ?_
        refine G_icmp_gt (tgt := 662) dL_law_605 (by decide) (fun c_605 => ?_) (fun c_605 => ?_)
        · first
            | exact absurd rfl c_734
            | exact absurd rfl c_705
            | exact absurd c_679 (nI_nlt w1.1 (by omega))
            | exact absurd rfl c_635
            | exact absurd rfl c_622
            | exact absurd c_605 (nI_nlt p4 (by omega))
            | exact absurd c_598 (nlt_sub hmN (by omega) (by omega) (by omega))
            | exact absurd rfl c_588
            | exact absurd c_574 (nI_nlt p1 (by omega))
        · refine G_aload_n dL_law_608 rfl ?_
          refine G_iload dL_law_609 rfl ?_
          refine G_ldc dL_law_611 wk_L_74 ?_
          refine G_cVq (As := [_, _]) dL_law_613 kV_X6_clusters wml_L_75 (q_clusters hI hA hlr (far := 3000000) ⟨by decide, by decide⟩) rfl cIdx rfl rfl rfl (by decide) ⟨by omega, by omega⟩ (Nat.le_of_ble_eq_true rfl) ?_
          intro S hA
          rw [show nI (cnt (rootP S0 (nI lr) (gOut S0 24 (nI lr) 3000000 (fun _ => 0) 24)) 24) = nI (clN S0 lr 3000000) from rfl, o1]
          refine G_iconst (v := 1) dL_law_616 (by decide) ?_
          refine G_iload dL_law_617 rfl ?_
          refine G_min dL_law_619 wml_L_78 (by decide) ⟨by omega, by omega⟩ (Nat.le_of_ble_eq_true rfl) ?_
          rw [m1]
          refine G_icmp_ne (tgt := 662) dL_law_622 (by decide) (fun c_622 => ?_) (fun c_622 => ?_)
          · first
              | exact absurd rfl c_734
              | exact absurd rfl c_705
              | exact absurd c_679 (nI_nlt w1.1 (by omega))
              | exact absurd rfl c_635
              | exact absurd rfl c_622
              | exact absurd c_605 (nI_nlt p4 (by omega))
              | exact absurd c_598 (nlt_sub hmN (by omega) (by omega) (by omega))
              | exact absurd rfl c_588
              | exact absurd c_574 (nI_nlt p1 (by omega))
          · refine G_aload_n dL_law_625 rfl ?_
            refine G_iload dL_law_626 rfl ?_
            refine G_ldc dL_law_628 wk_L_74 ?_
            refine G_cVq (As := [_, _]) dL_law_630 kV_X6_greatest wml_L_83 (q_greatest hI hA hlr (far := 3000000) ⟨by decide, by decide⟩) rfl cIdx rfl rfl rfl (by decide) ⟨by omega, by omega⟩ (Nat.le_of_ble_eq_true rfl) ?_
            intro S hA
            rw [show nI (grtN S0 24 (nI lr) (gOut S0 24 (nI lr) 3000000 (fun _ => 0) 24) 24) = nI (grN S0 lr 3000000) from rfl, o2]
            refine G_iload dL_law_633 rfl ?_
            refine G_icmp_ne (tgt := 662) dL_law_635 (by decide) (fun c_635 => ?_) (fun c_635 => ?_)
            · first
                | exact absurd rfl c_734
                | exact absurd rfl c_705
                | exact absurd c_679 (nI_nlt w1.1 (by omega))
                | exact absurd rfl c_635
                | exact absurd rfl c_622
                | exact absurd c_605 (nI_nlt p4 (by omega))
                | exact absurd c_598 (nlt_sub hmN (by omega) (by omega) (by omega))
                | exact absurd rfl c_588
                | exact absurd c_574 (nI_nlt p1 (by omega))
            · refine G_aload_n dL_law_638 rfl ?_
              refine G_iload dL_law_639 rfl ?_
              refine G_sipush (v := 400) dL_law_641 (by decide) ?_
              refine G_cVq (As := [_, _]) dL_law_644 kV_X6_greatest wml_L_83 (q_greatest hI hA hlr (far := 400) ⟨by decide, by decide⟩) rfl cIdx rfl rfl rfl (by decide) ⟨by omega, by omega⟩ (Nat.le_of_ble_eq_true rfl) ?_
              intro S hA
              rw [show nI (grtN S0 24 (nI lr) (gOut S0 24 (nI lr) 400 (fun _ => 0) 24) 24) = nI (grN S0 lr 400) from rfl]
              refine G_iload dL_law_647 rfl ?_
              refine G_iload dL_law_649 rfl ?_
              refine G_isub dL_law_651 ?_
              refine G_iconst (v := 1) dL_law_652 (by decide) ?_
              refine G_iadd dL_law_653 ?_
              rw [e1]
              refine G_icmp_le (tgt := 664) dL_law_654 (by decide) (fun c_654 => ?_) (fun c_654 => ?_)
              · refine G_aload_n dL_law_664 rfl ?_
                refine G_iload dL_law_665 rfl ?_
                refine G_bipush (v := 8) dL_law_667 (by decide) ?_
                refine G_cVq (As := [_, _]) dL_law_669 kV_X6_nodesWith wml_L_86 (q_nodesWith hI hA hlr (fn := 8) (by omega) (by omega)) rfl cIdx rfl rfl rfl (by decide) ⟨by omega, by omega⟩ (Nat.le_of_ble_eq_true rfl) ?_
                intro S hA
                refine G_aload_n dL_law_672 rfl ?_
                refine G_iload dL_law_673 rfl ?_
                refine G_iconst (v := 2) dL_law_675 (by decide) ?_
                refine G_cVq (As := [_, _]) dL_law_676 kV_X6_nodesWith wml_L_86 (q_nodesWith hI hA hlr (fn := 2) (by omega) (by omega)) rfl cIdx rfl rfl rfl (by decide) ⟨by omega, by omega⟩ (Nat.le_of_ble_eq_true rfl) ?_
                intro S hA
                refine G_icmp_gt (tgt := 737) dL_law_679 (by decide) (fun c_679 => ?_) (fun c_679 => ?_)
                · first
                    | exact absurd rfl c_734
                    | exact absurd rfl c_705
                    | exact absurd c_679 (nI_nlt w1.1 (by omega))
                    | exact absurd rfl c_635
                    | exact absurd rfl c_622
                    | exact absurd c_605 (nI_nlt p4 (by omega))
                    | exact absurd c_598 (nlt_sub hmN (by omega) (by omega) (by omega))
                    | exact absurd rfl c_588
                    | exact absurd c_574 (nI_nlt p1 (by omega))
                · refine G_aload_n dL_law_682 rfl ?_
                  refine G_iload dL_law_683 rfl ?_
                  refine G_iconst (v := 1) dL_law_685 (by decide) ?_
                  refine G_iload dL_law_686 rfl ?_
                  refine G_isub dL_law_688 ?_
                  rw [hl1]
                  refine G_ldc dL_law_689 wk_L_74 ?_
                  refine G_cVq (As := [_, _, _]) dL_law_691 kV_X6_pairs wml_L_70 (q_pairs hI hA hlr (lr2 := 1 - lr) (by omega) (far := 3000000) ⟨by decide, by decide⟩) rfl cIdx rfl rfl rfl (by decide) ⟨by omega, by omega⟩ (Nat.le_of_ble_eq_true rfl) ?_
                  intro S hA
                  rw [show nI (smN (pairG S0 24 (nI lr) (nI (1 - lr)) 3000000) 24) = nI (paN S0 lr (1 - lr) 3000000) from rfl, x1]
                  refine G_iload dL_law_694 rfl ?_
                  refine G_aload_n dL_law_696 rfl ?_
                  refine G_iconst (v := 1) dL_law_697 (by decide) ?_
                  refine G_iload dL_law_698 rfl ?_
                  refine G_isub dL_law_700 ?_
                  rw [hl1]
                  refine G_cVq (As := [_]) dL_law_701 kV_X6_size wml_L_45 (q_size hI hA (lr := 1 - lr) (by omega)) rfl cIdx rfl rfl rfl (by decide) ⟨by omega, by omega⟩ (Nat.le_of_ble_eq_true rfl) ?_
                  intro S hA
                  refine G_imul dL_law_704 ?_
                  rw [nI_mul]
                  refine G_icmp_ne (tgt := 737) dL_law_705 (by decide) (fun c_705 => ?_) (fun c_705 => ?_)
                  · first
                      | exact absurd rfl c_734
                      | exact absurd rfl c_705
                      | exact absurd c_679 (nI_nlt w1.1 (by omega))
                      | exact absurd rfl c_635
                      | exact absurd rfl c_622
                      | exact absurd c_605 (nI_nlt p4 (by omega))
                      | exact absurd c_598 (nlt_sub hmN (by omega) (by omega) (by omega))
                      | exact absurd rfl c_588
                      | exact absurd c_574 (nI_nlt p1 (by omega))
                  · refine G_aload_n dL_law_708 rfl ?_
                    refine G_iload dL_law_709 rfl ?_
                    refine G_iconst (v := 1) dL_law_711 (by decide) ?_
                    refine G_iload dL_law_712 rfl ?_
                    refine G_isub dL_law_714 ?_
                    rw [hl1]
                    refine G_sipush (v := 900) dL_law_715 (by decide) ?_
                    refine G_cVq (As := [_, _, _]) dL_law_718 kV_X6_visitedPairs wml_L_89 (q_visitedPairs hI hA hlr (lr2 := 1 - lr) (by omega) (far := 900) ⟨by decide, by decide⟩) rfl cIdx rfl rfl rfl (by decide) ⟨by omega, by omega⟩ (Nat.le_of_ble_eq_true rfl) ?_
                    intro S hA
                    rw [vpV_comm]
                    refine G_aload_n dL_law_721 rfl ?_
                    refine G_iconst (v := 1) dL_law_722 (by decide) ?_
                    refine G_iload dL_law_723 rfl ?_
                    refine G_isub dL_law_725 ?_
                    rw [hl1]
                    refine G_iload dL_law_726 rfl ?_
                    refine G_sipush (v := 900) dL_law_728 (by decide) ?_
                    refine G_cVq (As := [_, _, _]) dL_law_731 kV_X6_visitedPairs wml_L_89 (q_visitedPairs hI hA (lr := 1 - lr) (by omega) hlr (far := 900) ⟨by decide, by decide⟩) rfl cIdx rfl rfl rfl (by decide) ⟨by omega, by omega⟩ (Nat.le_of_ble_eq_true rfl) ?_
                    intro S hA
                    refine G_icmp_eq (tgt := 739) dL_law_734 (by decide) (fun c_734 => ?_) (fun c_734 => ?_)
                    · refine G_sub [7, 8, 9, 10, 11, 12, 13, 14] rfl ?_
                      exact k3 S hA
                    · first
                        | exact absurd rfl c_734
                        | exact absurd rfl c_705
                        | exact absurd c_679 (nI_nlt w1.1 (by omega))
                        | exact absurd rfl c_635
                        | exact absurd rfl c_622
                        | exact absurd c_605 (nI_nlt p4 (by omega))
                        | exact absurd c_598 (nlt_sub hmN (by omega) (by omega) (by omega))
                        | exact absurd rfl c_588
                        | exact absurd c_574 (nI_nlt p1 (by omega))
              · exact absurd (nI_le (show grN S0 lr 400 ≤ mN S0 lr - clN S0 lr 400 + 1 by omega) (by omega)) c_654
end LY
