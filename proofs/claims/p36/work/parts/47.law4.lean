/-! the law: the two layers, one after the other -/
section LZ
variable {K : GK} {S0 : St} {X Y W H : Nat → Nat} {cap L N0 N1 lr uc us : Nat} {P : Option Value → VH → Prop}
set_option maxHeartbeats 400000 in
theorem lw739 {x y w : Nat} {tn : Int32} {sum : Int64} {z : UInt32} {S : St} (kk : GL K uc us P 236 [(8, .int (nI (lr + 1))), (7, .int (nI w)), (6, .int (nI y)), (5, .int (nI x)), (3, .long sum), (2, .int tn), (1, .ref 0), (0, .float z)] S) : GL K uc us P 739 [(8, .int (nI lr)), (7, .int (nI w)), (6, .int (nI y)), (5, .int (nI x)), (3, .long sum), (2, .int tn), (1, .ref 0), (0, .float z)] S := by
  refine GS_iinc (v := 1) (L' := [(8, _), (7, _), (6, _), (5, _), (3, _), (2, _), (1, _), (0, _)]) dL_law_739 rfl (by decide) (by decide) rfl ?_
  refine G_goto (tgt := 236) dL_law_742 (by decide) ?_
  refine G_sub [0, 1, 2, 3, 4, 5, 6, 7] rfl ?_
  rw [nI_1]
  exact kk
set_option maxHeartbeats 400000 in
theorem lw236 (hI : INV S0 X Y W H cap L N0 N1) {x y w : Nat} (hx : x ≤ 1023) (hy : y ≤ 1023) (hw : w ≤ 600) {tn : Int32} {sum : Int64} {z : UInt32} (hu : uc ≤ 600074) (hv : us ≤ 7301550) (k3 : ∀ S, AK S0 S → GL K uc us P 745 [(8, .int (nI 2)), (7, .int (nI w)), (6, .int (nI y)), (5, .int (nI x)), (3, .long sum), (2, .int tn), (1, .ref 0), (0, .float z)] S) : ∀ m lr, lr + m = 2 → ∀ S, AK S0 S → GL K uc us P 236 [(8, .int (nI lr)), (7, .int (nI w)), (6, .int (nI y)), (5, .int (nI x)), (3, .long sum), (2, .int tn), (1, .ref 0), (0, .float z)] S := by
  intro m
  induction m with
  | zero =>
    intro lr hl S hA
    have e2 : lr = 2 := by omega
    subst e2
    refine G_iload dL_law_236 rfl ?_
    refine G_iconst (v := 2) dL_law_238 (by decide) ?_
    refine G_icmp_ge (tgt := 745) dL_law_239 (by decide) (fun c_239 => ?_) (fun c_239 => ?_)
    · exact k3 S hA
    · exact absurd (show (2 : Int32) ≤ nI 2 from Int32.le_refl _) c_239
  | succ m ih =>
    intro lr hl S hA
    have hlr : lr < 2 := by omega
    refine G_iload dL_law_236 rfl ?_
    refine G_iconst (v := 2) dL_law_238 (by decide) ?_
    refine G_icmp_ge (tgt := 745) dL_law_239 (by decide) (fun c_239 => ?_) (fun c_239 => ?_)
    · exact absurd (show nI 2 ≤ nI lr from c_239) (nI_ge hlr (by decide))
    · refine G_aload_n dL_law_242 rfl ?_
      refine G_iload dL_law_243 rfl ?_
      refine G_cVq (As := [_]) dL_law_245 kV_X6_size wml_L_45 (q_size hI hA hlr) rfl cIdx rfl rfl rfl (by decide) ⟨by omega, by omega⟩ (Nat.le_of_ble_eq_true rfl) ?_
      intro S hA
      refine GS_istore (L' := [(9, _), (8, _), (7, _), (6, _), (5, _), (3, _), (2, _), (1, _), (0, _)]) dL_law_248 (by decide) rfl ?_
      refine G_iconst (v := 0) dL_law_250 (by decide) ?_
      refine GS_istore (L' := [(10, _), (9, _), (8, _), (7, _), (6, _), (5, _), (3, _), (2, _), (1, _), (0, _)]) dL_law_251 (by decide) rfl ?_
      refine G_iconst (v := 0) dL_law_253 (by decide) ?_
      refine GS_istore (L' := [(11, _), (10, _), (9, _), (8, _), (7, _), (6, _), (5, _), (3, _), (2, _), (1, _), (0, _)]) dL_law_254 (by decide) rfl ?_
      refine G_iconst (v := 1) dL_law_256 (by decide) ?_
      refine GS_istore (L' := [(12, _), (11, _), (10, _), (9, _), (8, _), (7, _), (6, _), (5, _), (3, _), (2, _), (1, _), (0, _)]) dL_law_257 (by decide) rfl ?_
      refine G_sub [0, 1, 2, 3, 4, 5, 6, 7, 8, 9, 10, 11] rfl ?_
      have q := lw259 (P := P) (uc := uc) (us := us) (K := K) (w := nI w) (tn := tn) (sum := sum) (z := z) hI hlr hx hy hu hv (fun S a b d hA => lw366 hI hlr hx hy hw hu hv (fun S a b d hA => lw534 hI hlr hu hv (fun S hA => lw739 (ih (lr + 1) (by omega) S hA)) S hA a b d) S hA a b d) (mN S0 lr) 1 (by omega) (Nat.le_refl 1) S hA
      rw [show laN S0 lr x y 1 = 0 from if_pos rfl, show seN S0 (NN N0 N1 lr) lr x y 1 = 0 from if_pos rfl] at q
      exact q
end LZ
