/-! the digest: a function of what it is at the turn's start -/
def dOf (S0 : St) (lr k : Nat) (j : Nat) (s : Int64) : Int64 := match j with
  | 0 => s
  | j + 1 => dOf S0 lr k j s * 31 + (ofV S0 lr k j).toInt64
def dTh (S0 : St) (n : Nat) (s : Int64) : Int64 := match n with
  | 0 => s
  | n + 1 => if S0.1 12 n = -1 then dTh S0 n s else dOf S0 (n % 2) n 7 (dTh S0 n s * 31 + (nI n).toInt64)
def nrV (S0 : St) (lr x y kk : Nat) : Int32 := if 0 ≤ keyN S0 lr 24 (nI x) (nI y) kk then keyN S0 lr 24 (nI x) (nI y) kk - keyN S0 lr 24 (nI x) (nI y) kk / 128 * 128 else -1
def frV (S0 : St) (lr x y kk : Nat) : Int32 := if 0 ≤ keyN S0 lr 24 (nI x) (nI y) kk then keyN S0 lr 24 (nI x) (nI y) kk / 128 else -1
def vfV (S0 : St) (N lr x y kk : Nat) : Int32 := if 0 ≤ keyN S0 lr 24 (nI x) (nI y) kk then nI (cnt (visP S0 (50 + 25 * lr) (nI x) (nI y) 0 0 (keyN S0 lr 24 (nI x) (nI y) kk / 128)) N) else nI N
def dLy (S0 : St) (X Y : Nat → Nat) (N0 N1 lr : Nat) (s : Int64) : Int64 :=
  let s1 := s * 31 + (nI (mN S0 lr)).toInt64
  let s2 := s1 * 31 + (nI (NN N0 N1 lr)).toInt64
  let s3 := s2 * 31 + (levV S0 (50 + 25 * lr)).toInt64
  let s4 := s3 * 31 + (nI (cnt (fun k => inL S0 (nI lr) k && decide (bfar S0 2 80 (nI k) (nI 100) (nI 100) (nI 400) (nI 300) = 0)) 24)).toInt64
  let s5 := s4 * 31 + (nI (cnt (visP S0 (50 + 25 * lr) (nI 100) (nI 100) (nI 400) (nI 300) 0) (NN N0 N1 lr))).toInt64
  let s6 := s5 * 31 + (nrV S0 lr 512 512 3).toInt64
  let s7 := s6 * 31 + (frV S0 lr 512 512 3).toInt64
  let s8 := s7 * 31 + (vfV S0 (NN N0 N1 lr) lr 512 512 3).toInt64
  let s9 := s8 * 31 + (nI (cnt (rootP S0 (nI lr) (gOut S0 24 (nI lr) 2500 (fun _ => 0) 24)) 24)).toInt64
  let s10 := s9 * 31 + (nI (grtN S0 24 (nI lr) (gOut S0 24 (nI lr) 2500 (fun _ => 0) 24) 24)).toInt64
  s10 * 31 + (nI (plN S0 X Y lr 3)).toInt64
def dgV (S0 : St) (X Y : Nat → Nat) (N0 N1 : Nat) : Int64 := (dLy S0 X Y N0 N1 1 (dLy S0 X Y N0 N1 0 (dTh S0 24 (1800139 + (nI 24).toInt64))) * 31 + (vpV S0 0 1 900).toInt64) * 31 + (0 : Int32).toInt64
section DG
variable {K : GK} {S0 : St} {X Y W H : Nat → Nat} {cap L N0 N1 lr : Nat} {P : Option Value → VH → Prop}
def DP (S0 : St) (D : Int64) : Option Value → VH → Prop := fun v u => v = some (.long D) ∧ ∃ S', u = hp 2 S' ∧ AK S0 S'

set_option maxHeartbeats 400000 in
theorem dg328 (hI : INV S0 X Y W H cap L N0 N1) {i : Int32} {s D : Int64} (hD : s * 31 + (0 : Int32).toInt64 = D) (S : St) (hA : AK S0 S) : G K MX6_digest 26 0 0 0 0 328 [(3, .int i), (1, .long s), (0, .ref 0)] [] (hp 2 S) (QcP K (DP S0 D)) (XcP K noX) := by
  refine G_lload_n dX6_digest_328 rfl ?_
  refine G_ldc2 dX6_digest_329 wk_X6_263 ?_
  refine G_lmul dX6_digest_332 ?_
  refine G_aload_n dX6_digest_333 rfl ?_
  refine G_cVq (As := []) dX6_digest_334 kV_X6_area wml_X6_303 (q_area hI hA) rfl cIdx rfl rfl rfl (by decide) ⟨by omega, by omega⟩ (Nat.le_of_ble_eq_true rfl) ?_
  intro S hA
  refine G_i2l dX6_digest_337 ?_
  refine G_ladd dX6_digest_338 ?_
  exact G_lret dX6_digest_339 rfl ⟨Nat.le_refl 0, Nat.le_refl 0⟩ ⟨by rw [hD], S, rfl, hA⟩
set_option maxHeartbeats 400000 in
theorem dg293b (hI : INV S0 X Y W H cap L N0 N1) {s D : Int64} (hD : s * 31 + (0 : Int32).toInt64 = D) (S : St) (hA : AK S0 S) : G K MX6_digest 26 0 0 0 0 293 [(3, .int (0 + 1)), (1, .long s), (0, .ref 0)] [] (hp 2 S) (QcP K (DP S0 D)) (XcP K noX) := by
  refine G_iload_n dX6_digest_293 rfl ?_
  refine G_iconst (v := 1) dX6_digest_294 (by decide) ?_
  refine G_iadd dX6_digest_295 ?_
  refine G_aload_n dX6_digest_296 rfl ?_
  refine G_get (k := 4) dX6_digest_297 cIdx rfl wfl_X6_36 (by decide) rfl ?_
  rw [show S.2.1 0 4 = nI 2 from (INV_eq hI hA.1 hA.2).1.2.1]
  refine G_icmp_ge (tgt := 328) dX6_digest_300 (by decide) (fun c_300 => ?_) (fun c_300 => ?_)
  · exact dg328 hI hD S hA
  · exact absurd (show nI 2 ≤ (0 + 1 + 1 : Int32) by decide) c_300
set_option maxHeartbeats 400000 in
theorem dg293 (hI : INV S0 X Y W H cap L N0 N1) {s D : Int64} (hD : (s * 31 + (vpV S0 0 1 900).toInt64) * 31 + (0 : Int32).toInt64 = D) (S : St) (hA : AK S0 S) : G K MX6_digest 26 0 0 0 0 293 [(3, .int 0), (1, .long s), (0, .ref 0)] [] (hp 2 S) (QcP K (DP S0 D)) (XcP K noX) := by
  refine G_iload_n dX6_digest_293 rfl ?_
  refine G_iconst (v := 1) dX6_digest_294 (by decide) ?_
  refine G_iadd dX6_digest_295 ?_
  refine G_aload_n dX6_digest_296 rfl ?_
  refine G_get (k := 4) dX6_digest_297 cIdx rfl wfl_X6_36 (by decide) rfl ?_
  rw [show S.2.1 0 4 = nI 2 from (INV_eq hI hA.1 hA.2).1.2.1]
  refine G_icmp_ge (tgt := 328) dX6_digest_300 (by decide) (fun c_300 => ?_) (fun c_300 => ?_)
  · exact absurd c_300 (by decide)
  · refine G_lload_n dX6_digest_303 rfl ?_
    refine G_ldc2 dX6_digest_304 wk_X6_263 ?_
    refine G_lmul dX6_digest_307 ?_
    refine G_aload_n dX6_digest_308 rfl ?_
    refine G_iload_n dX6_digest_309 rfl ?_
    refine G_iload_n dX6_digest_310 rfl ?_
    refine G_iconst (v := 1) dX6_digest_311 (by decide) ?_
    refine G_iadd dX6_digest_312 ?_
    refine G_sipush (v := 900) dX6_digest_313 (by decide) ?_
    refine G_cVq (As := [_, _, _]) dX6_digest_316 kV_X6_visitedPairs wml_X6_300 (q_visitedPairs hI hA (lr := 0) (lr2 := 1) (by omega) (by omega) (far := 900) ⟨by decide, by decide⟩) rfl cIdx rfl rfl rfl (by decide) ⟨by omega, by omega⟩ (Nat.le_of_ble_eq_true rfl) ?_
    intro S hA
    refine G_i2l dX6_digest_319 ?_
    refine G_ladd dX6_digest_320 ?_
    refine GS_lstore_n (L' := [(1, _), (3, _), (0, _)]) dX6_digest_321 (by decide) rfl ?_
    refine GS_iinc (v := 1) (L' := [(3, _), (1, _), (0, _)]) dX6_digest_322 rfl (by decide) (by decide) rfl ?_
    refine G_goto (tgt := 293) dX6_digest_325 (by decide) ?_
    exact dg293b hI hD S hA
set_option maxHeartbeats 400000 in
theorem dg94 (hI : INV S0 X Y W H cap L N0 N1) (hlr : lr < 2) {s D : Int64} (S : St) (hA : AK S0 S) (kk : ∀ S, AK S0 S → G K MX6_digest 26 0 0 0 0 86 [(3, .int (nI lr + 1)), (1, .long (dLy S0 X Y N0 N1 lr s)), (0, .ref 0)] [] (hp 2 S) (QcP K (DP S0 D)) (XcP K noX)) : G K MX6_digest 26 0 0 0 0 94 [(3, .int (nI lr)), (1, .long s), (0, .ref 0)] [] (hp 2 S) (QcP K (DP S0 D)) (XcP K noX) := by
  refine G_lload_n dX6_digest_94 rfl ?_
  refine G_ldc2 dX6_digest_95 wk_X6_263 ?_
  refine G_lmul dX6_digest_98 ?_
  refine G_aload_n dX6_digest_99 rfl ?_
  refine G_iload_n dX6_digest_100 rfl ?_
  refine G_cVq (As := [_]) dX6_digest_101 kV_X6_size wml_X6_268 (q_size hI hA hlr) rfl cIdx rfl rfl rfl (by decide) ⟨by omega, by omega⟩ (Nat.le_of_ble_eq_true rfl) ?_
  intro S hA
  refine G_i2l dX6_digest_104 ?_
  refine G_ladd dX6_digest_105 ?_
  refine GS_lstore_n (L' := [(1, _), (3, _), (0, _)]) dX6_digest_106 (by decide) rfl ?_
  refine G_lload_n dX6_digest_107 rfl ?_
  refine G_ldc2 dX6_digest_108 wk_X6_263 ?_
  refine G_lmul dX6_digest_111 ?_
  refine G_aload_n dX6_digest_112 rfl ?_
  refine G_iload_n dX6_digest_113 rfl ?_
  refine G_cVq (As := [_]) dX6_digest_114 kV_X6_nodes wml_X6_270 (q_nodes hI hA hlr) rfl cIdx rfl rfl rfl (by decide) ⟨by omega, by omega⟩ (Nat.le_of_ble_eq_true rfl) ?_
  intro S hA
  refine G_i2l dX6_digest_117 ?_
  refine G_ladd dX6_digest_118 ?_
  refine GS_lstore_n (L' := [(1, _), (3, _), (0, _)]) dX6_digest_119 (by decide) rfl ?_
  refine G_lload_n dX6_digest_120 rfl ?_
  refine G_ldc2 dX6_digest_121 wk_X6_263 ?_
  refine G_lmul dX6_digest_124 ?_
  refine G_aload_n dX6_digest_125 rfl ?_
  refine G_iload_n dX6_digest_126 rfl ?_
  refine G_cVq (As := [_]) dX6_digest_127 kV_X6_depth wml_X6_273 (q_depth hI hA hlr) rfl cIdx rfl rfl rfl (by decide) ⟨by omega, by omega⟩ (Nat.le_of_ble_eq_true rfl) ?_
  intro S hA
  refine G_i2l dX6_digest_130 ?_
  refine G_ladd dX6_digest_131 ?_
  refine GS_lstore_n (L' := [(1, _), (3, _), (0, _)]) dX6_digest_132 (by decide) rfl ?_
  refine G_lload_n dX6_digest_133 rfl ?_
  refine G_ldc2 dX6_digest_134 wk_X6_263 ?_
  refine G_lmul dX6_digest_137 ?_
  refine G_aload_n dX6_digest_138 rfl ?_
  refine G_iload_n dX6_digest_139 rfl ?_
  refine G_bipush (v := 100) dX6_digest_140 (by decide) ?_
  refine G_bipush (v := 100) dX6_digest_142 (by decide) ?_
  refine G_sipush (v := 400) dX6_digest_144 (by decide) ?_
  refine G_sipush (v := 300) dX6_digest_147 (by decide) ?_
  refine G_cVq (As := [_, _, _, _, _]) dX6_digest_150 kV_X6_inBox wml_X6_276 (q_inBox hI hA hlr (x := 100) (y := 100) (w := 400) (h := 300) (by omega) (by omega) (by omega) (by omega)) rfl cIdx rfl rfl rfl (by decide) ⟨by omega, by omega⟩ (Nat.le_of_ble_eq_true rfl) ?_
  intro S hA
  refine G_i2l dX6_digest_153 ?_
  refine G_ladd dX6_digest_154 ?_
  refine GS_lstore_n (L' := [(1, _), (3, _), (0, _)]) dX6_digest_155 (by decide) rfl ?_
  refine G_lload_n dX6_digest_156 rfl ?_
  refine G_ldc2 dX6_digest_157 wk_X6_263 ?_
  refine G_lmul dX6_digest_160 ?_
  refine G_aload_n dX6_digest_161 rfl ?_
  refine G_iload_n dX6_digest_162 rfl ?_
  refine G_bipush (v := 100) dX6_digest_163 (by decide) ?_
  refine G_bipush (v := 100) dX6_digest_165 (by decide) ?_
  refine G_sipush (v := 400) dX6_digest_167 (by decide) ?_
  refine G_sipush (v := 300) dX6_digest_170 (by decide) ?_
  refine G_cVq (As := [_, _, _, _, _]) dX6_digest_173 kV_X6_visited wml_X6_279 (q_visited hI hA hlr (x := 100) (y := 100) (w := 400) (h := 300) (by omega) (by omega) (by omega) (by omega)) rfl cIdx rfl rfl rfl (by decide) ⟨by omega, by omega⟩ (Nat.le_of_ble_eq_true rfl) ?_
  intro S hA
  refine G_i2l dX6_digest_176 ?_
  refine G_ladd dX6_digest_177 ?_
  refine GS_lstore_n (L' := [(1, _), (3, _), (0, _)]) dX6_digest_178 (by decide) rfl ?_
  refine G_lload_n dX6_digest_179 rfl ?_
  refine G_ldc2 dX6_digest_180 wk_X6_263 ?_
  refine G_lmul dX6_digest_183 ?_
  refine G_aload_n dX6_digest_184 rfl ?_
  refine G_iload_n dX6_digest_185 rfl ?_
  refine G_sipush (v := 512) dX6_digest_186 (by decide) ?_
  refine G_sipush (v := 512) dX6_digest_189 (by decide) ?_
  refine G_iconst (v := 3) dX6_digest_192 (by decide) ?_
  refine G_cVq (As := [_, _, _, _]) dX6_digest_193 kV_X6_nearest wml_X6_282 (q_nearest hI hA hlr (x := 512) (y := 512) (kk := 3) (by omega) (by omega) (by omega) (by omega)) rfl cIdx rfl rfl rfl (by decide) ⟨by omega, by omega⟩ (Nat.le_of_ble_eq_true rfl) ?_
  intro S hA
  refine G_i2l dX6_digest_196 ?_
  refine G_ladd dX6_digest_197 ?_
  refine GS_lstore_n (L' := [(1, _), (3, _), (0, _)]) dX6_digest_198 (by decide) rfl ?_
  refine G_lload_n dX6_digest_199 rfl ?_
  refine G_ldc2 dX6_digest_200 wk_X6_263 ?_
  refine G_lmul dX6_digest_203 ?_
  refine G_aload_n dX6_digest_204 rfl ?_
  refine G_iload_n dX6_digest_205 rfl ?_
  refine G_sipush (v := 512) dX6_digest_206 (by decide) ?_
  refine G_sipush (v := 512) dX6_digest_209 (by decide) ?_
  refine G_iconst (v := 3) dX6_digest_212 (by decide) ?_
  refine G_cVq (As := [_, _, _, _]) dX6_digest_213 kV_X6_far wml_X6_285 (q_far hI hA hlr (x := 512) (y := 512) (kk := 3) (by omega) (by omega) (by omega) (by omega)) rfl cIdx rfl rfl rfl (by decide) ⟨by omega, by omega⟩ (Nat.le_of_ble_eq_true rfl) ?_
  intro S hA
  refine G_i2l dX6_digest_216 ?_
  refine G_ladd dX6_digest_217 ?_
  refine GS_lstore_n (L' := [(1, _), (3, _), (0, _)]) dX6_digest_218 (by decide) rfl ?_
  refine G_lload_n dX6_digest_219 rfl ?_
  refine G_ldc2 dX6_digest_220 wk_X6_263 ?_
  refine G_lmul dX6_digest_223 ?_
  refine G_aload_n dX6_digest_224 rfl ?_
  refine G_iload_n dX6_digest_225 rfl ?_
  refine G_sipush (v := 512) dX6_digest_226 (by decide) ?_
  refine G_sipush (v := 512) dX6_digest_229 (by decide) ?_
  refine G_iconst (v := 3) dX6_digest_232 (by decide) ?_
  refine G_cVq (As := [_, _, _, _]) dX6_digest_233 kV_X6_visitedFor wml_X6_288 (q_visitedFor hI hA hlr (x := 512) (y := 512) (kk := 3) (by omega) (by omega) (by omega) (by omega)) rfl cIdx rfl rfl rfl (by decide) ⟨by omega, by omega⟩ (Nat.le_of_ble_eq_true rfl) ?_
  intro S hA
  refine G_i2l dX6_digest_236 ?_
  refine G_ladd dX6_digest_237 ?_
  refine GS_lstore_n (L' := [(1, _), (3, _), (0, _)]) dX6_digest_238 (by decide) rfl ?_
  refine G_lload_n dX6_digest_239 rfl ?_
  refine G_ldc2 dX6_digest_240 wk_X6_263 ?_
  refine G_lmul dX6_digest_243 ?_
  refine G_aload_n dX6_digest_244 rfl ?_
  refine G_iload_n dX6_digest_245 rfl ?_
  refine G_sipush (v := 2500) dX6_digest_246 (by decide) ?_
  refine G_cVq (As := [_, _]) dX6_digest_249 kV_X6_clusters wml_X6_291 (q_clusters hI hA hlr (far := 2500) ⟨by decide, by decide⟩) rfl cIdx rfl rfl rfl (by decide) ⟨by omega, by omega⟩ (Nat.le_of_ble_eq_true rfl) ?_
  intro S hA
  refine G_i2l dX6_digest_252 ?_
  refine G_ladd dX6_digest_253 ?_
  refine GS_lstore_n (L' := [(1, _), (3, _), (0, _)]) dX6_digest_254 (by decide) rfl ?_
  refine G_lload_n dX6_digest_255 rfl ?_
  refine G_ldc2 dX6_digest_256 wk_X6_263 ?_
  refine G_lmul dX6_digest_259 ?_
  refine G_aload_n dX6_digest_260 rfl ?_
  refine G_iload_n dX6_digest_261 rfl ?_
  refine G_sipush (v := 2500) dX6_digest_262 (by decide) ?_
  refine G_cVq (As := [_, _]) dX6_digest_265 kV_X6_greatest wml_X6_294 (q_greatest hI hA hlr (far := 2500) ⟨by decide, by decide⟩) rfl cIdx rfl rfl rfl (by decide) ⟨by omega, by omega⟩ (Nat.le_of_ble_eq_true rfl) ?_
  intro S hA
  refine G_i2l dX6_digest_268 ?_
  refine G_ladd dX6_digest_269 ?_
  refine GS_lstore_n (L' := [(1, _), (3, _), (0, _)]) dX6_digest_270 (by decide) rfl ?_
  refine G_lload_n dX6_digest_271 rfl ?_
  refine G_ldc2 dX6_digest_272 wk_X6_263 ?_
  refine G_lmul dX6_digest_275 ?_
  refine G_aload_n dX6_digest_276 rfl ?_
  refine G_iload_n dX6_digest_277 rfl ?_
  refine G_iconst (v := 3) dX6_digest_278 (by decide) ?_
  refine G_cVq (As := [_, _]) dX6_digest_279 kV_X6_nodesWith wml_X6_297 (q_nodesWith hI hA hlr (fn := 3) (by omega) (by omega)) rfl cIdx rfl rfl rfl (by decide) ⟨by omega, by omega⟩ (Nat.le_of_ble_eq_true rfl) ?_
  intro S hA
  refine G_i2l dX6_digest_282 ?_
  refine G_ladd dX6_digest_283 ?_
  refine GS_lstore_n (L' := [(1, _), (3, _), (0, _)]) dX6_digest_284 (by decide) rfl ?_
  refine GS_iinc (v := 1) (L' := [(3, _), (1, _), (0, _)]) dX6_digest_285 rfl (by decide) (by decide) rfl ?_
  refine G_goto (tgt := 86) dX6_digest_288 (by decide) ?_
  exact kk S hA
end DG
