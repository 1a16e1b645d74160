theorem dX6_digest_156 : decode cX6_digest 156 = .ok (.lload_n 1, 1) := by decide +kernel
theorem dX6_digest_157 : decode cX6_digest 157 = .ok (.ldc2_w 263, 3) := by decide +kernel
theorem dX6_digest_160 : decode cX6_digest 160 = .ok (.lmul, 1) := by decide +kernel
theorem dX6_digest_161 : decode cX6_digest 161 = .ok (.aload_n 0, 1) := by decide +kernel
theorem dX6_digest_162 : decode cX6_digest 162 = .ok (.iload_n 3, 1) := by decide +kernel
theorem dX6_digest_163 : decode cX6_digest 163 = .ok (.bipush 100, 2) := by decide +kernel
theorem dX6_digest_165 : decode cX6_digest 165 = .ok (.bipush 100, 2) := by decide +kernel
theorem dX6_digest_167 : decode cX6_digest 167 = .ok (.sipush 400, 3) := by decide +kernel
theorem dX6_digest_170 : decode cX6_digest 170 = .ok (.sipush 300, 3) := by decide +kernel
theorem dX6_digest_173 : decode cX6_digest 173 = .ok (.invokevirtual 279, 3) := by decide +kernel
theorem dX6_digest_176 : decode cX6_digest 176 = .ok (.i2l, 1) := by decide +kernel
theorem dX6_digest_177 : decode cX6_digest 177 = .ok (.ladd, 1) := by decide +kernel
theorem dX6_digest_178 : decode cX6_digest 178 = .ok (.lstore_n 1, 1) := by decide +kernel
theorem dX6_digest_179 : decode cX6_digest 179 = .ok (.lload_n 1, 1) := by decide +kernel
theorem dX6_digest_180 : decode cX6_digest 180 = .ok (.ldc2_w 263, 3) := by decide +kernel
theorem dX6_digest_183 : decode cX6_digest 183 = .ok (.lmul, 1) := by decide +kernel
theorem dX6_digest_184 : decode cX6_digest 184 = .ok (.aload_n 0, 1) := by decide +kernel
theorem dX6_digest_185 : decode cX6_digest 185 = .ok (.iload_n 3, 1) := by decide +kernel
theorem dX6_digest_186 : decode cX6_digest 186 = .ok (.sipush 512, 3) := by decide +kernel
theorem dX6_digest_189 : decode cX6_digest 189 = .ok (.sipush 512, 3) := by decide +kernel
theorem dX6_digest_192 : decode cX6_digest 192 = .ok (.iconst 3, 1) := by decide +kernel
theorem dX6_digest_193 : decode cX6_digest 193 = .ok (.invokevirtual 282, 3) := by decide +kernel
theorem dX6_digest_196 : decode cX6_digest 196 = .ok (.i2l, 1) := by decide +kernel
theorem dX6_digest_197 : decode cX6_digest 197 = .ok (.ladd, 1) := by decide +kernel
theorem dX6_digest_198 : decode cX6_digest 198 = .ok (.lstore_n 1, 1) := by decide +kernel
theorem dX6_digest_199 : decode cX6_digest 199 = .ok (.lload_n 1, 1) := by decide +kernel
theorem dX6_digest_200 : decode cX6_digest 200 = .ok (.ldc2_w 263, 3) := by decide +kernel
theorem dX6_digest_203 : decode cX6_digest 203 = .ok (.lmul, 1) := by decide +kernel
theorem dX6_digest_204 : decode cX6_digest 204 = .ok (.aload_n 0, 1) := by decide +kernel
theorem dX6_digest_205 : decode cX6_digest 205 = .ok (.iload_n 3, 1) := by decide +kernel
theorem dX6_digest_206 : decode cX6_digest 206 = .ok (.sipush 512, 3) := by decide +kernel
theorem dX6_digest_209 : decode cX6_digest 209 = .ok (.sipush 512, 3) := by decide +kernel
theorem dX6_digest_212 : decode cX6_digest 212 = .ok (.iconst 3, 1) := by decide +kernel
theorem dX6_digest_213 : decode cX6_digest 213 = .ok (.invokevirtual 285, 3) := by decide +kernel
theorem dX6_digest_216 : decode cX6_digest 216 = .ok (.i2l, 1) := by decide +kernel
theorem dX6_digest_217 : decode cX6_digest 217 = .ok (.ladd, 1) := by decide +kernel
theorem dX6_digest_218 : decode cX6_digest 218 = .ok (.lstore_n 1, 1) := by decide +kernel
theorem dX6_digest_219 : decode cX6_digest 219 = .ok (.lload_n 1, 1) := by decide +kernel
theorem dX6_digest_220 : decode cX6_digest 220 = .ok (.ldc2_w 263, 3) := by decide +kernel
theorem dX6_digest_223 : decode cX6_digest 223 = .ok (.lmul, 1) := by decide +kernel
theorem dX6_digest_224 : decode cX6_digest 224 = .ok (.aload_n 0, 1) := by decide +kernel
theorem dX6_digest_225 : decode cX6_digest 225 = .ok (.iload_n 3, 1) := by decide +kernel
theorem dX6_digest_226 : decode cX6_digest 226 = .ok (.sipush 512, 3) := by decide +kernel
theorem dX6_digest_229 : decode cX6_digest 229 = .ok (.sipush 512, 3) := by decide +kernel
theorem dX6_digest_232 : decode cX6_digest 232 = .ok (.iconst 3, 1) := by decide +kernel
theorem dX6_digest_233 : decode cX6_digest 233 = .ok (.invokevirtual 288, 3) := by decide +kernel
theorem dX6_digest_236 : decode cX6_digest 236 = .ok (.i2l, 1) := by decide +kernel
theorem dX6_digest_237 : decode cX6_digest 237 = .ok (.ladd, 1) := by decide +kernel
theorem dX6_digest_238 : decode cX6_digest 238 = .ok (.lstore_n 1, 1) := by decide +kernel
theorem dX6_digest_239 : decode cX6_digest 239 = .ok (.lload_n 1, 1) := by decide +kernel
theorem dX6_digest_240 : decode cX6_digest 240 = .ok (.ldc2_w 263, 3) := by decide +kernel
theorem dX6_digest_243 : decode cX6_digest 243 = .ok (.lmul, 1) := by decide +kernel
theorem dX6_digest_244 : decode cX6_digest 244 = .ok (.aload_n 0, 1) := by decide +kernel
theorem dX6_digest_245 : decode cX6_digest 245 = .ok (.iload_n 3, 1) := by decide +kernel
theorem dX6_digest_246 : decode cX6_digest 246 = .ok (.sipush 2500, 3) := by decide +kernel
theorem dX6_digest_249 : decode cX6_digest 249 = .ok (.invokevirtual 291, 3) := by decide +kernel
theorem dX6_digest_252 : decode cX6_digest 252 = .ok (.i2l, 1) := by decide +kernel
theorem dX6_digest_253 : decode cX6_digest 253 = .ok (.ladd, 1) := by decide +kernel
theorem dX6_digest_254 : decode cX6_digest 254 = .ok (.lstore_n 1, 1) := by decide +kernel
theorem dX6_digest_255 : decode cX6_digest 255 = .ok (.lload_n 1, 1) := by decide +kernel
theorem dX6_digest_256 : decode cX6_digest 256 = .ok (.ldc2_w 263, 3) := by decide +kernel
theorem dX6_digest_259 : decode cX6_digest 259 = .ok (.lmul, 1) := by decide +kernel
theorem dX6_digest_260 : decode cX6_digest 260 = .ok (.aload_n 0, 1) := by decide +kernel
theorem dX6_digest_261 : decode cX6_digest 261 = .ok (.iload_n 3, 1) := by decide +kernel
theorem dX6_digest_262 : decode cX6_digest 262 = .ok (.sipush 2500, 3) := by decide +kernel
theorem dX6_digest_265 : decode cX6_digest 265 = .ok (.invokevirtual 294, 3) := by decide +kernel
theorem dX6_digest_268 : decode cX6_digest 268 = .ok (.i2l, 1) := by decide +kernel
theorem dX6_digest_269 : decode cX6_digest 269 = .ok (.ladd, 1) := by decide +kernel
theorem dX6_digest_270 : decode cX6_digest 270 = .ok (.lstore_n 1, 1) := by decide +kernel
theorem dX6_digest_271 : decode cX6_digest 271 = .ok (.lload_n 1, 1) := by decide +kernel
theorem dX6_digest_272 : decode cX6_digest 272 = .ok (.ldc2_w 263, 3) := by decide +kernel
theorem dX6_digest_275 : decode cX6_digest 275 = .ok (.lmul, 1) := by decide +kernel
theorem dX6_digest_276 : decode cX6_digest 276 = .ok (.aload_n 0, 1) := by decide +kernel
theorem dX6_digest_277 : decode cX6_digest 277 = .ok (.iload_n 3, 1) := by decide +kernel
theorem dX6_digest_278 : decode cX6_digest 278 = .ok (.iconst 3, 1) := by decide +kernel
theorem dX6_digest_279 : decode cX6_digest 279 = .ok (.invokevirtual 297, 3) := by decide +kernel
theorem dX6_digest_282 : decode cX6_digest 282 = .ok (.i2l, 1) := by decide +kernel
theorem dX6_digest_283 : decode cX6_digest 283 = .ok (.ladd, 1) := by decide +kernel
theorem dX6_digest_284 : decode cX6_digest 284 = .ok (.lstore_n 1, 1) := by decide +kernel
theorem dX6_digest_285 : decode cX6_digest 285 = .ok (.iinc 3 1, 3) := by decide +kernel
theorem dX6_digest_288 : decode cX6_digest 288 = .ok (.goto (-202), 3) := by decide +kernel
theorem dX6_digest_291 : decode cX6_digest 291 = .ok (.iconst 0, 1) := by decide +kernel
theorem dX6_digest_292 : decode cX6_digest 292 = .ok (.istore_n 3, 1) := by decide +kernel
theorem dX6_digest_293 : decode cX6_digest 293 = .ok (.iload_n 3, 1) := by decide +kernel
theorem dX6_digest_294 : decode cX6_digest 294 = .ok (.iconst 1, 1) := by decide +kernel
theorem dX6_digest_295 : decode cX6_digest 295 = .ok (.iadd, 1) := by decide +kernel
theorem dX6_digest_296 : decode cX6_digest 296 = .ok (.aload_n 0, 1) := by decide +kernel
theorem dX6_digest_297 : decode cX6_digest 297 = .ok (.getfield 36, 3) := by decide +kernel
theorem dX6_digest_300 : decode cX6_digest 300 = .ok (.if_icmp .ge 28, 3) := by decide +kernel
theorem dX6_digest_303 : decode cX6_digest 303 = .ok (.lload_n 1, 1) := by decide +kernel
theorem dX6_digest_304 : decode cX6_digest 304 = .ok (.ldc2_w 263, 3) := by decide +kernel
theorem dX6_digest_307 : decode cX6_digest 307 = .ok (.lmul, 1) := by decide +kernel
theorem dX6_digest_308 : decode cX6_digest 308 = .ok (.aload_n 0, 1) := by decide +kernel
theorem dX6_digest_309 : decode cX6_digest 309 = .ok (.iload_n 3, 1) := by decide +kernel
theorem dX6_digest_310 : decode cX6_digest 310 = .ok (.iload_n 3, 1) := by decide +kernel
theorem dX6_digest_311 : decode cX6_digest 311 = .ok (.iconst 1, 1) := by decide +kernel
theorem dX6_digest_312 : decode cX6_digest 312 = .ok (.iadd, 1) := by decide +kernel
theorem dX6_digest_313 : decode cX6_digest 313 = .ok (.sipush 900, 3) := by decide +kernel
theorem dX6_digest_316 : decode cX6_digest 316 = .ok (.invokevirtual 300, 3) := by decide +kernel
theorem dX6_digest_319 : decode cX6_digest 319 = .ok (.i2l, 1) := by decide +kernel
theorem dX6_digest_320 : decode cX6_digest 320 = .ok (.ladd, 1) := by decide +kernel
theorem dX6_digest_321 : decode cX6_digest 321 = .ok (.lstore_n 1, 1) := by decide +kernel
theorem dX6_digest_322 : decode cX6_digest 322 = .ok (.iinc 3 1, 3) := by decide +kernel
theorem dX6_digest_325 : decode cX6_digest 325 = .ok (.goto (-32), 3) := by decide +kernel
theorem dX6_digest_328 : decode cX6_digest 328 = .ok (.lload_n 1, 1) := by decide +kernel
theorem dX6_digest_329 : decode cX6_digest 329 = .ok (.ldc2_w 263, 3) := by decide +kernel
theorem dX6_digest_332 : decode cX6_digest 332 = .ok (.lmul, 1) := by decide +kernel
theorem dX6_digest_333 : decode cX6_digest 333 = .ok (.aload_n 0, 1) := by decide +kernel
theorem dX6_digest_334 : decode cX6_digest 334 = .ok (.invokevirtual 303, 3) := by decide +kernel
theorem dX6_digest_337 : decode cX6_digest 337 = .ok (.i2l, 1) := by decide +kernel
theorem dX6_digest_338 : decode cX6_digest 338 = .ok (.ladd, 1) := by decide +kernel
theorem dX6_digest_339 : decode cX6_digest 339 = .ok (.lreturn, 1) := by decide +kernel
theorem dX6_layerAt_0 : decode cX6_layerAt 0 = .ok (.iload_n 1, 1) := by decide +kernel
theorem dX6_layerAt_1 : decode cX6_layerAt 1 = .ok (.ifCond .lt 12, 3) := by decide +kernel
theorem dX6_layerAt_4 : decode cX6_layerAt 4 = .ok (.iload_n 1, 1) := by decide +kernel
theorem dX6_layerAt_5 : decode cX6_layerAt 5 = .ok (.aload_n 0, 1) := by decide +kernel
theorem dX6_layerAt_6 : decode cX6_layerAt 6 = .ok (.getfield 18, 3) := by decide +kernel
theorem dX6_layerAt_9 : decode cX6_layerAt 9 = .ok (.arraylength, 1) := by decide +kernel
theorem dX6_layerAt_10 : decode cX6_layerAt 10 = .ok (.if_icmp .lt 14, 3) := by decide +kernel
theorem dX6_layerAt_13 : decode cX6_layerAt 13 = .ok (.new 186, 3) := by decide +kernel
theorem dX6_layerAt_16 : decode cX6_layerAt 16 = .ok (.dup, 1) := by decide +kernel
theorem dX6_layerAt_17 : decode cX6_layerAt 17 = .ok (.ldc_w 306, 3) := by decide +kernel
theorem dX6_layerAt_20 : decode cX6_layerAt 20 = .ok (.invokespecial 190, 3) := by decide +kernel
theorem dX6_layerAt_23 : decode cX6_layerAt 23 = .ok (.athrow, 1) := by decide +kernel
theorem dX6_layerAt_24 : decode cX6_layerAt 24 = .ok (.aload_n 0, 1) := by decide +kernel
theorem dX6_layerAt_25 : decode cX6_layerAt 25 = .ok (.getfield 18, 3) := by decide +kernel
theorem dX6_layerAt_28 : decode cX6_layerAt 28 = .ok (.iload_n 1, 1) := by decide +kernel
theorem dX6_layerAt_29 : decode cX6_layerAt 29 = .ok (.aaload, 1) := by decide +kernel
theorem dX6_layerAt_30 : decode cX6_layerAt 30 = .ok (.astore_n 2, 1) := by decide +kernel
theorem dX6_layerAt_31 : decode cX6_layerAt 31 = .ok (.aload_n 2, 1) := by decide +kernel
theorem dX6_layerAt_32 : decode cX6_layerAt 32 = .ok (.ifnonnull 14, 3) := by decide +kernel
theorem dX6_layerAt_35 : decode cX6_layerAt 35 = .ok (.new 186, 3) := by decide +kernel
theorem dX6_layerAt_38 : decode cX6_layerAt 38 = .ok (.dup, 1) := by decide +kernel
theorem dX6_layerAt_39 : decode cX6_layerAt 39 = .ok (.ldc_w 306, 3) := by decide +kernel
theorem dX6_layerAt_42 : decode cX6_layerAt 42 = .ok (.invokespecial 190, 3) := by decide +kernel
theorem dX6_layerAt_45 : decode cX6_layerAt 45 = .ok (.athrow, 1) := by decide +kernel
theorem dX6_layerAt_46 : decode cX6_layerAt 46 = .ok (.aload_n 2, 1) := by decide +kernel
theorem dX6_layerAt_47 : decode cX6_layerAt 47 = .ok (.areturn, 1) := by decide +kernel
theorem dX6_layerOfThing_0 : decode cX6_layerOfThing 0 = .ok (.iload_n 1, 1) := by decide +kernel
theorem dX6_layerOfThing_1 : decode cX6_layerOfThing 1 = .ok (.ifCond .lt 14, 3) := by decide +kernel
theorem dX6_layerOfThing_4 : decode cX6_layerOfThing 4 = .ok (.iload_n 1, 1) := by decide +kernel
theorem dX6_layerOfThing_5 : decode cX6_layerOfThing 5 = .ok (.aload_n 0, 1) := by decide +kernel
theorem dX6_layerOfThing_6 : decode cX6_layerOfThing 6 = .ok (.getfield 10, 3) := by decide +kernel
theorem dX6_layerOfThing_9 : decode cX6_layerOfThing 9 = .ok (.getfield 106, 3) := by decide +kernel
theorem dX6_layerOfThing_12 : decode cX6_layerOfThing 12 = .ok (.if_icmp .lt 14, 3) := by decide +kernel
theorem dX6_layerOfThing_15 : decode cX6_layerOfThing 15 = .ok (.new 186, 3) := by decide +kernel
theorem dX6_layerOfThing_18 : decode cX6_layerOfThing 18 = .ok (.dup, 1) := by decide +kernel
theorem dX6_layerOfThing_19 : decode cX6_layerOfThing 19 = .ok (.ldc_w 308, 3) := by decide +kernel
theorem dX6_layerOfThing_22 : decode cX6_layerOfThing 22 = .ok (.invokespecial 190, 3) := by decide +kernel
theorem dX6_layerOfThing_25 : decode cX6_layerOfThing 25 = .ok (.athrow, 1) := by decide +kernel
theorem dX6_layerOfThing_26 : decode cX6_layerOfThing 26 = .ok (.aload_n 0, 1) := by decide +kernel
theorem dX6_layerOfThing_27 : decode cX6_layerOfThing 27 = .ok (.getfield 10, 3) := by decide +kernel
theorem dX6_layerOfThing_30 : decode cX6_layerOfThing 30 = .ok (.getfield 132, 3) := by decide +kernel
theorem dX6_layerOfThing_33 : decode cX6_layerOfThing 33 = .ok (.iload_n 1, 1) := by decide +kernel
theorem dX6_layerOfThing_34 : decode cX6_layerOfThing 34 = .ok (.invokevirtual 116, 3) := by decide +kernel
theorem dX6_layerOfThing_37 : decode cX6_layerOfThing 37 = .ok (.iconst (-1), 1) := by decide +kernel
theorem dX6_layerOfThing_38 : decode cX6_layerOfThing 38 = .ok (.if_icmp .ne 14, 3) := by decide +kernel
theorem dX6_layerOfThing_41 : decode cX6_layerOfThing 41 = .ok (.new 186, 3) := by decide +kernel
theorem dX6_layerOfThing_44 : decode cX6_layerOfThing 44 = .ok (.dup, 1) := by decide +kernel
theorem dX6_layerOfThing_45 : decode cX6_layerOfThing 45 = .ok (.ldc_w 310, 3) := by decide +kernel
theorem dX6_layerOfThing_48 : decode cX6_layerOfThing 48 = .ok (.invokespecial 190, 3) := by decide +kernel
theorem dX6_layerOfThing_51 : decode cX6_layerOfThing 51 = .ok (.athrow, 1) := by decide +kernel
theorem dX6_layerOfThing_52 : decode cX6_layerOfThing 52 = .ok (.aload_n 0, 1) := by decide +kernel
theorem dX6_layerOfThing_53 : decode cX6_layerOfThing 53 = .ok (.aload_n 0, 1) := by decide +kernel
theorem dX6_layerOfThing_54 : decode cX6_layerOfThing 54 = .ok (.getfield 10, 3) := by decide +kernel
theorem dX6_layerOfThing_57 : decode cX6_layerOfThing 57 = .ok (.getfield 132, 3) := by decide +kernel
theorem dX6_layerOfThing_60 : decode cX6_layerOfThing 60 = .ok (.iload_n 1, 1) := by decide +kernel
theorem dX6_layerOfThing_61 : decode cX6_layerOfThing 61 = .ok (.invokevirtual 116, 3) := by decide +kernel
theorem dX6_layerOfThing_64 : decode cX6_layerOfThing 64 = .ok (.invokevirtual 57, 3) := by decide +kernel
theorem dX6_layerOfThing_67 : decode cX6_layerOfThing 67 = .ok (.areturn, 1) := by decide +kernel
theorem dX6_checkIsOfPoints_0 : decode cX6_checkIsOfPoints 0 = .ok (.aload_n 0, 1) := by decide +kernel
theorem dX6_checkIsOfPoints_1 : decode cX6_checkIsOfPoints 1 = .ok (.getfield 252, 3) := by decide +kernel
theorem dX6_checkIsOfPoints_4 : decode cX6_checkIsOfPoints 4 = .ok (.ifCond .ne 14, 3) := by decide +kernel
theorem dX6_checkIsOfPoints_7 : decode cX6_checkIsOfPoints 7 = .ok (.new 76, 3) := by decide +kernel
theorem dX6_checkIsOfPoints_10 : decode cX6_checkIsOfPoints 10 = .ok (.dup, 1) := by decide +kernel
theorem dX6_checkIsOfPoints_11 : decode cX6_checkIsOfPoints 11 = .ok (.ldc_w 312, 3) := by decide +kernel
theorem dX6_checkIsOfPoints_14 : decode cX6_checkIsOfPoints 14 = .ok (.invokespecial 80, 3) := by decide +kernel
theorem dX6_checkIsOfPoints_17 : decode cX6_checkIsOfPoints 17 = .ok (.athrow, 1) := by decide +kernel
theorem dX6_checkIsOfPoints_18 : decode cX6_checkIsOfPoints 18 = .ok (.return_, 1) := by decide +kernel
theorem dX6_checkIsOfBoxes_0 : decode cX6_checkIsOfBoxes 0 = .ok (.aload_n 0, 1) := by decide +kernel
theorem dX6_checkIsOfBoxes_1 : decode cX6_checkIsOfBoxes 1 = .ok (.getfield 252, 3) := by decide +kernel
theorem dX6_checkIsOfBoxes_4 : decode cX6_checkIsOfBoxes 4 = .ok (.ifCond .eq 14, 3) := by decide +kernel
theorem dX6_checkIsOfBoxes_7 : decode cX6_checkIsOfBoxes 7 = .ok (.new 76, 3) := by decide +kernel
theorem dX6_checkIsOfBoxes_10 : decode cX6_checkIsOfBoxes 10 = .ok (.dup, 1) := by decide +kernel
theorem dX6_checkIsOfBoxes_11 : decode cX6_checkIsOfBoxes 11 = .ok (.ldc_w 314, 3) := by decide +kernel
theorem dX6_checkIsOfBoxes_14 : decode cX6_checkIsOfBoxes 14 = .ok (.invokespecial 80, 3) := by decide +kernel
theorem dX6_checkIsOfBoxes_17 : decode cX6_checkIsOfBoxes 17 = .ok (.athrow, 1) := by decide +kernel
theorem dX6_checkIsOfBoxes_18 : decode cX6_checkIsOfBoxes 18 = .ok (.return_, 1) := by decide +kernel
theorem dX6_checkWithinMap_0 : decode cX6_checkWithinMap 0 = .ok (.iload_n 0, 1) := by decide +kernel
theorem dX6_checkWithinMap_1 : decode cX6_checkWithinMap 1 = .ok (.ifCond .lt 21, 3) := by decide +kernel
theorem dX6_checkWithinMap_4 : decode cX6_checkWithinMap 4 = .ok (.iload_n 0, 1) := by decide +kernel
theorem dX6_checkWithinMap_5 : decode cX6_checkWithinMap 5 = .ok (.sipush 1024, 3) := by decide +kernel
theorem dX6_checkWithinMap_8 : decode cX6_checkWithinMap 8 = .ok (.if_icmp .ge 14, 3) := by decide +kernel
theorem dX6_checkWithinMap_11 : decode cX6_checkWithinMap 11 = .ok (.iload_n 1, 1) := by decide +kernel
theorem dX6_checkWithinMap_12 : decode cX6_checkWithinMap 12 = .ok (.ifCond .lt 10, 3) := by decide +kernel
theorem dX6_checkWithinMap_15 : decode cX6_checkWithinMap 15 = .ok (.iload_n 1, 1) := by decide +kernel
theorem dX6_checkWithinMap_16 : decode cX6_checkWithinMap 16 = .ok (.sipush 1024, 3) := by decide +kernel
theorem dX6_checkWithinMap_19 : decode cX6_checkWithinMap 19 = .ok (.if_icmp .lt 14, 3) := by decide +kernel
theorem dX6_checkWithinMap_22 : decode cX6_checkWithinMap 22 = .ok (.new 76, 3) := by decide +kernel
theorem dX6_checkWithinMap_25 : decode cX6_checkWithinMap 25 = .ok (.dup, 1) := by decide +kernel
theorem dX6_checkWithinMap_26 : decode cX6_checkWithinMap 26 = .ok (.ldc_w 316, 3) := by decide +kernel
theorem dX6_checkWithinMap_29 : decode cX6_checkWithinMap 29 = .ok (.invokespecial 80, 3) := by decide +kernel
theorem dX6_checkWithinMap_32 : decode cX6_checkWithinMap 32 = .ok (.athrow, 1) := by decide +kernel
theorem dX6_checkWithinMap_33 : decode cX6_checkWithinMap 33 = .ok (.return_, 1) := by decide +kernel
theorem dX6_checkSize_0 : decode cX6_checkSize 0 = .ok (.aload_n 0, 1) := by decide +kernel
theorem dX6_checkSize_1 : decode cX6_checkSize 1 = .ok (.getfield 252, 3) := by decide +kernel
theorem dX6_checkSize_4 : decode cX6_checkSize 4 = .ok (.ifCond .eq 7, 3) := by decide +kernel
theorem dX6_checkSize_7 : decode cX6_checkSize 7 = .ok (.iconst 1, 1) := by decide +kernel
theorem dX6_checkSize_8 : decode cX6_checkSize 8 = .ok (.goto 4, 3) := by decide +kernel
theorem dX6_checkSize_11 : decode cX6_checkSize 11 = .ok (.iconst 2, 1) := by decide +kernel
theorem dX6_checkSize_12 : decode cX6_checkSize 12 = .ok (.istore_n 2, 1) := by decide +kernel
theorem dX6_checkSize_13 : decode cX6_checkSize 13 = .ok (.iload_n 1, 1) := by decide +kernel
theorem dX6_checkSize_14 : decode cX6_checkSize 14 = .ok (.iload_n 2, 1) := by decide +kernel
theorem dX6_checkSize_15 : decode cX6_checkSize 15 = .ok (.if_icmp .lt 9, 3) := by decide +kernel
theorem dX6_checkSize_18 : decode cX6_checkSize 18 = .ok (.iload_n 1, 1) := by decide +kernel
theorem dX6_checkSize_19 : decode cX6_checkSize 19 = .ok (.bipush 8, 2) := by decide +kernel
theorem dX6_checkSize_21 : decode cX6_checkSize 21 = .ok (.if_icmp .le 14, 3) := by decide +kernel
theorem dX6_checkSize_24 : decode cX6_checkSize 24 = .ok (.new 76, 3) := by decide +kernel
theorem dX6_checkSize_27 : decode cX6_checkSize 27 = .ok (.dup, 1) := by decide +kernel
theorem dX6_checkSize_28 : decode cX6_checkSize 28 = .ok (.ldc_w 318, 3) := by decide +kernel
theorem dX6_checkSize_31 : decode cX6_checkSize 31 = .ok (.invokespecial 80, 3) := by decide +kernel
theorem dX6_checkSize_34 : decode cX6_checkSize 34 = .ok (.athrow, 1) := by decide +kernel
theorem dX6_checkSize_35 : decode cX6_checkSize 35 = .ok (.return_, 1) := by decide +kernel
theorem dX6_checkFar_0 : decode cX6_checkFar 0 = .ok (.iload_n 0, 1) := by decide +kernel
theorem dX6_checkFar_1 : decode cX6_checkFar 1 = .ok (.ifCond .lt 10, 3) := by decide +kernel
theorem dX6_checkFar_4 : decode cX6_checkFar 4 = .ok (.iload_n 0, 1) := by decide +kernel
theorem dX6_checkFar_5 : decode cX6_checkFar 5 = .ok (.ldc_w 320, 3) := by decide +kernel
theorem dX6_checkFar_8 : decode cX6_checkFar 8 = .ok (.if_icmp .le 14, 3) := by decide +kernel
theorem dX6_checkFar_11 : decode cX6_checkFar 11 = .ok (.new 76, 3) := by decide +kernel
theorem dX6_checkFar_14 : decode cX6_checkFar 14 = .ok (.dup, 1) := by decide +kernel
theorem dX6_checkFar_15 : decode cX6_checkFar 15 = .ok (.ldc_w 321, 3) := by decide +kernel
theorem dX6_checkFar_18 : decode cX6_checkFar 18 = .ok (.invokespecial 80, 3) := by decide +kernel
theorem dX6_checkFar_21 : decode cX6_checkFar 21 = .ok (.athrow, 1) := by decide +kernel
theorem dX6_checkFar_22 : decode cX6_checkFar 22 = .ok (.return_, 1) := by decide +kernel
theorem dX6_checkRoomFor_0 : decode cX6_checkRoomFor 0 = .ok (.aload_n 0, 1) := by decide +kernel
theorem dX6_checkRoomFor_1 : decode cX6_checkRoomFor 1 = .ok (.getfield 10, 3) := by decide +kernel
theorem dX6_checkRoomFor_4 : decode cX6_checkRoomFor 4 = .ok (.getfield 106, 3) := by decide +kernel
theorem dX6_checkRoomFor_7 : decode cX6_checkRoomFor 7 = .ok (.iload_n 1, 1) := by decide +kernel
theorem dX6_checkRoomFor_8 : decode cX6_checkRoomFor 8 = .ok (.iadd, 1) := by decide +kernel
theorem dX6_checkRoomFor_9 : decode cX6_checkRoomFor 9 = .ok (.bipush 80, 2) := by decide +kernel
theorem dX6_checkRoomFor_11 : decode cX6_checkRoomFor 11 = .ok (.if_icmp .le 14, 3) := by decide +kernel
theorem dX6_checkRoomFor_14 : decode cX6_checkRoomFor 14 = .ok (.new 40, 3) := by decide +kernel
theorem dX6_checkRoomFor_17 : decode cX6_checkRoomFor 17 = .ok (.dup, 1) := by decide +kernel
theorem dX6_checkRoomFor_18 : decode cX6_checkRoomFor 18 = .ok (.ldc_w 323, 3) := by decide +kernel
theorem dX6_checkRoomFor_21 : decode cX6_checkRoomFor 21 = .ok (.invokespecial 44, 3) := by decide +kernel
theorem dX6_checkRoomFor_24 : decode cX6_checkRoomFor 24 = .ok (.athrow, 1) := by decide +kernel
theorem dX6_checkRoomFor_25 : decode cX6_checkRoomFor 25 = .ok (.return_, 1) := by decide +kernel
theorem dX6_keyOfNearest_0 : decode cX6_keyOfNearest 0 = .ok (.aload_n 0, 1) := by decide +kernel
theorem dX6_keyOfNearest_1 : decode cX6_keyOfNearest 1 = .ok (.iload_n 1, 1) := by decide +kernel
theorem dX6_keyOfNearest_2 : decode cX6_keyOfNearest 2 = .ok (.invokevirtual 57, 3) := by decide +kernel
theorem dX6_keyOfNearest_5 : decode cX6_keyOfNearest 5 = .ok (.astore 5, 2) := by decide +kernel
theorem dX6_keyOfNearest_7 : decode cX6_keyOfNearest 7 = .ok (.iload_n 2, 1) := by decide +kernel
theorem dX6_keyOfNearest_8 : decode cX6_keyOfNearest 8 = .ok (.iload_n 3, 1) := by decide +kernel
theorem dX6_keyOfNearest_9 : decode cX6_keyOfNearest 9 = .ok (.invokestatic 72, 3) := by decide +kernel
theorem dX6_keyOfNearest_12 : decode cX6_keyOfNearest 12 = .ok (.iload 4, 2) := by decide +kernel
theorem dX6_keyOfNearest_14 : decode cX6_keyOfNearest 14 = .ok (.iconst 1, 1) := by decide +kernel
theorem dX6_keyOfNearest_15 : decode cX6_keyOfNearest 15 = .ok (.if_icmp .lt 10, 3) := by decide +kernel
theorem dX6_keyOfNearest_18 : decode cX6_keyOfNearest 18 = .ok (.iload 4, 2) := by decide +kernel
theorem dX6_keyOfNearest_20 : decode cX6_keyOfNearest 20 = .ok (.bipush 80, 2) := by decide +kernel
theorem dX6_keyOfNearest_22 : decode cX6_keyOfNearest 22 = .ok (.if_icmp .le 14, 3) := by decide +kernel
theorem dX6_keyOfNearest_25 : decode cX6_keyOfNearest 25 = .ok (.new 76, 3) := by decide +kernel
theorem dX6_keyOfNearest_28 : decode cX6_keyOfNearest 28 = .ok (.dup, 1) := by decide +kernel
theorem dX6_keyOfNearest_29 : decode cX6_keyOfNearest 29 = .ok (.ldc_w 325, 3) := by decide +kernel
theorem dX6_keyOfNearest_32 : decode cX6_keyOfNearest 32 = .ok (.invokespecial 80, 3) := by decide +kernel
theorem dX6_keyOfNearest_35 : decode cX6_keyOfNearest 35 = .ok (.athrow, 1) := by decide +kernel
theorem dX6_keyOfNearest_36 : decode cX6_keyOfNearest 36 = .ok (.aload_n 0, 1) := by decide +kernel
theorem dX6_keyOfNearest_37 : decode cX6_keyOfNearest 37 = .ok (.getfield 10, 3) := by decide +kernel
theorem dX6_keyOfNearest_40 : decode cX6_keyOfNearest 40 = .ok (.aload 5, 2) := by decide +kernel
theorem dX6_keyOfNearest_42 : decode cX6_keyOfNearest 42 = .ok (.getfield 54, 3) := by decide +kernel
theorem dX6_keyOfNearest_45 : decode cX6_keyOfNearest 45 = .ok (.iload_n 2, 1) := by decide +kernel
theorem dX6_keyOfNearest_46 : decode cX6_keyOfNearest 46 = .ok (.iload_n 3, 1) := by decide +kernel
theorem dX6_keyOfNearest_47 : decode cX6_keyOfNearest 47 = .ok (.invokevirtual 327, 3) := by decide +kernel
theorem dX6_keyOfNearest_50 : decode cX6_keyOfNearest 50 = .ok (.istore 6, 2) := by decide +kernel
theorem dX6_keyOfNearest_52 : decode cX6_keyOfNearest 52 = .ok (.iload 4, 2) := by decide +kernel
theorem dX6_keyOfNearest_54 : decode cX6_keyOfNearest 54 = .ok (.iload 6, 2) := by decide +kernel
theorem dX6_keyOfNearest_56 : decode cX6_keyOfNearest 56 = .ok (.if_icmp .le 7, 3) := by decide +kernel
theorem dX6_keyOfNearest_59 : decode cX6_keyOfNearest 59 = .ok (.iconst (-1), 1) := by decide +kernel
theorem dX6_keyOfNearest_60 : decode cX6_keyOfNearest 60 = .ok (.goto 17, 3) := by decide +kernel
theorem dX6_keyOfNearest_63 : decode cX6_keyOfNearest 63 = .ok (.aload_n 0, 1) := by decide +kernel
theorem dX6_keyOfNearest_64 : decode cX6_keyOfNearest 64 = .ok (.getfield 10, 3) := by decide +kernel
theorem dX6_keyOfNearest_67 : decode cX6_keyOfNearest 67 = .ok (.getfield 330, 3) := by decide +kernel
theorem dX6_keyOfNearest_70 : decode cX6_keyOfNearest 70 = .ok (.iload 4, 2) := by decide +kernel
theorem dX6_keyOfNearest_72 : decode cX6_keyOfNearest 72 = .ok (.iconst 1, 1) := by decide +kernel
theorem dX6_keyOfNearest_73 : decode cX6_keyOfNearest 73 = .ok (.isub, 1) := by decide +kernel
theorem dX6_keyOfNearest_74 : decode cX6_keyOfNearest 74 = .ok (.invokevirtual 116, 3) := by decide +kernel
theorem dX6_keyOfNearest_77 : decode cX6_keyOfNearest 77 = .ok (.ireturn, 1) := by decide +kernel
theorem dX6_countVisitedPairs_0 : decode cX6_countVisitedPairs 0 = .ok (.iload 5, 2) := by decide +kernel
theorem dX6_countVisitedPairs_2 : decode cX6_countVisitedPairs 2 = .ok (.bipush 11, 2) := by decide +kernel
theorem dX6_countVisitedPairs_4 : decode cX6_countVisitedPairs 4 = .ok (.if_icmp .lt 5, 3) := by decide +kernel
theorem dX6_countVisitedPairs_7 : decode cX6_countVisitedPairs 7 = .ok (.iconst 0, 1) := by decide +kernel
theorem dX6_countVisitedPairs_8 : decode cX6_countVisitedPairs 8 = .ok (.ireturn, 1) := by decide +kernel
theorem dX6_countVisitedPairs_9 : decode cX6_countVisitedPairs 9 = .ok (.aload_n 0, 1) := by decide +kernel
theorem dX6_countVisitedPairs_10 : decode cX6_countVisitedPairs 10 = .ok (.getfield 197, 3) := by decide +kernel
theorem dX6_countVisitedPairs_13 : decode cX6_countVisitedPairs 13 = .ok (.iload_n 1, 1) := by decide +kernel
theorem dX6_countVisitedPairs_14 : decode cX6_countVisitedPairs 14 = .ok (.invokevirtual 116, 3) := by decide +kernel
theorem dX6_countVisitedPairs_17 : decode cX6_countVisitedPairs 17 = .ok (.istore 6, 2) := by decide +kernel
theorem dX6_countVisitedPairs_19 : decode cX6_countVisitedPairs 19 = .ok (.aload_n 2, 1) := by decide +kernel
theorem dX6_countVisitedPairs_20 : decode cX6_countVisitedPairs 20 = .ok (.getfield 197, 3) := by decide +kernel
theorem dX6_countVisitedPairs_23 : decode cX6_countVisitedPairs 23 = .ok (.iload_n 3, 1) := by decide +kernel
theorem dX6_countVisitedPairs_24 : decode cX6_countVisitedPairs 24 = .ok (.invokevirtual 116, 3) := by decide +kernel
theorem dX6_countVisitedPairs_27 : decode cX6_countVisitedPairs 27 = .ok (.istore 7, 2) := by decide +kernel
theorem dX6_countVisitedPairs_29 : decode cX6_countVisitedPairs 29 = .ok (.iload 6, 2) := by decide +kernel
theorem dX6_countVisitedPairs_31 : decode cX6_countVisitedPairs 31 = .ok (.ifCond .ne 8, 3) := by decide +kernel
theorem dX6_countVisitedPairs_34 : decode cX6_countVisitedPairs 34 = .ok (.iload 7, 2) := by decide +kernel
theorem dX6_countVisitedPairs_36 : decode cX6_countVisitedPairs 36 = .ok (.ifCond .eq 21, 3) := by decide +kernel
theorem dX6_countVisitedPairs_39 : decode cX6_countVisitedPairs 39 = .ok (.aload_n 0, 1) := by decide +kernel
theorem dX6_countVisitedPairs_40 : decode cX6_countVisitedPairs 40 = .ok (.getfield 172, 3) := by decide +kernel
theorem dX6_countVisitedPairs_43 : decode cX6_countVisitedPairs 43 = .ok (.iload_n 1, 1) := by decide +kernel
theorem dX6_countVisitedPairs_44 : decode cX6_countVisitedPairs 44 = .ok (.aload_n 2, 1) := by decide +kernel
theorem dX6_countVisitedPairs_45 : decode cX6_countVisitedPairs 45 = .ok (.getfield 172, 3) := by decide +kernel
theorem dX6_countVisitedPairs_48 : decode cX6_countVisitedPairs 48 = .ok (.iload_n 3, 1) := by decide +kernel
theorem dX6_countVisitedPairs_49 : decode cX6_countVisitedPairs 49 = .ok (.invokevirtual 342, 3) := by decide +kernel
theorem dX6_countVisitedPairs_52 : decode cX6_countVisitedPairs 52 = .ok (.iload 4, 2) := by decide +kernel
theorem dX6_countVisitedPairs_54 : decode cX6_countVisitedPairs 54 = .ok (.if_icmp .le 5, 3) := by decide +kernel
theorem dX6_countVisitedPairs_57 : decode cX6_countVisitedPairs 57 = .ok (.iconst 1, 1) := by decide +kernel
theorem dX6_countVisitedPairs_58 : decode cX6_countVisitedPairs 58 = .ok (.ireturn, 1) := by decide +kernel
theorem dX6_countVisitedPairs_59 : decode cX6_countVisitedPairs 59 = .ok (.iconst 1, 1) := by decide +kernel
theorem dX6_countVisitedPairs_60 : decode cX6_countVisitedPairs 60 = .ok (.istore 8, 2) := by decide +kernel
theorem dX6_countVisitedPairs_62 : decode cX6_countVisitedPairs 62 = .ok (.iconst 0, 1) := by decide +kernel
theorem dX6_countVisitedPairs_63 : decode cX6_countVisitedPairs 63 = .ok (.istore 9, 2) := by decide +kernel
theorem dX6_countVisitedPairs_65 : decode cX6_countVisitedPairs 65 = .ok (.iload 9, 2) := by decide +kernel
theorem dX6_countVisitedPairs_67 : decode cX6_countVisitedPairs 67 = .ok (.ifCond .eq 10, 3) := by decide +kernel
theorem dX6_countVisitedPairs_70 : decode cX6_countVisitedPairs 70 = .ok (.iload 9, 2) := by decide +kernel
theorem dX6_countVisitedPairs_72 : decode cX6_countVisitedPairs 72 = .ok (.iload 6, 2) := by decide +kernel
theorem dX6_countVisitedPairs_74 : decode cX6_countVisitedPairs 74 = .ok (.if_icmp .ge 86, 3) := by decide +kernel
theorem dX6_countVisitedPairs_77 : decode cX6_countVisitedPairs 77 = .ok (.iload 6, 2) := by decide +kernel
theorem dX6_countVisitedPairs_79 : decode cX6_countVisitedPairs 79 = .ok (.ifCond .ne 7, 3) := by decide +kernel
theorem dX6_countVisitedPairs_82 : decode cX6_countVisitedPairs 82 = .ok (.iload_n 1, 1) := by decide +kernel
theorem dX6_countVisitedPairs_83 : decode cX6_countVisitedPairs 83 = .ok (.goto 10, 3) := by decide +kernel
theorem dX6_countVisitedPairs_86 : decode cX6_countVisitedPairs 86 = .ok (.aload_n 0, 1) := by decide +kernel
theorem dX6_countVisitedPairs_87 : decode cX6_countVisitedPairs 87 = .ok (.iload_n 1, 1) := by decide +kernel
theorem dX6_countVisitedPairs_88 : decode cX6_countVisitedPairs 88 = .ok (.iload 9, 2) := by decide +kernel
theorem dX6_countVisitedPairs_90 : decode cX6_countVisitedPairs 90 = .ok (.invokevirtual 346, 3) := by decide +kernel
theorem dX6_countVisitedPairs_93 : decode cX6_countVisitedPairs 93 = .ok (.istore 10, 2) := by decide +kernel
theorem dX6_countVisitedPairs_95 : decode cX6_countVisitedPairs 95 = .ok (.iconst 0, 1) := by decide +kernel
theorem dX6_countVisitedPairs_96 : decode cX6_countVisitedPairs 96 = .ok (.istore 11, 2) := by decide +kernel
theorem dX6_countVisitedPairs_98 : decode cX6_countVisitedPairs 98 = .ok (.iload 11, 2) := by decide +kernel
theorem dX6_countVisitedPairs_100 : decode cX6_countVisitedPairs 100 = .ok (.ifCond .eq 10, 3) := by decide +kernel
theorem dX6_countVisitedPairs_103 : decode cX6_countVisitedPairs 103 = .ok (.iload 11, 2) := by decide +kernel
theorem dX6_countVisitedPairs_105 : decode cX6_countVisitedPairs 105 = .ok (.iload 7, 2) := by decide +kernel
theorem dX6_countVisitedPairs_107 : decode cX6_countVisitedPairs 107 = .ok (.if_icmp .ge 47, 3) := by decide +kernel
theorem dX6_countVisitedPairs_110 : decode cX6_countVisitedPairs 110 = .ok (.iload 7, 2) := by decide +kernel
theorem dX6_countVisitedPairs_112 : decode cX6_countVisitedPairs 112 = .ok (.ifCond .ne 7, 3) := by decide +kernel
theorem dX6_countVisitedPairs_115 : decode cX6_countVisitedPairs 115 = .ok (.iload_n 3, 1) := by decide +kernel
theorem dX6_countVisitedPairs_116 : decode cX6_countVisitedPairs 116 = .ok (.goto 10, 3) := by decide +kernel
theorem dX6_countVisitedPairs_119 : decode cX6_countVisitedPairs 119 = .ok (.aload_n 2, 1) := by decide +kernel
theorem dX6_countVisitedPairs_120 : decode cX6_countVisitedPairs 120 = .ok (.iload_n 3, 1) := by decide +kernel
theorem dX6_countVisitedPairs_121 : decode cX6_countVisitedPairs 121 = .ok (.iload 11, 2) := by decide +kernel
theorem dX6_countVisitedPairs_123 : decode cX6_countVisitedPairs 123 = .ok (.invokevirtual 346, 3) := by decide +kernel
theorem dX6_countVisitedPairs_126 : decode cX6_countVisitedPairs 126 = .ok (.istore 12, 2) := by decide +kernel
theorem dX6_countVisitedPairs_128 : decode cX6_countVisitedPairs 128 = .ok (.iload 8, 2) := by decide +kernel
theorem dX6_countVisitedPairs_130 : decode cX6_countVisitedPairs 130 = .ok (.aload_n 0, 1) := by decide +kernel
theorem dX6_countVisitedPairs_131 : decode cX6_countVisitedPairs 131 = .ok (.iload 10, 2) := by decide +kernel
theorem dX6_countVisitedPairs_133 : decode cX6_countVisitedPairs 133 = .ok (.aload_n 2, 1) := by decide +kernel
theorem dX6_countVisitedPairs_134 : decode cX6_countVisitedPairs 134 = .ok (.iload 12, 2) := by decide +kernel
theorem dX6_countVisitedPairs_136 : decode cX6_countVisitedPairs 136 = .ok (.iload 4, 2) := by decide +kernel
theorem dX6_countVisitedPairs_138 : decode cX6_countVisitedPairs 138 = .ok (.iload 5, 2) := by decide +kernel
theorem dX6_countVisitedPairs_140 : decode cX6_countVisitedPairs 140 = .ok (.iconst 1, 1) := by decide +kernel
theorem dX6_countVisitedPairs_141 : decode cX6_countVisitedPairs 141 = .ok (.iadd, 1) := by decide +kernel
theorem dX6_countVisitedPairs_142 : decode cX6_countVisitedPairs 142 = .ok (.invokestatic 220, 3) := by decide +kernel
theorem dX6_countVisitedPairs_145 : decode cX6_countVisitedPairs 145 = .ok (.iadd, 1) := by decide +kernel
theorem dX6_countVisitedPairs_146 : decode cX6_countVisitedPairs 146 = .ok (.istore 8, 2) := by decide +kernel
theorem dX6_countVisitedPairs_148 : decode cX6_countVisitedPairs 148 = .ok (.iinc 11 1, 3) := by decide +kernel
theorem dX6_countVisitedPairs_151 : decode cX6_countVisitedPairs 151 = .ok (.goto (-53), 3) := by decide +kernel
theorem dX6_countVisitedPairs_154 : decode cX6_countVisitedPairs 154 = .ok (.iinc 9 1, 3) := by decide +kernel
theorem dX6_countVisitedPairs_157 : decode cX6_countVisitedPairs 157 = .ok (.goto (-92), 3) := by decide +kernel
theorem dX6_countVisitedPairs_160 : decode cX6_countVisitedPairs 160 = .ok (.iload 8, 2) := by decide +kernel
theorem dX6_countVisitedPairs_162 : decode cX6_countVisitedPairs 162 = .ok (.ireturn, 1) := by decide +kernel
theorem dL_below_0 : decode cL_below 0 = .ok (.iload_n 0, 1) := by decide +kernel
theorem dL_below_1 : decode cL_below 1 = .ok (.ldc 7, 2) := by decide +kernel
theorem dL_below_3 : decode cL_below 3 = .ok (.iand, 1) := by decide +kernel
theorem dL_below_4 : decode cL_below 4 = .ok (.iload_n 1, 1) := by decide +kernel
theorem dL_below_5 : decode cL_below 5 = .ok (.irem, 1) := by decide +kernel
theorem dL_below_6 : decode cL_below 6 = .ok (.ireturn, 1) := by decide +kernel
theorem dL_cell_0 : decode cL_cell 0 = .ok (.iload_n 1, 1) := by decide +kernel
theorem dL_cell_1 : decode cL_cell 1 = .ok (.aload_n 0, 1) := by decide +kernel
theorem dL_cell_2 : decode cL_cell 2 = .ok (.arraylength, 1) := by decide +kernel
theorem dL_cell_3 : decode cL_cell 3 = .ok (.if_icmp .ge 9, 3) := by decide +kernel
theorem dL_cell_6 : decode cL_cell 6 = .ok (.aload_n 0, 1) := by decide +kernel
theorem dL_cell_7 : decode cL_cell 7 = .ok (.iload_n 1, 1) := by decide +kernel
theorem dL_cell_8 : decode cL_cell 8 = .ok (.iaload, 1) := by decide +kernel
theorem dL_cell_9 : decode cL_cell 9 = .ok (.goto 9, 3) := by decide +kernel
theorem dL_cell_12 : decode cL_cell 12 = .ok (.ldc 8, 2) := by decide +kernel
theorem dL_cell_14 : decode cL_cell 14 = .ok (.iload_n 1, 1) := by decide +kernel
theorem dL_cell_15 : decode cL_cell 15 = .ok (.iconst 3, 1) := by decide +kernel
theorem dL_cell_16 : decode cL_cell 16 = .ok (.iadd, 1) := by decide +kernel
theorem dL_cell_17 : decode cL_cell 17 = .ok (.imul, 1) := by decide +kernel
theorem dL_cell_18 : decode cL_cell 18 = .ok (.ireturn, 1) := by decide +kernel
theorem dL_law_0 : decode cL_law 0 = .ok (.new 9, 3) := by decide +kernel
theorem dL_law_3 : decode cL_law 3 = .ok (.dup, 1) := by decide +kernel
theorem dL_law_4 : decode cL_law 4 = .ok (.invokespecial 11, 3) := by decide +kernel
theorem dL_law_7 : decode cL_law 7 = .ok (.astore_n 1, 1) := by decide +kernel
theorem dL_law_8 : decode cL_law 8 = .ok (.aload_n 1, 1) := by decide +kernel
theorem dL_law_9 : decode cL_law 9 = .ok (.iconst 1, 1) := by decide +kernel
theorem dL_law_10 : decode cL_law 10 = .ok (.invokevirtual 12, 3) := by decide +kernel
theorem dL_law_13 : decode cL_law 13 = .ok (.pop, 1) := by decide +kernel
theorem dL_law_14 : decode cL_law 14 = .ok (.aload_n 1, 1) := by decide +kernel
theorem dL_law_15 : decode cL_law 15 = .ok (.iconst 0, 1) := by decide +kernel
theorem dL_law_16 : decode cL_law 16 = .ok (.invokevirtual 12, 3) := by decide +kernel
theorem dL_law_19 : decode cL_law 19 = .ok (.pop, 1) := by decide +kernel
theorem dL_law_20 : decode cL_law 20 = .ok (.iconst 0, 1) := by decide +kernel
theorem dL_law_21 : decode cL_law 21 = .ok (.istore_n 2, 1) := by decide +kernel
theorem dL_law_22 : decode cL_law 22 = .ok (.iload_n 2, 1) := by decide +kernel
theorem dL_law_23 : decode cL_law 23 = .ok (.bipush 24, 2) := by decide +kernel
theorem dL_law_25 : decode cL_law 25 = .ok (.if_icmp .ge 109, 3) := by decide +kernel
theorem dL_law_28 : decode cL_law 28 = .ok (.aload_n 0, 1) := by decide +kernel
theorem dL_law_29 : decode cL_law 29 = .ok (.iload_n 2, 1) := by decide +kernel
theorem dL_law_30 : decode cL_law 30 = .ok (.bipush 16, 2) := by decide +kernel
theorem dL_law_32 : decode cL_law 32 = .ok (.irem, 1) := by decide +kernel
theorem dL_law_33 : decode cL_law 33 = .ok (.invokestatic 16, 3) := by decide +kernel
theorem dL_law_36 : decode cL_law 36 = .ok (.iload_n 2, 1) := by decide +kernel
theorem dL_law_37 : decode cL_law 37 = .ok (.bipush 16, 2) := by decide +kernel
theorem dL_law_39 : decode cL_law 39 = .ok (.idiv, 1) := by decide +kernel
theorem dL_law_40 : decode cL_law 40 = .ok (.iconst 3, 1) := by decide +kernel
theorem dL_law_41 : decode cL_law 41 = .ok (.imul, 1) := by decide +kernel
theorem dL_law_42 : decode cL_law 42 = .ok (.ishr, 1) := by decide +kernel
theorem dL_law_43 : decode cL_law 43 = .ok (.bipush 43, 2) := by decide +kernel
theorem dL_law_45 : decode cL_law 45 = .ok (.iload_n 2, 1) := by decide +kernel
theorem dL_law_46 : decode cL_law 46 = .ok (.imul, 1) := by decide +kernel
theorem dL_law_47 : decode cL_law 47 = .ok (.iadd, 1) := by decide +kernel
theorem dL_law_48 : decode cL_law 48 = .ok (.istore_n 3, 1) := by decide +kernel
theorem dL_law_49 : decode cL_law 49 = .ok (.iload_n 2, 1) := by decide +kernel
theorem dL_law_50 : decode cL_law 50 = .ok (.iconst 2, 1) := by decide +kernel
theorem dL_law_51 : decode cL_law 51 = .ok (.irem, 1) := by decide +kernel
theorem dL_law_52 : decode cL_law 52 = .ok (.ifCond .ne 32, 3) := by decide +kernel
theorem dL_law_55 : decode cL_law 55 = .ok (.aload_n 1, 1) := by decide +kernel
theorem dL_law_56 : decode cL_law 56 = .ok (.iconst 0, 1) := by decide +kernel
theorem dL_law_57 : decode cL_law 57 = .ok (.iload_n 3, 1) := by decide +kernel
theorem dL_law_58 : decode cL_law 58 = .ok (.sipush 1024, 3) := by decide +kernel
theorem dL_law_61 : decode cL_law 61 = .ok (.invokestatic 22, 3) := by decide +kernel
theorem dL_law_64 : decode cL_law 64 = .ok (.iload_n 3, 1) := by decide +kernel
theorem dL_law_65 : decode cL_law 65 = .ok (.iconst 2, 1) := by decide +kernel
theorem dL_law_66 : decode cL_law 66 = .ok (.ishr, 1) := by decide +kernel
theorem dL_law_67 : decode cL_law 67 = .ok (.sipush 1024, 3) := by decide +kernel
theorem dL_law_70 : decode cL_law 70 = .ok (.invokestatic 22, 3) := by decide +kernel
theorem dL_law_73 : decode cL_law 73 = .ok (.iload_n 2, 1) := by decide +kernel
theorem dL_law_74 : decode cL_law 74 = .ok (.bipush 10, 2) := by decide +kernel
theorem dL_law_76 : decode cL_law 76 = .ok (.irem, 1) := by decide +kernel
theorem dL_law_77 : decode cL_law 77 = .ok (.invokevirtual 26, 3) := by decide +kernel
theorem dL_law_80 : decode cL_law 80 = .ok (.pop, 1) := by decide +kernel
theorem dL_law_81 : decode cL_law 81 = .ok (.goto 47, 3) := by decide +kernel
theorem dL_law_84 : decode cL_law 84 = .ok (.aload_n 1, 1) := by decide +kernel
theorem dL_law_85 : decode cL_law 85 = .ok (.iconst 1, 1) := by decide +kernel
theorem dL_law_86 : decode cL_law 86 = .ok (.iload_n 3, 1) := by decide +kernel
theorem dL_law_87 : decode cL_law 87 = .ok (.sipush 800, 3) := by decide +kernel
theorem dL_law_90 : decode cL_law 90 = .ok (.invokestatic 22, 3) := by decide +kernel
theorem dL_law_93 : decode cL_law 93 = .ok (.iload_n 3, 1) := by decide +kernel
theorem dL_law_94 : decode cL_law 94 = .ok (.iconst 2, 1) := by decide +kernel
theorem dL_law_95 : decode cL_law 95 = .ok (.ishr, 1) := by decide +kernel
theorem dL_law_96 : decode cL_law 96 = .ok (.sipush 800, 3) := by decide +kernel
theorem dL_law_99 : decode cL_law 99 = .ok (.invokestatic 22, 3) := by decide +kernel
theorem dL_law_102 : decode cL_law 102 = .ok (.iload_n 3, 1) := by decide +kernel
theorem dL_law_103 : decode cL_law 103 = .ok (.iconst 3, 1) := by decide +kernel
theorem dL_law_104 : decode cL_law 104 = .ok (.ishr, 1) := by decide +kernel
theorem dL_law_105 : decode cL_law 105 = .ok (.sipush 201, 3) := by decide +kernel
theorem dL_law_108 : decode cL_law 108 = .ok (.invokestatic 22, 3) := by decide +kernel
theorem dL_law_111 : decode cL_law 111 = .ok (.iload_n 3, 1) := by decide +kernel
theorem dL_law_112 : decode cL_law 112 = .ok (.iconst 4, 1) := by decide +kernel
theorem dL_law_113 : decode cL_law 113 = .ok (.ishr, 1) := by decide +kernel
theorem dL_law_114 : decode cL_law 114 = .ok (.sipush 201, 3) := by decide +kernel
theorem dL_law_117 : decode cL_law 117 = .ok (.invokestatic 22, 3) := by decide +kernel
theorem dL_law_120 : decode cL_law 120 = .ok (.iload_n 2, 1) := by decide +kernel
theorem dL_law_121 : decode cL_law 121 = .ok (.bipush 10, 2) := by decide +kernel
theorem dL_law_123 : decode cL_law 123 = .ok (.irem, 1) := by decide +kernel
theorem dL_law_124 : decode cL_law 124 = .ok (.invokevirtual 30, 3) := by decide +kernel
theorem dL_law_127 : decode cL_law 127 = .ok (.pop, 1) := by decide +kernel
theorem dL_law_128 : decode cL_law 128 = .ok (.iinc 2 1, 3) := by decide +kernel
theorem dL_law_131 : decode cL_law 131 = .ok (.goto (-109), 3) := by decide +kernel
theorem dL_law_134 : decode cL_law 134 = .ok (.aload_n 1, 1) := by decide +kernel
theorem dL_law_135 : decode cL_law 135 = .ok (.iconst 0, 1) := by decide +kernel
theorem dL_law_136 : decode cL_law 136 = .ok (.iconst 1, 1) := by decide +kernel
theorem dL_law_137 : decode cL_law 137 = .ok (.aload_n 0, 1) := by decide +kernel
theorem dL_law_138 : decode cL_law 138 = .ok (.iconst 0, 1) := by decide +kernel
theorem dL_law_139 : decode cL_law 139 = .ok (.invokestatic 16, 3) := by decide +kernel
theorem dL_law_142 : decode cL_law 142 = .ok (.bipush 8, 2) := by decide +kernel
theorem dL_law_144 : decode cL_law 144 = .ok (.invokestatic 22, 3) := by decide +kernel
theorem dL_law_147 : decode cL_law 147 = .ok (.iadd, 1) := by decide +kernel
theorem dL_law_148 : decode cL_law 148 = .ok (.invokevirtual 34, 3) := by decide +kernel
theorem dL_law_151 : decode cL_law 151 = .ok (.pop, 1) := by decide +kernel
theorem dL_law_152 : decode cL_law 152 = .ok (.aload_n 1, 1) := by decide +kernel
theorem dL_law_153 : decode cL_law 153 = .ok (.iconst 1, 1) := by decide +kernel
theorem dL_law_154 : decode cL_law 154 = .ok (.iconst 2, 1) := by decide +kernel
theorem dL_law_155 : decode cL_law 155 = .ok (.aload_n 0, 1) := by decide +kernel
theorem dL_law_156 : decode cL_law 156 = .ok (.iconst 1, 1) := by decide +kernel
theorem dL_law_157 : decode cL_law 157 = .ok (.invokestatic 16, 3) := by decide +kernel
theorem dL_law_160 : decode cL_law 160 = .ok (.bipush 7, 2) := by decide +kernel
theorem dL_law_162 : decode cL_law 162 = .ok (.invokestatic 22, 3) := by decide +kernel
theorem dL_law_165 : decode cL_law 165 = .ok (.iadd, 1) := by decide +kernel
theorem dL_law_166 : decode cL_law 166 = .ok (.invokevirtual 34, 3) := by decide +kernel
theorem dL_law_169 : decode cL_law 169 = .ok (.pop, 1) := by decide +kernel
theorem dL_law_170 : decode cL_law 170 = .ok (.aload_n 1, 1) := by decide +kernel
theorem dL_law_171 : decode cL_law 171 = .ok (.iconst 1, 1) := by decide +kernel
theorem dL_law_172 : decode cL_law 172 = .ok (.invokevirtual 37, 3) := by decide +kernel
theorem dL_law_175 : decode cL_law 175 = .ok (.pop, 1) := by decide +kernel
theorem dL_law_176 : decode cL_law 176 = .ok (.iconst 0, 1) := by decide +kernel
theorem dL_law_177 : decode cL_law 177 = .ok (.istore_n 2, 1) := by decide +kernel
theorem dL_law_178 : decode cL_law 178 = .ok (.iload_n 2, 1) := by decide +kernel
theorem dL_law_179 : decode cL_law 179 = .ok (.iconst 4, 1) := by decide +kernel
theorem dL_law_180 : decode cL_law 180 = .ok (.if_icmp .ge 834, 3) := by decide +kernel
theorem dL_law_183 : decode cL_law 183 = .ok (.aload_n 1, 1) := by decide +kernel
theorem dL_law_184 : decode cL_law 184 = .ok (.invokevirtual 41, 3) := by decide +kernel
theorem dL_law_187 : decode cL_law 187 = .ok (.lstore_n 3, 1) := by decide +kernel
theorem dL_law_188 : decode cL_law 188 = .ok (.aload_n 0, 1) := by decide +kernel
theorem dL_law_189 : decode cL_law 189 = .ok (.iconst 2, 1) := by decide +kernel
theorem dL_law_190 : decode cL_law 190 = .ok (.iload_n 2, 1) := by decide +kernel
theorem dL_law_191 : decode cL_law 191 = .ok (.iadd, 1) := by decide +kernel
theorem dL_law_192 : decode cL_law 192 = .ok (.invokestatic 16, 3) := by decide +kernel
theorem dL_law_195 : decode cL_law 195 = .ok (.sipush 1024, 3) := by decide +kernel
theorem dL_law_198 : decode cL_law 198 = .ok (.invokestatic 22, 3) := by decide +kernel
theorem dL_law_201 : decode cL_law 201 = .ok (.istore 5, 2) := by decide +kernel
theorem dL_law_203 : decode cL_law 203 = .ok (.aload_n 0, 1) := by decide +kernel
theorem dL_law_204 : decode cL_law 204 = .ok (.iconst 3, 1) := by decide +kernel
theorem dL_law_205 : decode cL_law 205 = .ok (.iload_n 2, 1) := by decide +kernel
theorem dL_law_206 : decode cL_law 206 = .ok (.iadd, 1) := by decide +kernel
theorem dL_law_207 : decode cL_law 207 = .ok (.invokestatic 16, 3) := by decide +kernel
theorem dL_law_210 : decode cL_law 210 = .ok (.sipush 1024, 3) := by decide +kernel
theorem dL_law_213 : decode cL_law 213 = .ok (.invokestatic 22, 3) := by decide +kernel
theorem dL_law_216 : decode cL_law 216 = .ok (.istore 6, 2) := by decide +kernel
theorem dL_law_218 : decode cL_law 218 = .ok (.aload_n 0, 1) := by decide +kernel
theorem dL_law_219 : decode cL_law 219 = .ok (.iconst 4, 1) := by decide +kernel
theorem dL_law_220 : decode cL_law 220 = .ok (.iload_n 2, 1) := by decide +kernel
theorem dL_law_221 : decode cL_law 221 = .ok (.iadd, 1) := by decide +kernel
theorem dL_law_222 : decode cL_law 222 = .ok (.invokestatic 16, 3) := by decide +kernel
theorem dL_law_225 : decode cL_law 225 = .ok (.sipush 600, 3) := by decide +kernel
theorem dL_law_228 : decode cL_law 228 = .ok (.invokestatic 22, 3) := by decide +kernel
theorem dL_law_231 : decode cL_law 231 = .ok (.istore 7, 2) := by decide +kernel
theorem dL_law_233 : decode cL_law 233 = .ok (.iconst 0, 1) := by decide +kernel
theorem dL_law_234 : decode cL_law 234 = .ok (.istore 8, 2) := by decide +kernel
theorem dL_law_236 : decode cL_law 236 = .ok (.iload 8, 2) := by decide +kernel
theorem dL_law_238 : decode cL_law 238 = .ok (.iconst 2, 1) := by decide +kernel
theorem dL_law_239 : decode cL_law 239 = .ok (.if_icmp .ge 506, 3) := by decide +kernel
theorem dL_law_242 : decode cL_law 242 = .ok (.aload_n 1, 1) := by decide +kernel
theorem dL_law_243 : decode cL_law 243 = .ok (.iload 8, 2) := by decide +kernel
theorem dL_law_245 : decode cL_law 245 = .ok (.invokevirtual 45, 3) := by decide +kernel
theorem dL_law_248 : decode cL_law 248 = .ok (.istore 9, 2) := by decide +kernel
theorem dL_law_250 : decode cL_law 250 = .ok (.iconst 0, 1) := by decide +kernel
theorem dL_law_251 : decode cL_law 251 = .ok (.istore 10, 2) := by decide +kernel
theorem dL_law_253 : decode cL_law 253 = .ok (.iconst 0, 1) := by decide +kernel
theorem dL_law_254 : decode cL_law 254 = .ok (.istore 11, 2) := by decide +kernel
theorem dL_law_256 : decode cL_law 256 = .ok (.iconst 1, 1) := by decide +kernel
theorem dL_law_257 : decode cL_law 257 = .ok (.istore 12, 2) := by decide +kernel
theorem dL_law_259 : decode cL_law 259 = .ok (.iload 12, 2) := by decide +kernel
theorem dL_law_261 : decode cL_law 261 = .ok (.iload 9, 2) := by decide +kernel
theorem dL_law_263 : decode cL_law 263 = .ok (.if_icmp .gt 103, 3) := by decide +kernel
theorem dL_law_266 : decode cL_law 266 = .ok (.aload_n 1, 1) := by decide +kernel
theorem dL_law_267 : decode cL_law 267 = .ok (.iload 8, 2) := by decide +kernel
theorem dL_law_269 : decode cL_law 269 = .ok (.iload 5, 2) := by decide +kernel
theorem dL_law_271 : decode cL_law 271 = .ok (.iload 6, 2) := by decide +kernel
theorem dL_law_273 : decode cL_law 273 = .ok (.iload 12, 2) := by decide +kernel
theorem dL_law_275 : decode cL_law 275 = .ok (.invokevirtual 48, 3) := by decide +kernel
theorem dL_law_278 : decode cL_law 278 = .ok (.istore 13, 2) := by decide +kernel
theorem dL_law_280 : decode cL_law 280 = .ok (.aload_n 1, 1) := by decide +kernel
theorem dL_law_281 : decode cL_law 281 = .ok (.iload 8, 2) := by decide +kernel
theorem dL_law_283 : decode cL_law 283 = .ok (.iload 5, 2) := by decide +kernel
theorem dL_law_285 : decode cL_law 285 = .ok (.iload 6, 2) := by decide +kernel
theorem dL_law_287 : decode cL_law 287 = .ok (.iload 12, 2) := by decide +kernel
theorem dL_law_289 : decode cL_law 289 = .ok (.invokevirtual 51, 3) := by decide +kernel
theorem dL_law_292 : decode cL_law 292 = .ok (.istore 14, 2) := by decide +kernel
theorem dL_law_294 : decode cL_law 294 = .ok (.aload_n 1, 1) := by decide +kernel
theorem dL_law_295 : decode cL_law 295 = .ok (.iload 8, 2) := by decide +kernel
theorem dL_law_297 : decode cL_law 297 = .ok (.iload 5, 2) := by decide +kernel
theorem dL_law_299 : decode cL_law 299 = .ok (.iload 6, 2) := by decide +kernel
theorem dL_law_301 : decode cL_law 301 = .ok (.iload 12, 2) := by decide +kernel
theorem dL_law_303 : decode cL_law 303 = .ok (.invokevirtual 54, 3) := by decide +kernel
theorem dL_law_306 : decode cL_law 306 = .ok (.istore 15, 2) := by decide +kernel
theorem dL_law_308 : decode cL_law 308 = .ok (.iload 13, 2) := by decide +kernel
theorem dL_law_310 : decode cL_law 310 = .ok (.ifCond .lt 40, 3) := by decide +kernel
theorem dL_law_313 : decode cL_law 313 = .ok (.aload_n 1, 1) := by decide +kernel
theorem dL_law_314 : decode cL_law 314 = .ok (.iload 13, 2) := by decide +kernel
theorem dL_law_316 : decode cL_law 316 = .ok (.iconst 0, 1) := by decide +kernel
theorem dL_law_317 : decode cL_law 317 = .ok (.invokevirtual 57, 3) := by decide +kernel
theorem dL_law_320 : decode cL_law 320 = .ok (.iload 8, 2) := by decide +kernel
theorem dL_law_322 : decode cL_law 322 = .ok (.if_icmp .ne 28, 3) := by decide +kernel
theorem dL_law_325 : decode cL_law 325 = .ok (.iload 14, 2) := by decide +kernel
theorem dL_law_327 : decode cL_law 327 = .ok (.iload 10, 2) := by decide +kernel
theorem dL_law_329 : decode cL_law 329 = .ok (.if_icmp .lt 21, 3) := by decide +kernel
theorem dL_law_332 : decode cL_law 332 = .ok (.iload 15, 2) := by decide +kernel
theorem dL_law_334 : decode cL_law 334 = .ok (.iload 11, 2) := by decide +kernel
theorem dL_law_336 : decode cL_law 336 = .ok (.if_icmp .lt 14, 3) := by decide +kernel
theorem dL_law_339 : decode cL_law 339 = .ok (.iload 15, 2) := by decide +kernel
theorem dL_law_341 : decode cL_law 341 = .ok (.aload_n 1, 1) := by decide +kernel
theorem dL_law_342 : decode cL_law 342 = .ok (.iload 8, 2) := by decide +kernel
theorem dL_law_344 : decode cL_law 344 = .ok (.invokevirtual 60, 3) := by decide +kernel
theorem dL_law_347 : decode cL_law 347 = .ok (.if_icmp .le 5, 3) := by decide +kernel
theorem dL_law_350 : decode cL_law 350 = .ok (.iconst 0, 1) := by decide +kernel
theorem dL_law_351 : decode cL_law 351 = .ok (.ireturn, 1) := by decide +kernel
theorem dL_law_352 : decode cL_law 352 = .ok (.iload 14, 2) := by decide +kernel
theorem dL_law_354 : decode cL_law 354 = .ok (.istore 10, 2) := by decide +kernel
theorem dL_law_356 : decode cL_law 356 = .ok (.iload 15, 2) := by decide +kernel
theorem dL_law_358 : decode cL_law 358 = .ok (.istore 11, 2) := by decide +kernel
theorem dL_law_360 : decode cL_law 360 = .ok (.iinc 12 1, 3) := by decide +kernel
theorem dL_law_363 : decode cL_law 363 = .ok (.goto (-104), 3) := by decide +kernel
theorem dL_law_366 : decode cL_law 366 = .ok (.aload_n 1, 1) := by decide +kernel
theorem dL_law_367 : decode cL_law 367 = .ok (.iload 8, 2) := by decide +kernel
theorem dL_law_369 : decode cL_law 369 = .ok (.iload 5, 2) := by decide +kernel
theorem dL_law_371 : decode cL_law 371 = .ok (.iload 6, 2) := by decide +kernel
theorem dL_law_373 : decode cL_law 373 = .ok (.iload 9, 2) := by decide +kernel
theorem dL_law_375 : decode cL_law 375 = .ok (.iconst 1, 1) := by decide +kernel
theorem dL_law_376 : decode cL_law 376 = .ok (.iadd, 1) := by decide +kernel
theorem dL_law_377 : decode cL_law 377 = .ok (.invokevirtual 48, 3) := by decide +kernel
theorem dL_law_380 : decode cL_law 380 = .ok (.iconst (-1), 1) := by decide +kernel
theorem dL_law_381 : decode cL_law 381 = .ok (.if_icmp .ne 26, 3) := by decide +kernel
theorem dL_law_384 : decode cL_law 384 = .ok (.aload_n 1, 1) := by decide +kernel
theorem dL_law_385 : decode cL_law 385 = .ok (.iload 8, 2) := by decide +kernel
theorem dL_law_387 : decode cL_law 387 = .ok (.iload 5, 2) := by decide +kernel
theorem dL_law_389 : decode cL_law 389 = .ok (.iload 6, 2) := by decide +kernel
theorem dL_law_391 : decode cL_law 391 = .ok (.iload 9, 2) := by decide +kernel
theorem dL_law_393 : decode cL_law 393 = .ok (.iconst 1, 1) := by decide +kernel
theorem dL_law_394 : decode cL_law 394 = .ok (.iadd, 1) := by decide +kernel
theorem dL_law_395 : decode cL_law 395 = .ok (.invokevirtual 54, 3) := by decide +kernel
theorem dL_law_398 : decode cL_law 398 = .ok (.aload_n 1, 1) := by decide +kernel
theorem dL_law_399 : decode cL_law 399 = .ok (.iload 8, 2) := by decide +kernel
theorem dL_law_401 : decode cL_law 401 = .ok (.invokevirtual 60, 3) := by decide +kernel
theorem dL_law_404 : decode cL_law 404 = .ok (.if_icmp .eq 5, 3) := by decide +kernel
theorem dL_law_407 : decode cL_law 407 = .ok (.iconst 0, 1) := by decide +kernel
theorem dL_law_408 : decode cL_law 408 = .ok (.ireturn, 1) := by decide +kernel
theorem dL_law_409 : decode cL_law 409 = .ok (.aload_n 1, 1) := by decide +kernel
theorem dL_law_410 : decode cL_law 410 = .ok (.iload 8, 2) := by decide +kernel
theorem dL_law_412 : decode cL_law 412 = .ok (.iload 5, 2) := by decide +kernel
theorem dL_law_414 : decode cL_law 414 = .ok (.iload 6, 2) := by decide +kernel
theorem dL_law_416 : decode cL_law 416 = .ok (.iload 7, 2) := by decide +kernel
theorem dL_law_418 : decode cL_law 418 = .ok (.iload 7, 2) := by decide +kernel
theorem dL_law_420 : decode cL_law 420 = .ok (.invokevirtual 63, 3) := by decide +kernel
theorem dL_law_423 : decode cL_law 423 = .ok (.istore 12, 2) := by decide +kernel
theorem dL_law_425 : decode cL_law 425 = .ok (.aload_n 1, 1) := by decide +kernel
theorem dL_law_426 : decode cL_law 426 = .ok (.iload 8, 2) := by decide +kernel
theorem dL_law_428 : decode cL_law 428 = .ok (.iload 5, 2) := by decide +kernel
theorem dL_law_430 : decode cL_law 430 = .ok (.iload 6, 2) := by decide +kernel
theorem dL_law_432 : decode cL_law 432 = .ok (.iload 7, 2) := by decide +kernel
theorem dL_law_434 : decode cL_law 434 = .ok (.iload 7, 2) := by decide +kernel
theorem dL_law_436 : decode cL_law 436 = .ok (.invokevirtual 67, 3) := by decide +kernel
theorem dL_law_439 : decode cL_law 439 = .ok (.iload 9, 2) := by decide +kernel
theorem dL_law_441 : decode cL_law 441 = .ok (.if_icmp .gt 91, 3) := by decide +kernel
theorem dL_law_444 : decode cL_law 444 = .ok (.iload 12, 2) := by decide +kernel
theorem dL_law_446 : decode cL_law 446 = .ok (.aload_n 1, 1) := by decide +kernel
theorem dL_law_447 : decode cL_law 447 = .ok (.iload 8, 2) := by decide +kernel
theorem dL_law_449 : decode cL_law 449 = .ok (.invokevirtual 60, 3) := by decide +kernel
theorem dL_law_452 : decode cL_law 452 = .ok (.if_icmp .gt 80, 3) := by decide +kernel
theorem dL_law_455 : decode cL_law 455 = .ok (.aload_n 1, 1) := by decide +kernel
theorem dL_law_456 : decode cL_law 456 = .ok (.iload 8, 2) := by decide +kernel
theorem dL_law_458 : decode cL_law 458 = .ok (.iload 5, 2) := by decide +kernel
theorem dL_law_460 : decode cL_law 460 = .ok (.iload 6, 2) := by decide +kernel
theorem dL_law_462 : decode cL_law 462 = .ok (.iload 7, 2) := by decide +kernel
theorem dL_law_464 : decode cL_law 464 = .ok (.iconst 2, 1) := by decide +kernel
theorem dL_law_465 : decode cL_law 465 = .ok (.idiv, 1) := by decide +kernel
theorem dL_law_466 : decode cL_law 466 = .ok (.iload 7, 2) := by decide +kernel
theorem dL_law_468 : decode cL_law 468 = .ok (.iconst 2, 1) := by decide +kernel
theorem dL_law_469 : decode cL_law 469 = .ok (.idiv, 1) := by decide +kernel
theorem dL_law_470 : decode cL_law 470 = .ok (.invokevirtual 63, 3) := by decide +kernel
theorem dL_law_473 : decode cL_law 473 = .ok (.iload 12, 2) := by decide +kernel
theorem dL_law_475 : decode cL_law 475 = .ok (.if_icmp .gt 57, 3) := by decide +kernel
theorem dL_law_478 : decode cL_law 478 = .ok (.aload_n 1, 1) := by decide +kernel
theorem dL_law_479 : decode cL_law 479 = .ok (.iload 8, 2) := by decide +kernel
theorem dL_law_481 : decode cL_law 481 = .ok (.iload 5, 2) := by decide +kernel
theorem dL_law_483 : decode cL_law 483 = .ok (.iload 6, 2) := by decide +kernel
theorem dL_law_485 : decode cL_law 485 = .ok (.iload 7, 2) := by decide +kernel
theorem dL_law_487 : decode cL_law 487 = .ok (.iconst 2, 1) := by decide +kernel
theorem dL_law_488 : decode cL_law 488 = .ok (.idiv, 1) := by decide +kernel
theorem dL_law_489 : decode cL_law 489 = .ok (.iload 7, 2) := by decide +kernel
theorem dL_law_491 : decode cL_law 491 = .ok (.iconst 2, 1) := by decide +kernel
theorem dL_law_492 : decode cL_law 492 = .ok (.idiv, 1) := by decide +kernel
theorem dL_law_493 : decode cL_law 493 = .ok (.invokevirtual 67, 3) := by decide +kernel
theorem dL_law_496 : decode cL_law 496 = .ok (.aload_n 1, 1) := by decide +kernel
theorem dL_law_497 : decode cL_law 497 = .ok (.iload 8, 2) := by decide +kernel
theorem dL_law_499 : decode cL_law 499 = .ok (.iload 5, 2) := by decide +kernel
theorem dL_law_501 : decode cL_law 501 = .ok (.iload 6, 2) := by decide +kernel
theorem dL_law_503 : decode cL_law 503 = .ok (.iload 7, 2) := by decide +kernel
theorem dL_law_505 : decode cL_law 505 = .ok (.iload 7, 2) := by decide +kernel
theorem dL_law_507 : decode cL_law 507 = .ok (.invokevirtual 67, 3) := by decide +kernel
theorem dL_law_510 : decode cL_law 510 = .ok (.if_icmp .gt 22, 3) := by decide +kernel
theorem dL_law_513 : decode cL_law 513 = .ok (.aload_n 1, 1) := by decide +kernel
theorem dL_law_514 : decode cL_law 514 = .ok (.iload 8, 2) := by decide +kernel
theorem dL_law_516 : decode cL_law 516 = .ok (.iconst 0, 1) := by decide +kernel
theorem dL_law_517 : decode cL_law 517 = .ok (.iconst 0, 1) := by decide +kernel
theorem dL_law_518 : decode cL_law 518 = .ok (.sipush 1023, 3) := by decide +kernel
theorem dL_law_521 : decode cL_law 521 = .ok (.sipush 1023, 3) := by decide +kernel
theorem dL_law_524 : decode cL_law 524 = .ok (.invokevirtual 67, 3) := by decide +kernel
theorem dL_law_527 : decode cL_law 527 = .ok (.iload 9, 2) := by decide +kernel
theorem dL_law_529 : decode cL_law 529 = .ok (.if_icmp .eq 5, 3) := by decide +kernel
theorem dL_law_532 : decode cL_law 532 = .ok (.iconst 0, 1) := by decide +kernel
theorem dL_law_533 : decode cL_law 533 = .ok (.ireturn, 1) := by decide +kernel
theorem dL_law_534 : decode cL_law 534 = .ok (.aload_n 1, 1) := by decide +kernel
theorem dL_law_535 : decode cL_law 535 = .ok (.iload 8, 2) := by decide +kernel
theorem dL_law_537 : decode cL_law 537 = .ok (.iload 8, 2) := by decide +kernel
theorem dL_law_539 : decode cL_law 539 = .ok (.sipush 400, 3) := by decide +kernel
theorem dL_law_542 : decode cL_law 542 = .ok (.invokevirtual 70, 3) := by decide +kernel
theorem dL_law_545 : decode cL_law 545 = .ok (.istore 13, 2) := by decide +kernel
theorem dL_law_547 : decode cL_law 547 = .ok (.aload_n 1, 1) := by decide +kernel
theorem dL_law_548 : decode cL_law 548 = .ok (.iload 8, 2) := by decide +kernel
theorem dL_law_550 : decode cL_law 550 = .ok (.iload 8, 2) := by decide +kernel
theorem dL_law_552 : decode cL_law 552 = .ok (.ldc 74, 2) := by decide +kernel
theorem dL_law_554 : decode cL_law 554 = .ok (.invokevirtual 70, 3) := by decide +kernel
theorem dL_law_557 : decode cL_law 557 = .ok (.istore 14, 2) := by decide +kernel
theorem dL_law_559 : decode cL_law 559 = .ok (.aload_n 1, 1) := by decide +kernel
theorem dL_law_560 : decode cL_law 560 = .ok (.iload 8, 2) := by decide +kernel
theorem dL_law_562 : decode cL_law 562 = .ok (.sipush 400, 3) := by decide +kernel
theorem dL_law_565 : decode cL_law 565 = .ok (.invokevirtual 75, 3) := by decide +kernel
theorem dL_law_568 : decode cL_law 568 = .ok (.istore 15, 2) := by decide +kernel
theorem dL_law_570 : decode cL_law 570 = .ok (.iload 13, 2) := by decide +kernel
theorem dL_law_572 : decode cL_law 572 = .ok (.iload 14, 2) := by decide +kernel
theorem dL_law_574 : decode cL_law 574 = .ok (.if_icmp .gt 88, 3) := by decide +kernel
theorem dL_law_577 : decode cL_law 577 = .ok (.iload 14, 2) := by decide +kernel
theorem dL_law_579 : decode cL_law 579 = .ok (.iload 9, 2) := by decide +kernel
theorem dL_law_581 : decode cL_law 581 = .ok (.iload 9, 2) := by decide +kernel
theorem dL_law_583 : decode cL_law 583 = .ok (.iconst 1, 1) := by decide +kernel
theorem dL_law_584 : decode cL_law 584 = .ok (.isub, 1) := by decide +kernel
theorem dL_law_585 : decode cL_law 585 = .ok (.imul, 1) := by decide +kernel
theorem dL_law_586 : decode cL_law 586 = .ok (.iconst 2, 1) := by decide +kernel
theorem dL_law_587 : decode cL_law 587 = .ok (.idiv, 1) := by decide +kernel
theorem dL_law_588 : decode cL_law 588 = .ok (.if_icmp .ne 74, 3) := by decide +kernel
theorem dL_law_591 : decode cL_law 591 = .ok (.iload 15, 2) := by decide +kernel
theorem dL_law_593 : decode cL_law 593 = .ok (.iload 9, 2) := by decide +kernel
theorem dL_law_595 : decode cL_law 595 = .ok (.iload 13, 2) := by decide +kernel
theorem dL_law_597 : decode cL_law 597 = .ok (.isub, 1) := by decide +kernel
theorem dL_law_598 : decode cL_law 598 = .ok (.if_icmp .lt 64, 3) := by decide +kernel
theorem dL_law_601 : decode cL_law 601 = .ok (.iload 15, 2) := by decide +kernel
theorem dL_law_603 : decode cL_law 603 = .ok (.iload 9, 2) := by decide +kernel
theorem dL_law_605 : decode cL_law 605 = .ok (.if_icmp .gt 57, 3) := by decide +kernel
theorem dL_law_608 : decode cL_law 608 = .ok (.aload_n 1, 1) := by decide +kernel
theorem dL_law_609 : decode cL_law 609 = .ok (.iload 8, 2) := by decide +kernel
theorem dL_law_611 : decode cL_law 611 = .ok (.ldc 74, 2) := by decide +kernel
theorem dL_law_613 : decode cL_law 613 = .ok (.invokevirtual 75, 3) := by decide +kernel
theorem dL_law_616 : decode cL_law 616 = .ok (.iconst 1, 1) := by decide +kernel
theorem dL_law_617 : decode cL_law 617 = .ok (.iload 9, 2) := by decide +kernel
theorem dL_law_619 : decode cL_law 619 = .ok (.invokestatic 78, 3) := by decide +kernel
theorem dL_law_622 : decode cL_law 622 = .ok (.if_icmp .ne 40, 3) := by decide +kernel
theorem dL_law_625 : decode cL_law 625 = .ok (.aload_n 1, 1) := by decide +kernel
theorem dL_law_626 : decode cL_law 626 = .ok (.iload 8, 2) := by decide +kernel
theorem dL_law_628 : decode cL_law 628 = .ok (.ldc 74, 2) := by decide +kernel
theorem dL_law_630 : decode cL_law 630 = .ok (.invokevirtual 83, 3) := by decide +kernel
theorem dL_law_633 : decode cL_law 633 = .ok (.iload 9, 2) := by decide +kernel
theorem dL_law_635 : decode cL_law 635 = .ok (.if_icmp .ne 27, 3) := by decide +kernel
theorem dL_law_638 : decode cL_law 638 = .ok (.aload_n 1, 1) := by decide +kernel
theorem dL_law_639 : decode cL_law 639 = .ok (.iload 8, 2) := by decide +kernel
theorem dL_law_641 : decode cL_law 641 = .ok (.sipush 400, 3) := by decide +kernel
theorem dL_law_644 : decode cL_law 644 = .ok (.invokevirtual 83, 3) := by decide +kernel
theorem dL_law_647 : decode cL_law 647 = .ok (.iload 9, 2) := by decide +kernel
theorem dL_law_649 : decode cL_law 649 = .ok (.iload 15, 2) := by decide +kernel
theorem dL_law_651 : decode cL_law 651 = .ok (.isub, 1) := by decide +kernel
theorem dL_law_652 : decode cL_law 652 = .ok (.iconst 1, 1) := by decide +kernel
theorem dL_law_653 : decode cL_law 653 = .ok (.iadd, 1) := by decide +kernel
theorem dL_law_654 : decode cL_law 654 = .ok (.if_icmp .le 10, 3) := by decide +kernel
theorem dL_law_657 : decode cL_law 657 = .ok (.iload 9, 2) := by decide +kernel
theorem dL_law_659 : decode cL_law 659 = .ok (.ifCond .le 5, 3) := by decide +kernel
theorem dL_law_662 : decode cL_law 662 = .ok (.iconst 0, 1) := by decide +kernel
theorem dL_law_663 : decode cL_law 663 = .ok (.ireturn, 1) := by decide +kernel
theorem dL_law_664 : decode cL_law 664 = .ok (.aload_n 1, 1) := by decide +kernel
theorem dL_law_665 : decode cL_law 665 = .ok (.iload 8, 2) := by decide +kernel
theorem dL_law_667 : decode cL_law 667 = .ok (.bipush 8, 2) := by decide +kernel
theorem dL_law_669 : decode cL_law 669 = .ok (.invokevirtual 86, 3) := by decide +kernel
theorem dL_law_672 : decode cL_law 672 = .ok (.aload_n 1, 1) := by decide +kernel
theorem dL_law_673 : decode cL_law 673 = .ok (.iload 8, 2) := by decide +kernel
theorem dL_law_675 : decode cL_law 675 = .ok (.iconst 2, 1) := by decide +kernel
theorem dL_law_676 : decode cL_law 676 = .ok (.invokevirtual 86, 3) := by decide +kernel
theorem dL_law_679 : decode cL_law 679 = .ok (.if_icmp .gt 58, 3) := by decide +kernel
theorem dL_law_682 : decode cL_law 682 = .ok (.aload_n 1, 1) := by decide +kernel
theorem dL_law_683 : decode cL_law 683 = .ok (.iload 8, 2) := by decide +kernel
theorem dL_law_685 : decode cL_law 685 = .ok (.iconst 1, 1) := by decide +kernel
theorem dL_law_686 : decode cL_law 686 = .ok (.iload 8, 2) := by decide +kernel
theorem dL_law_688 : decode cL_law 688 = .ok (.isub, 1) := by decide +kernel
theorem dL_law_689 : decode cL_law 689 = .ok (.ldc 74, 2) := by decide +kernel
theorem dL_law_691 : decode cL_law 691 = .ok (.invokevirtual 70, 3) := by decide +kernel
theorem dL_law_694 : decode cL_law 694 = .ok (.iload 9, 2) := by decide +kernel
theorem dL_law_696 : decode cL_law 696 = .ok (.aload_n 1, 1) := by decide +kernel
theorem dL_law_697 : decode cL_law 697 = .ok (.iconst 1, 1) := by decide +kernel
theorem dL_law_698 : decode cL_law 698 = .ok (.iload 8, 2) := by decide +kernel
theorem dL_law_700 : decode cL_law 700 = .ok (.isub, 1) := by decide +kernel
theorem dL_law_701 : decode cL_law 701 = .ok (.invokevirtual 45, 3) := by decide +kernel
theorem dL_law_704 : decode cL_law 704 = .ok (.imul, 1) := by decide +kernel
theorem dL_law_705 : decode cL_law 705 = .ok (.if_icmp .ne 32, 3) := by decide +kernel
theorem dL_law_708 : decode cL_law 708 = .ok (.aload_n 1, 1) := by decide +kernel
theorem dL_law_709 : decode cL_law 709 = .ok (.iload 8, 2) := by decide +kernel
theorem dL_law_711 : decode cL_law 711 = .ok (.iconst 1, 1) := by decide +kernel
theorem dL_law_712 : decode cL_law 712 = .ok (.iload 8, 2) := by decide +kernel
theorem dL_law_714 : decode cL_law 714 = .ok (.isub, 1) := by decide +kernel
theorem dL_law_715 : decode cL_law 715 = .ok (.sipush 900, 3) := by decide +kernel
theorem dL_law_718 : decode cL_law 718 = .ok (.invokevirtual 89, 3) := by decide +kernel
theorem dL_law_721 : decode cL_law 721 = .ok (.aload_n 1, 1) := by decide +kernel
theorem dL_law_722 : decode cL_law 722 = .ok (.iconst 1, 1) := by decide +kernel
theorem dL_law_723 : decode cL_law 723 = .ok (.iload 8, 2) := by decide +kernel
theorem dL_law_725 : decode cL_law 725 = .ok (.isub, 1) := by decide +kernel
theorem dL_law_726 : decode cL_law 726 = .ok (.iload 8, 2) := by decide +kernel
theorem dL_law_728 : decode cL_law 728 = .ok (.sipush 900, 3) := by decide +kernel
theorem dL_law_731 : decode cL_law 731 = .ok (.invokevirtual 89, 3) := by decide +kernel
theorem dL_law_734 : decode cL_law 734 = .ok (.if_icmp .eq 5, 3) := by decide +kernel
theorem dL_law_737 : decode cL_law 737 = .ok (.iconst 0, 1) := by decide +kernel
theorem dL_law_738 : decode cL_law 738 = .ok (.ireturn, 1) := by decide +kernel
theorem dL_law_739 : decode cL_law 739 = .ok (.iinc 8 1, 3) := by decide +kernel
theorem dL_law_742 : decode cL_law 742 = .ok (.goto (-506), 3) := by decide +kernel
theorem dL_law_745 : decode cL_law 745 = .ok (.iconst 0, 1) := by decide +kernel
theorem dL_law_746 : decode cL_law 746 = .ok (.istore 8, 2) := by decide +kernel
theorem dL_law_748 : decode cL_law 748 = .ok (.iconst 0, 1) := by decide +kernel
theorem dL_law_749 : decode cL_law 749 = .ok (.istore 9, 2) := by decide +kernel
theorem dL_law_751 : decode cL_law 751 = .ok (.iload 9, 2) := by decide +kernel
theorem dL_law_753 : decode cL_law 753 = .ok (.aload_n 1, 1) := by decide +kernel
theorem dL_law_754 : decode cL_law 754 = .ok (.invokevirtual 92, 3) := by decide +kernel
theorem dL_law_757 : decode cL_law 757 = .ok (.if_icmp .ge 70, 3) := by decide +kernel
theorem dL_law_760 : decode cL_law 760 = .ok (.aload_n 1, 1) := by decide +kernel
theorem dL_law_761 : decode cL_law 761 = .ok (.iload 9, 2) := by decide +kernel
theorem dL_law_763 : decode cL_law 763 = .ok (.invokestatic 96, 3) := by decide +kernel
theorem dL_law_766 : decode cL_law 766 = .ok (.ifCond .eq 6, 3) := by decide +kernel
theorem dL_law_769 : decode cL_law 769 = .ok (.goto 52, 3) := by decide +kernel
theorem dL_law_772 : decode cL_law 772 = .ok (.iload 8, 2) := by decide +kernel
theorem dL_law_774 : decode cL_law 774 = .ok (.aload_n 1, 1) := by decide +kernel
theorem dL_law_775 : decode cL_law 775 = .ok (.iload 9, 2) := by decide +kernel
theorem dL_law_777 : decode cL_law 777 = .ok (.bipush 6, 2) := by decide +kernel
theorem dL_law_779 : decode cL_law 779 = .ok (.invokevirtual 57, 3) := by decide +kernel
theorem dL_law_782 : decode cL_law 782 = .ok (.iadd, 1) := by decide +kernel
theorem dL_law_783 : decode cL_law 783 = .ok (.istore 8, 2) := by decide +kernel
theorem dL_law_785 : decode cL_law 785 = .ok (.aload_n 1, 1) := by decide +kernel
theorem dL_law_786 : decode cL_law 786 = .ok (.iload 9, 2) := by decide +kernel
theorem dL_law_788 : decode cL_law 788 = .ok (.iconst 0, 1) := by decide +kernel
theorem dL_law_789 : decode cL_law 789 = .ok (.invokevirtual 57, 3) := by decide +kernel
theorem dL_law_792 : decode cL_law 792 = .ok (.ifCond .ne 29, 3) := by decide +kernel
theorem dL_law_795 : decode cL_law 795 = .ok (.aload_n 1, 1) := by decide +kernel
theorem dL_law_796 : decode cL_law 796 = .ok (.iconst 0, 1) := by decide +kernel
theorem dL_law_797 : decode cL_law 797 = .ok (.aload_n 1, 1) := by decide +kernel
theorem dL_law_798 : decode cL_law 798 = .ok (.iload 9, 2) := by decide +kernel
theorem dL_law_800 : decode cL_law 800 = .ok (.iconst 1, 1) := by decide +kernel
theorem dL_law_801 : decode cL_law 801 = .ok (.invokevirtual 57, 3) := by decide +kernel
theorem dL_law_804 : decode cL_law 804 = .ok (.aload_n 1, 1) := by decide +kernel
theorem dL_law_805 : decode cL_law 805 = .ok (.iload 9, 2) := by decide +kernel
theorem dL_law_807 : decode cL_law 807 = .ok (.iconst 2, 1) := by decide +kernel
theorem dL_law_808 : decode cL_law 808 = .ok (.invokevirtual 57, 3) := by decide +kernel
theorem dL_law_811 : decode cL_law 811 = .ok (.iconst 3, 1) := by decide +kernel
theorem dL_law_812 : decode cL_law 812 = .ok (.invokevirtual 100, 3) := by decide +kernel
theorem dL_law_815 : decode cL_law 815 = .ok (.iconst 1, 1) := by decide +kernel
theorem dL_law_816 : decode cL_law 816 = .ok (.if_icmp .ge 5, 3) := by decide +kernel
theorem dL_law_819 : decode cL_law 819 = .ok (.iconst 0, 1) := by decide +kernel
theorem dL_law_820 : decode cL_law 820 = .ok (.ireturn, 1) := by decide +kernel
theorem dL_law_821 : decode cL_law 821 = .ok (.iinc 9 1, 3) := by decide +kernel
theorem dL_law_824 : decode cL_law 824 = .ok (.goto (-73), 3) := by decide +kernel
theorem dL_law_827 : decode cL_law 827 = .ok (.iconst 0, 1) := by decide +kernel
theorem dL_law_828 : decode cL_law 828 = .ok (.istore 9, 2) := by decide +kernel
theorem dL_law_830 : decode cL_law 830 = .ok (.iconst 0, 1) := by decide +kernel
theorem dL_law_831 : decode cL_law 831 = .ok (.istore 10, 2) := by decide +kernel
theorem dL_law_833 : decode cL_law 833 = .ok (.iload 10, 2) := by decide +kernel
theorem dL_law_835 : decode cL_law 835 = .ok (.aload_n 1, 1) := by decide +kernel
theorem dL_law_836 : decode cL_law 836 = .ok (.iconst 1, 1) := by decide +kernel
theorem dL_law_837 : decode cL_law 837 = .ok (.iconst 0, 1) := by decide +kernel
theorem dL_law_838 : decode cL_law 838 = .ok (.invokevirtual 103, 3) := by decide +kernel
theorem dL_law_841 : decode cL_law 841 = .ok (.if_icmp .ge 23, 3) := by decide +kernel
theorem dL_law_844 : decode cL_law 844 = .ok (.iload 9, 2) := by decide +kernel
theorem dL_law_846 : decode cL_law 846 = .ok (.aload_n 1, 1) := by decide +kernel
theorem dL_law_847 : decode cL_law 847 = .ok (.iconst 1, 1) := by decide +kernel
theorem dL_law_848 : decode cL_law 848 = .ok (.iconst 0, 1) := by decide +kernel
theorem dL_law_849 : decode cL_law 849 = .ok (.iload 10, 2) := by decide +kernel
theorem dL_law_851 : decode cL_law 851 = .ok (.iconst 4, 1) := by decide +kernel
theorem dL_law_852 : decode cL_law 852 = .ok (.invokevirtual 106, 3) := by decide +kernel
theorem dL_law_855 : decode cL_law 855 = .ok (.iadd, 1) := by decide +kernel
theorem dL_law_856 : decode cL_law 856 = .ok (.istore 9, 2) := by decide +kernel
theorem dL_law_858 : decode cL_law 858 = .ok (.iinc 10 1, 3) := by decide +kernel
theorem dL_law_861 : decode cL_law 861 = .ok (.goto (-28), 3) := by decide +kernel
theorem dL_law_864 : decode cL_law 864 = .ok (.iload 9, 2) := by decide +kernel
theorem dL_law_866 : decode cL_law 866 = .ok (.iload 8, 2) := by decide +kernel
theorem dL_law_868 : decode cL_law 868 = .ok (.iadd, 1) := by decide +kernel
theorem dL_law_869 : decode cL_law 869 = .ok (.aload_n 1, 1) := by decide +kernel
theorem dL_law_870 : decode cL_law 870 = .ok (.iconst 1, 1) := by decide +kernel
theorem dL_law_871 : decode cL_law 871 = .ok (.invokevirtual 45, 3) := by decide +kernel
theorem dL_law_874 : decode cL_law 874 = .ok (.if_icmp .ne 12, 3) := by decide +kernel
theorem dL_law_877 : decode cL_law 877 = .ok (.aload_n 1, 1) := by decide +kernel
theorem dL_law_878 : decode cL_law 878 = .ok (.invokevirtual 41, 3) := by decide +kernel
theorem dL_law_881 : decode cL_law 881 = .ok (.lload_n 3, 1) := by decide +kernel
theorem dL_law_882 : decode cL_law 882 = .ok (.lcmp, 1) := by decide +kernel
theorem dL_law_883 : decode cL_law 883 = .ok (.ifCond .eq 5, 3) := by decide +kernel
theorem dL_law_886 : decode cL_law 886 = .ok (.iconst 0, 1) := by decide +kernel
theorem dL_law_887 : decode cL_law 887 = .ok (.ireturn, 1) := by decide +kernel
theorem dL_law_888 : decode cL_law 888 = .ok (.aload_n 0, 1) := by decide +kernel
theorem dL_law_889 : decode cL_law 889 = .ok (.bipush 6, 2) := by decide +kernel
theorem dL_law_891 : decode cL_law 891 = .ok (.iload_n 2, 1) := by decide +kernel
theorem dL_law_892 : decode cL_law 892 = .ok (.iadd, 1) := by decide +kernel
theorem dL_law_893 : decode cL_law 893 = .ok (.invokestatic 16, 3) := by decide +kernel
theorem dL_law_896 : decode cL_law 896 = .ok (.aload_n 1, 1) := by decide +kernel
theorem dL_law_897 : decode cL_law 897 = .ok (.invokevirtual 92, 3) := by decide +kernel
theorem dL_law_900 : decode cL_law 900 = .ok (.invokestatic 22, 3) := by decide +kernel
theorem dL_law_903 : decode cL_law 903 = .ok (.istore 10, 2) := by decide +kernel
theorem dL_law_905 : decode cL_law 905 = .ok (.aload_n 1, 1) := by decide +kernel
theorem dL_law_906 : decode cL_law 906 = .ok (.iload 10, 2) := by decide +kernel
theorem dL_law_908 : decode cL_law 908 = .ok (.invokestatic 96, 3) := by decide +kernel
theorem dL_law_911 : decode cL_law 911 = .ok (.ifCond .eq 6, 3) := by decide +kernel
theorem dL_law_914 : decode cL_law 914 = .ok (.goto 94, 3) := by decide +kernel
theorem dL_law_917 : decode cL_law 917 = .ok (.aload_n 1, 1) := by decide +kernel
theorem dL_law_918 : decode cL_law 918 = .ok (.aload_n 1, 1) := by decide +kernel
theorem dL_law_919 : decode cL_law 919 = .ok (.iload 10, 2) := by decide +kernel
theorem dL_law_921 : decode cL_law 921 = .ok (.iconst 0, 1) := by decide +kernel
theorem dL_law_922 : decode cL_law 922 = .ok (.invokevirtual 57, 3) := by decide +kernel
theorem dL_law_925 : decode cL_law 925 = .ok (.invokevirtual 45, 3) := by decide +kernel
theorem dL_law_928 : decode cL_law 928 = .ok (.istore 11, 2) := by decide +kernel
theorem dL_law_930 : decode cL_law 930 = .ok (.aload_n 0, 1) := by decide +kernel
theorem dL_law_931 : decode cL_law 931 = .ok (.bipush 7, 2) := by decide +kernel
theorem dL_law_933 : decode cL_law 933 = .ok (.iload_n 2, 1) := by decide +kernel
theorem dL_law_934 : decode cL_law 934 = .ok (.iadd, 1) := by decide +kernel
theorem dL_law_935 : decode cL_law 935 = .ok (.invokestatic 16, 3) := by decide +kernel
theorem dL_law_938 : decode cL_law 938 = .ok (.iconst 3, 1) := by decide +kernel
theorem dL_law_939 : decode cL_law 939 = .ok (.invokestatic 22, 3) := by decide +kernel
theorem dL_law_942 : decode cL_law 942 = .ok (.ifCond .ne 27, 3) := by decide +kernel
theorem dL_law_945 : decode cL_law 945 = .ok (.aload_n 1, 1) := by decide +kernel
theorem dL_law_946 : decode cL_law 946 = .ok (.iload 10, 2) := by decide +kernel
theorem dL_law_948 : decode cL_law 948 = .ok (.invokevirtual 109, 3) := by decide +kernel
theorem dL_law_951 : decode cL_law 951 = .ok (.iload 11, 2) := by decide +kernel
theorem dL_law_953 : decode cL_law 953 = .ok (.iconst 1, 1) := by decide +kernel
theorem dL_law_954 : decode cL_law 954 = .ok (.isub, 1) := by decide +kernel
theorem dL_law_955 : decode cL_law 955 = .ok (.if_icmp .ne 12, 3) := by decide +kernel
theorem dL_law_958 : decode cL_law 958 = .ok (.aload_n 1, 1) := by decide +kernel
theorem dL_law_959 : decode cL_law 959 = .ok (.iload 10, 2) := by decide +kernel
theorem dL_law_961 : decode cL_law 961 = .ok (.invokestatic 96, 3) := by decide +kernel
theorem dL_law_964 : decode cL_law 964 = .ok (.ifCond .ne 44, 3) := by decide +kernel
theorem dL_law_967 : decode cL_law 967 = .ok (.iconst 0, 1) := by decide +kernel
theorem dL_law_968 : decode cL_law 968 = .ok (.ireturn, 1) := by decide +kernel
theorem dL_law_969 : decode cL_law 969 = .ok (.aload_n 1, 1) := by decide +kernel
theorem dL_law_970 : decode cL_law 970 = .ok (.iload 10, 2) := by decide +kernel
theorem dL_law_972 : decode cL_law 972 = .ok (.iload 5, 2) := by decide +kernel
theorem dL_law_974 : decode cL_law 974 = .ok (.iconst 3, 1) := by decide +kernel
theorem dL_law_975 : decode cL_law 975 = .ok (.imul, 1) := by decide +kernel
theorem dL_law_976 : decode cL_law 976 = .ok (.iconst 4, 1) := by decide +kernel
theorem dL_law_977 : decode cL_law 977 = .ok (.idiv, 1) := by decide +kernel
theorem dL_law_978 : decode cL_law 978 = .ok (.iload 6, 2) := by decide +kernel
theorem dL_law_980 : decode cL_law 980 = .ok (.iconst 3, 1) := by decide +kernel
theorem dL_law_981 : decode cL_law 981 = .ok (.imul, 1) := by decide +kernel
theorem dL_law_982 : decode cL_law 982 = .ok (.iconst 4, 1) := by decide +kernel
theorem dL_law_983 : decode cL_law 983 = .ok (.idiv, 1) := by decide +kernel
theorem dL_law_984 : decode cL_law 984 = .ok (.invokevirtual 112, 3) := by decide +kernel
theorem dL_law_987 : decode cL_law 987 = .ok (.ifCond .lt 19, 3) := by decide +kernel
theorem dL_law_990 : decode cL_law 990 = .ok (.aload_n 1, 1) := by decide +kernel
theorem dL_law_991 : decode cL_law 991 = .ok (.iload 10, 2) := by decide +kernel
theorem dL_law_993 : decode cL_law 993 = .ok (.iconst 1, 1) := by decide +kernel
theorem dL_law_994 : decode cL_law 994 = .ok (.invokevirtual 57, 3) := by decide +kernel
theorem dL_law_997 : decode cL_law 997 = .ok (.iload 5, 2) := by decide +kernel
theorem dL_law_999 : decode cL_law 999 = .ok (.iconst 3, 1) := by decide +kernel
theorem dL_law_1000 : decode cL_law 1000 = .ok (.imul, 1) := by decide +kernel
theorem dL_law_1001 : decode cL_law 1001 = .ok (.iconst 4, 1) := by decide +kernel
theorem dL_law_1002 : decode cL_law 1002 = .ok (.idiv, 1) := by decide +kernel
theorem dL_law_1003 : decode cL_law 1003 = .ok (.if_icmp .eq 5, 3) := by decide +kernel
theorem dL_law_1006 : decode cL_law 1006 = .ok (.iconst 0, 1) := by decide +kernel
theorem dL_law_1007 : decode cL_law 1007 = .ok (.ireturn, 1) := by decide +kernel
theorem dL_law_1008 : decode cL_law 1008 = .ok (.iinc 2 1, 3) := by decide +kernel
theorem dL_law_1011 : decode cL_law 1011 = .ok (.goto (-833), 3) := by decide +kernel
theorem dL_law_1014 : decode cL_law 1014 = .ok (.iconst 1, 1) := by decide +kernel
theorem dL_law_1015 : decode cL_law 1015 = .ok (.ireturn, 1) := by decide +kernel
theorem dL_isGone_0 : decode cL_isGone 0 = .ok (.aload_n 0, 1) := by decide +kernel
theorem dL_isGone_1 : decode cL_isGone 1 = .ok (.iload_n 1, 1) := by decide +kernel
theorem dL_isGone_2 : decode cL_isGone 2 = .ok (.iconst 0, 1) := by decide +kernel
theorem dL_isGone_3 : decode cL_isGone 3 = .ok (.invokevirtual 57, 3) := by decide +kernel
theorem dL_isGone_6 : decode cL_isGone 6 = .ok (.pop, 1) := by decide +kernel
theorem dL_isGone_7 : decode cL_isGone 7 = .ok (.iconst 0, 1) := by decide +kernel
theorem dL_isGone_8 : decode cL_isGone 8 = .ok (.ireturn, 1) := by decide +kernel
theorem dL_isGone_9 : decode cL_isGone 9 = .ok (.astore_n 2, 1) := by decide +kernel
theorem dL_isGone_10 : decode cL_isGone 10 = .ok (.iconst 1, 1) := by decide +kernel
theorem dL_isGone_11 : decode cL_isGone 11 = .ok (.ireturn, 1) := by decide +kernel
