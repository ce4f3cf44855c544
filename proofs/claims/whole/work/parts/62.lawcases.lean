/-! the law: the first half of the 32 cases -/
section LWC
variable {cx : Cx} {p : Program} {l : Launch} {e : Env} {R : Room} {s : State} {m : MethodId} {args : Array Value} {below : List Frame} {meth : Method} {c : Code} {Q : State → Prop}
variable {b L : Nat} {xs : Nat → Int32} {M : Mem} {k n : Nat}
theorem lw_c0 (E : En cx yL_law cL_law 4 100 600000 7302250 p R s m args meth c) (hX : va_X b L xs s s.heap) (hbb : b < cx.2.2.2) (hL : L ≤ 2560) {i : Int} (h0 : 0 ≤ i) (h1 : i + 5 ≤ L) (h : IV M) (hr : k + 49 ≤ 600000 ∧ n + 8330 ≤ 7302250) (kk : ∀ O, IV O → G cx p l e R s m args below meth c Q 1172 (lwl cx b i) [] O (k + 49) (n + 8330)) : G cx p l e R s m args below meth c Q 176 (lwl cx b i) [] M k n := by
  have v2 := xv_R xs (i + 2)
  have v1 := xv_R xs (i + 1)
  refine g_aload_n (pc := 176) E dL_law_176 (i := 1) rfl rfl ?_
  refine lw_arg (pc := 177) E hX hbb hL (by omega) (by omega) dL_law_177 dL_law_178 dL_law_179 dL_law_180 dL_law_181 ?_
  refine lw_arg (pc := 182) E hX hbb hL (by omega) (by omega) dL_law_182 dL_law_183 dL_law_184 dL_law_185 dL_law_186 ?_
  refine g_callV (pc := 187) (As := [_, _]) (i := 183) E dL_law_187 ml_L_13 (ct5_set h.2.1 h.1 h.2.2.1 h.u8 v1 v2) rfl rfl rfl rfl (by decide) (by decide) rfl (Nat.le_of_ble_eq_true rfl) ⟨by omega, by omega⟩ (fun x N hx => ?_)
  have hN := h.chg5 hx.2
  have u : 0 ≤ N 184 2 ∧ N 184 2 ≤ 8 := by rw [hN.2]; exact h.2.2.2.1
  refine g_aload_n (pc := 190) E dL_law_190 (i := 2) rfl rfl ?_
  refine lw_arg (pc := 191) E hX hbb hL (by omega) (by omega) dL_law_191 dL_law_192 dL_law_193 dL_law_194 dL_law_195 ?_
  refine lw_arg (pc := 196) E hX hbb hL (by omega) (by omega) dL_law_196 dL_law_197 dL_law_198 dL_law_199 dL_law_200 ?_
  refine g_callV (pc := 201) (As := [_, _]) (i := 184) E dL_law_201 ml_L_17 (ct_set hN.1 u.1 u.2 v1 v2) rfl rfl rfl rfl (by decide) (by decide) rfl (Nat.le_of_ble_eq_true rfl) ⟨by omega, by omega⟩ (fun y O hy => ?_)
  have e : x = y ∧ IV O := ⟨hx.1.symm.trans hy.1, h.chg (fun q => SI_set h.1 q) hx.2 hy.2⟩
  obtain ⟨e, hO⟩ := e
  rw [e]
  refine lw_same (pc := 204) (tgt := 1172) E dL_law_204 rfl ?_
  exact g_widen (k' := k + 49) (n' := n + 8330) (by omega) (by omega) (kk O hO)
theorem lw_c1 (E : En cx yL_law cL_law 4 100 600000 7302250 p R s m args meth c) (hX : va_X b L xs s s.heap) (hbb : b < cx.2.2.2) (hL : L ≤ 2560) {i : Int} (h0 : 0 ≤ i) (h1 : i + 5 ≤ L) (h : IV M) (hr : k + 49 ≤ 600000 ∧ n + 8330 ≤ 7302250) (kk : ∀ O, IV O → G cx p l e R s m args below meth c Q 1172 (lwl cx b i) [] O (k + 49) (n + 8330)) : G cx p l e R s m args below meth c Q 209 (lwl cx b i) [] M k n := by
  have v1 := xv_R xs (i + 1)
  refine g_aload_n (pc := 209) E dL_law_209 (i := 1) rfl rfl ?_
  refine lw_arg (pc := 210) E hX hbb hL (by omega) (by omega) dL_law_210 dL_law_211 dL_law_212 dL_law_213 dL_law_214 ?_
  refine g_callV (pc := 215) (As := [_]) (i := 183) E dL_law_215 ml_L_18 (ct5_addModule h.2.1 h.1 h.2.2.1 h.u8 v1) rfl rfl rfl rfl (by decide) (by decide) rfl (Nat.le_of_ble_eq_true rfl) ⟨by omega, by omega⟩ (fun x N hx => ?_)
  have hN := h.chg5 hx.2
  have u : 0 ≤ N 184 2 ∧ N 184 2 ≤ 8 := by rw [hN.2]; exact h.2.2.2.1
  refine g_aload_n (pc := 218) E dL_law_218 (i := 2) rfl rfl ?_
  refine lw_arg (pc := 219) E hX hbb hL (by omega) (by omega) dL_law_219 dL_law_220 dL_law_221 dL_law_222 dL_law_223 ?_
  refine g_callV (pc := 224) (As := [_]) (i := 184) E dL_law_224 ml_L_22 (ct_addModule hN.1 h.ok u.1 u.2 v1) rfl rfl rfl rfl (by decide) (by decide) rfl (Nat.le_of_ble_eq_true rfl) ⟨by omega, by omega⟩ (fun y O hy => ?_)
  have e : x = y ∧ IV O := ⟨hx.1.symm.trans hy.1, h.chg (fun q => SI_am h.1 q) hx.2 hy.2⟩
  obtain ⟨e, hO⟩ := e
  rw [e]
  refine lw_same (pc := 227) (tgt := 1172) E dL_law_227 rfl ?_
  exact g_widen (k' := k + 49) (n' := n + 8330) (by omega) (by omega) (kk O hO)
theorem lw_c2 (E : En cx yL_law cL_law 4 100 600000 7302250 p R s m args meth c) (hX : va_X b L xs s s.heap) (hbb : b < cx.2.2.2) (hL : L ≤ 2560) {i : Int} (h0 : 0 ≤ i) (h1 : i + 5 ≤ L) (h : IV M) (hr : k + 49 ≤ 600000 ∧ n + 8330 ≤ 7302250) (kk : ∀ O, IV O → G cx p l e R s m args below meth c Q 1172 (lwl cx b i) [] O (k + 49) (n + 8330)) : G cx p l e R s m args below meth c Q 232 (lwl cx b i) [] M k n := by
  have v3 := xv_R xs (i + 3)
  have v2 := xv_R xs (i + 2)
  have v1 := xv_R xs (i + 1)
  refine g_aload_n (pc := 232) E dL_law_232 (i := 1) rfl rfl ?_
  refine lw_arg (pc := 233) E hX hbb hL (by omega) (by omega) dL_law_233 dL_law_234 dL_law_235 dL_law_236 dL_law_237 ?_
  refine lw_arg (pc := 238) E hX hbb hL (by omega) (by omega) dL_law_238 dL_law_239 dL_law_240 dL_law_241 dL_law_242 ?_
  refine lw_arg (pc := 243) E hX hbb hL (by omega) (by omega) dL_law_243 dL_law_244 dL_law_245 dL_law_246 dL_law_247 ?_
  refine g_callV (pc := 248) (As := [_, _, _]) (i := 183) E dL_law_248 ml_L_23 (ct5_addPaper h.2.1 h.1 h.2.2.1 h.u8 v1 v2 v3) rfl rfl rfl rfl (by decide) (by decide) rfl (Nat.le_of_ble_eq_true rfl) ⟨by omega, by omega⟩ (fun x N hx => ?_)
  have hN := h.chg5 hx.2
  have u : 0 ≤ N 184 2 ∧ N 184 2 ≤ 8 := by rw [hN.2]; exact h.2.2.2.1
  refine g_aload_n (pc := 251) E dL_law_251 (i := 2) rfl rfl ?_
  refine lw_arg (pc := 252) E hX hbb hL (by omega) (by omega) dL_law_252 dL_law_253 dL_law_254 dL_law_255 dL_law_256 ?_
  refine lw_arg (pc := 257) E hX hbb hL (by omega) (by omega) dL_law_257 dL_law_258 dL_law_259 dL_law_260 dL_law_261 ?_
  refine lw_arg (pc := 262) E hX hbb hL (by omega) (by omega) dL_law_262 dL_law_263 dL_law_264 dL_law_265 dL_law_266 ?_
  refine g_callV (pc := 267) (As := [_, _, _]) (i := 184) E dL_law_267 ml_L_27 (ct_addPaper hN.1 h.ok u.1 u.2 v1 v2 v3) rfl rfl rfl rfl (by decide) (by decide) rfl (Nat.le_of_ble_eq_true rfl) ⟨by omega, by omega⟩ (fun y O hy => ?_)
  have e : x = y ∧ IV O := ⟨hx.1.symm.trans hy.1, h.chg (fun q => SI_ap h.1 q) hx.2 hy.2⟩
  obtain ⟨e, hO⟩ := e
  rw [e]
  refine lw_same (pc := 270) (tgt := 1172) E dL_law_270 rfl ?_
  exact g_widen (k' := k + 49) (n' := n + 8330) (by omega) (by omega) (kk O hO)
theorem lw_c3 (E : En cx yL_law cL_law 4 100 600000 7302250 p R s m args meth c) (hX : va_X b L xs s s.heap) (hbb : b < cx.2.2.2) (hL : L ≤ 2560) {i : Int} (h0 : 0 ≤ i) (h1 : i + 5 ≤ L) (h : IV M) (hr : k + 49 ≤ 600000 ∧ n + 8330 ≤ 7302250) (kk : ∀ O, IV O → G cx p l e R s m args below meth c Q 1172 (lwl cx b i) [] O (k + 49) (n + 8330)) : G cx p l e R s m args below meth c Q 275 (lwl cx b i) [] M k n := by
  have v1 := xv_R xs (i + 1)
  refine g_aload_n (pc := 275) E dL_law_275 (i := 1) rfl rfl ?_
  refine lw_arg (pc := 276) E hX hbb hL (by omega) (by omega) dL_law_276 dL_law_277 dL_law_278 dL_law_279 dL_law_280 ?_
  refine g_callV (pc := 281) (As := [_]) (i := 183) E dL_law_281 ml_L_28 (ct5_addStudent h.2.1 h.1 h.2.2.1 h.u8 v1) rfl rfl rfl rfl (by decide) (by decide) rfl (Nat.le_of_ble_eq_true rfl) ⟨by omega, by omega⟩ (fun x N hx => ?_)
  have hN := h.chg5 hx.2
  have u : 0 ≤ N 184 2 ∧ N 184 2 ≤ 8 := by rw [hN.2]; exact h.2.2.2.1
  refine g_aload_n (pc := 284) E dL_law_284 (i := 2) rfl rfl ?_
  refine lw_arg (pc := 285) E hX hbb hL (by omega) (by omega) dL_law_285 dL_law_286 dL_law_287 dL_law_288 dL_law_289 ?_
  refine g_callV (pc := 290) (As := [_]) (i := 184) E dL_law_290 ml_L_31 (ct_addStudent hN.1 h.ok u.1 u.2 v1) rfl rfl rfl rfl (by decide) (by decide) rfl (Nat.le_of_ble_eq_true rfl) ⟨by omega, by omega⟩ (fun y O hy => ?_)
  have e : x = y ∧ IV O := ⟨hx.1.symm.trans hy.1, h.chg (fun q => SI_as h.1 q) hx.2 hy.2⟩
  obtain ⟨e, hO⟩ := e
  rw [e]
  refine lw_same (pc := 293) (tgt := 1172) E dL_law_293 rfl ?_
  exact g_widen (k' := k + 49) (n' := n + 8330) (by omega) (by omega) (kk O hO)
theorem lw_c4 (E : En cx yL_law cL_law 4 100 600000 7302250 p R s m args meth c) (hX : va_X b L xs s s.heap) (hbb : b < cx.2.2.2) (hL : L ≤ 2560) {i : Int} (h0 : 0 ≤ i) (h1 : i + 5 ≤ L) (h : IV M) (hr : k + 49 ≤ 600000 ∧ n + 8330 ≤ 7302250) (kk : ∀ O, IV O → G cx p l e R s m args below meth c Q 1172 (lwl cx b i) [] O (k + 49) (n + 8330)) : G cx p l e R s m args below meth c Q 298 (lwl cx b i) [] M k n := by
  have v2 := xv_R xs (i + 2)
  have v1 := xv_R xs (i + 1)
  refine g_aload_n (pc := 298) E dL_law_298 (i := 1) rfl rfl ?_
  refine lw_arg (pc := 299) E hX hbb hL (by omega) (by omega) dL_law_299 dL_law_300 dL_law_301 dL_law_302 dL_law_303 ?_
  refine lw_arg (pc := 304) E hX hbb hL (by omega) (by omega) dL_law_304 dL_law_305 dL_law_306 dL_law_307 dL_law_308 ?_
  refine g_callV (pc := 309) (As := [_, _]) (i := 183) E dL_law_309 ml_L_32 (ct5_paper h.2.1 h.ok v1 v2) rfl rfl rfl rfl (by decide) (by decide) rfl (Nat.le_of_ble_eq_true rfl) ⟨by omega, by omega⟩ (fun x N hx => ?_)
  have e5 : N 185 = M 185 := (h.l5 hx.2).1
  refine g_aload_n (pc := 312) E dL_law_312 (i := 2) rfl rfl ?_
  refine lw_arg (pc := 313) E hX hbb hL (by omega) (by omega) dL_law_313 dL_law_314 dL_law_315 dL_law_316 dL_law_317 ?_
  refine lw_arg (pc := 318) E hX hbb hL (by omega) (by omega) dL_law_318 dL_law_319 dL_law_320 dL_law_321 dL_law_322 ?_
  refine g_callV (pc := 323) (As := [_, _]) (i := 184) E dL_law_323 ml_L_35 (ct_paper e5 h.ok v1 v2) rfl rfl rfl rfl (by decide) (by decide) rfl (Nat.le_of_ble_eq_true rfl) ⟨by omega, by omega⟩ (fun y O hy => ?_)
  have e : x = y ∧ IV O := ⟨hx.1.symm.trans hy.1, h.look hx.2 hy.2⟩
  obtain ⟨e, hO⟩ := e
  rw [e]
  refine lw_same (pc := 326) (tgt := 1172) E dL_law_326 rfl ?_
  exact g_widen (k' := k + 49) (n' := n + 8330) (by omega) (by omega) (kk O hO)
theorem lw_c5 (E : En cx yL_law cL_law 4 100 600000 7302250 p R s m args meth c) (hX : va_X b L xs s s.heap) (hbb : b < cx.2.2.2) (hL : L ≤ 2560) {i : Int} (h0 : 0 ≤ i) (h1 : i + 5 ≤ L) (h : IV M) (hr : k + 49 ≤ 600000 ∧ n + 8330 ≤ 7302250) (kk : ∀ O, IV O → G cx p l e R s m args below meth c Q 1172 (lwl cx b i) [] O (k + 49) (n + 8330)) : G cx p l e R s m args below meth c Q 331 (lwl cx b i) [] M k n := by
  have v3 := xv_R xs (i + 3)
  have v2 := xv_R xs (i + 2)
  have v1 := xv_R xs (i + 1)
  refine g_aload_n (pc := 331) E dL_law_331 (i := 1) rfl rfl ?_
  refine lw_arg (pc := 332) E hX hbb hL (by omega) (by omega) dL_law_332 dL_law_333 dL_law_334 dL_law_335 dL_law_336 ?_
  refine lw_arg (pc := 337) E hX hbb hL (by omega) (by omega) dL_law_337 dL_law_338 dL_law_339 dL_law_340 dL_law_341 ?_
  refine lw_arg (pc := 342) E hX hbb hL (by omega) (by omega) dL_law_342 dL_law_343 dL_law_344 dL_law_345 dL_law_346 ?_
  refine g_callV (pc := 347) (As := [_, _, _]) (i := 183) E dL_law_347 ml_L_36 (ct5_mark h.2.1 h.1 h.2.2.1 h.u8 v1 v2 v3) rfl rfl rfl rfl (by decide) (by decide) rfl (Nat.le_of_ble_eq_true rfl) ⟨by omega, by omega⟩ (fun x N hx => ?_)
  have hN := IV.gc5 (k := 109) (s := xv xs (i + 1)) (p := xv xs (i + 2)) (raw := xv xs (i + 3)) (P := xv xs (i + 3) < 0) (P' := 0 ≤ xv xs (i + 3)) h (by omega) hx
  have u : 0 ≤ N 184 2 ∧ N 184 2 ≤ 8 := by rw [hN.2]; exact h.2.2.2.1
  refine g_aload_n (pc := 350) E dL_law_350 (i := 2) rfl rfl ?_
  refine lw_arg (pc := 351) E hX hbb hL (by omega) (by omega) dL_law_351 dL_law_352 dL_law_353 dL_law_354 dL_law_355 ?_
  refine lw_arg (pc := 356) E hX hbb hL (by omega) (by omega) dL_law_356 dL_law_357 dL_law_358 dL_law_359 dL_law_360 ?_
  refine lw_arg (pc := 361) E hX hbb hL (by omega) (by omega) dL_law_361 dL_law_362 dL_law_363 dL_law_364 dL_law_365 ?_
  refine g_callV (pc := 366) (As := [_, _, _]) (i := 184) E dL_law_366 ml_L_39 (ct_mark hN.1 h.1 u.1 u.2 v1 v2 v3) rfl rfl rfl rfl (by decide) (by decide) rfl (Nat.le_of_ble_eq_true rfl) ⟨by omega, by omega⟩ (fun y O hy => ?_)
  have e : x = y ∧ IV O := IV.gc (k := 109) (s := xv xs (i + 1)) (p := xv xs (i + 2)) (raw := xv xs (i + 3)) (P := xv xs (i + 3) < 0) (P' := 0 ≤ xv xs (i + 3)) h (by omega) (Or.inl rfl) (fun q => q) hx hy
  obtain ⟨e, hO⟩ := e
  rw [e]
  refine lw_same (pc := 369) (tgt := 1172) E dL_law_369 rfl ?_
  exact g_widen (k' := k + 49) (n' := n + 8330) (by omega) (by omega) (kk O hO)
theorem lw_c6 (E : En cx yL_law cL_law 4 100 600000 7302250 p R s m args meth c) (hX : va_X b L xs s s.heap) (hbb : b < cx.2.2.2) (hL : L ≤ 2560) {i : Int} (h0 : 0 ≤ i) (h1 : i + 5 ≤ L) (h : IV M) (hr : k + 49 ≤ 600000 ∧ n + 8330 ≤ 7302250) (kk : ∀ O, IV O → G cx p l e R s m args below meth c Q 1172 (lwl cx b i) [] O (k + 49) (n + 8330)) : G cx p l e R s m args below meth c Q 374 (lwl cx b i) [] M k n := by
  have v3 := xv_R xs (i + 3)
  have v2 := xv_R xs (i + 2)
  have v1 := xv_R xs (i + 1)
  refine g_aload_n (pc := 374) E dL_law_374 (i := 1) rfl rfl ?_
  refine lw_arg (pc := 375) E hX hbb hL (by omega) (by omega) dL_law_375 dL_law_376 dL_law_377 dL_law_378 dL_law_379 ?_
  refine lw_arg (pc := 380) E hX hbb hL (by omega) (by omega) dL_law_380 dL_law_381 dL_law_382 dL_law_383 dL_law_384 ?_
  refine lw_arg (pc := 385) E hX hbb hL (by omega) (by omega) dL_law_385 dL_law_386 dL_law_387 dL_law_388 dL_law_389 ?_
  refine g_callV (pc := 390) (As := [_, _, _]) (i := 183) E dL_law_390 ml_L_40 (ct5_absent h.2.1 h.1 h.2.2.1 h.u8 v1 v2 v3) rfl rfl rfl rfl (by decide) (by decide) rfl (Nat.le_of_ble_eq_true rfl) ⟨by omega, by omega⟩ (fun x N hx => ?_)
  have hN := IV.gc5 (k := exK (xv xs (i + 3))) (s := xv xs (i + 1)) (p := xv xs (i + 2)) (raw := 0) (P := ¬ (0 ≤ xv xs (i + 3) ∧ xv xs (i + 3) ≤ 1)) (P' := 0 ≤ xv xs (i + 3) ∧ xv xs (i + 3) ≤ 1) h (Classical.em _).symm hx
  have u : 0 ≤ N 184 2 ∧ N 184 2 ≤ 8 := by rw [hN.2]; exact h.2.2.2.1
  refine g_aload_n (pc := 393) E dL_law_393 (i := 2) rfl rfl ?_
  refine lw_arg (pc := 394) E hX hbb hL (by omega) (by omega) dL_law_394 dL_law_395 dL_law_396 dL_law_397 dL_law_398 ?_
  refine lw_arg (pc := 399) E hX hbb hL (by omega) (by omega) dL_law_399 dL_law_400 dL_law_401 dL_law_402 dL_law_403 ?_
  refine lw_arg (pc := 404) E hX hbb hL (by omega) (by omega) dL_law_404 dL_law_405 dL_law_406 dL_law_407 dL_law_408 ?_
  refine g_callV (pc := 409) (As := [_, _, _]) (i := 184) E dL_law_409 ml_L_43 (ct_absent hN.1 h.1 u.1 u.2 v1 v2 v3) rfl rfl rfl rfl (by decide) (by decide) rfl (Nat.le_of_ble_eq_true rfl) ⟨by omega, by omega⟩ (fun y O hy => ?_)
  have e : x = y ∧ IV O := IV.gc (k := exK (xv xs (i + 3))) (s := xv xs (i + 1)) (p := xv xs (i + 2)) (raw := 0) (P := ¬ (0 ≤ xv xs (i + 3) ∧ xv xs (i + 3) ≤ 1)) (P' := 0 ≤ xv xs (i + 3) ∧ xv xs (i + 3) ≤ 1) h (Classical.em _).symm (exK_ok _) (fun _ => by decide) hx hy
  obtain ⟨e, hO⟩ := e
  rw [e]
  refine lw_same (pc := 412) (tgt := 1172) E dL_law_412 rfl ?_
  exact g_widen (k' := k + 49) (n' := n + 8330) (by omega) (by omega) (kk O hO)
theorem lw_c7 (E : En cx yL_law cL_law 4 100 600000 7302250 p R s m args meth c) (hX : va_X b L xs s s.heap) (hbb : b < cx.2.2.2) (hL : L ≤ 2560) {i : Int} (h0 : 0 ≤ i) (h1 : i + 5 ≤ L) (h : IV M) (hr : k + 49 ≤ 600000 ∧ n + 8330 ≤ 7302250) (kk : ∀ O, IV O → G cx p l e R s m args below meth c Q 1172 (lwl cx b i) [] O (k + 49) (n + 8330)) : G cx p l e R s m args below meth c Q 417 (lwl cx b i) [] M k n := by
  have v3 := xv_R xs (i + 3)
  have v2 := xv_R xs (i + 2)
  have v1 := xv_R xs (i + 1)
  refine g_aload_n (pc := 417) E dL_law_417 (i := 1) rfl rfl ?_
  refine lw_arg (pc := 418) E hX hbb hL (by omega) (by omega) dL_law_418 dL_law_419 dL_law_420 dL_law_421 dL_law_422 ?_
  refine lw_arg (pc := 423) E hX hbb hL (by omega) (by omega) dL_law_423 dL_law_424 dL_law_425 dL_law_426 dL_law_427 ?_
  refine lw_arg (pc := 428) E hX hbb hL (by omega) (by omega) dL_law_428 dL_law_429 dL_law_430 dL_law_431 dL_law_432 ?_
  refine g_callV (pc := 433) (As := [_, _, _]) (i := 183) E dL_law_433 ml_L_44 (ct5_resit h.2.1 h.1 h.2.2.1 h.u8 v1 v2 v3) rfl rfl rfl rfl (by decide) (by decide) rfl (Nat.le_of_ble_eq_true rfl) ⟨by omega, by omega⟩ (fun x N hx => ?_)
  have hN := IV.gc5 (k := 114) (s := xv xs (i + 1)) (p := xv xs (i + 2)) (raw := xv xs (i + 3)) (P := xv xs (i + 3) < 0) (P' := 0 ≤ xv xs (i + 3)) h (by omega) hx
  have u : 0 ≤ N 184 2 ∧ N 184 2 ≤ 8 := by rw [hN.2]; exact h.2.2.2.1
  refine g_aload_n (pc := 436) E dL_law_436 (i := 2) rfl rfl ?_
  refine lw_arg (pc := 437) E hX hbb hL (by omega) (by omega) dL_law_437 dL_law_438 dL_law_439 dL_law_440 dL_law_441 ?_
  refine lw_arg (pc := 442) E hX hbb hL (by omega) (by omega) dL_law_442 dL_law_443 dL_law_444 dL_law_445 dL_law_446 ?_
  refine lw_arg (pc := 447) E hX hbb hL (by omega) (by omega) dL_law_447 dL_law_448 dL_law_449 dL_law_450 dL_law_451 ?_
  refine g_callV (pc := 452) (As := [_, _, _]) (i := 184) E dL_law_452 ml_L_47 (ct_resit hN.1 h.1 u.1 u.2 v1 v2 v3) rfl rfl rfl rfl (by decide) (by decide) rfl (Nat.le_of_ble_eq_true rfl) ⟨by omega, by omega⟩ (fun y O hy => ?_)
  have e : x = y ∧ IV O := IV.gc (k := 114) (s := xv xs (i + 1)) (p := xv xs (i + 2)) (raw := xv xs (i + 3)) (P := xv xs (i + 3) < 0) (P' := 0 ≤ xv xs (i + 3)) h (by omega) (Or.inr (Or.inl rfl)) (fun q => q) hx hy
  obtain ⟨e, hO⟩ := e
  rw [e]
  refine lw_same (pc := 455) (tgt := 1172) E dL_law_455 rfl ?_
  exact g_widen (k' := k + 49) (n' := n + 8330) (by omega) (by omega) (kk O hO)
theorem lw_c8 (E : En cx yL_law cL_law 4 100 600000 7302250 p R s m args meth c) (hX : va_X b L xs s s.heap) (hbb : b < cx.2.2.2) (hL : L ≤ 2560) {i : Int} (h0 : 0 ≤ i) (h1 : i + 5 ≤ L) (h : IV M) (hr : k + 49 ≤ 600000 ∧ n + 8330 ≤ 7302250) (kk : ∀ O, IV O → G cx p l e R s m args below meth c Q 1172 (lwl cx b i) [] O (k + 49) (n + 8330)) : G cx p l e R s m args below meth c Q 460 (lwl cx b i) [] M k n := by
  have v2 := xv_R xs (i + 2)
  have v1 := xv_R xs (i + 1)
  refine g_aload_n (pc := 460) E dL_law_460 (i := 1) rfl rfl ?_
  refine lw_arg (pc := 461) E hX hbb hL (by omega) (by omega) dL_law_461 dL_law_462 dL_law_463 dL_law_464 dL_law_465 ?_
  refine lw_arg (pc := 466) E hX hbb hL (by omega) (by omega) dL_law_466 dL_law_467 dL_law_468 dL_law_469 dL_law_470 ?_
  refine g_callV (pc := 471) (As := [_, _]) (i := 183) E dL_law_471 ml_L_48 (ct5_remove h.2.1 h.1 h.2.2.1 h.u8 v1 v2) rfl rfl rfl rfl (by decide) (by decide) rfl (Nat.le_of_ble_eq_true rfl) ⟨by omega, by omega⟩ (fun x N hx => ?_)
  have hN := IV.ec5 (k := 120) (s := xv xs (i + 1)) (p := xv xs (i + 2)) (raw := 0) h hx
  have u : 0 ≤ N 184 2 ∧ N 184 2 ≤ 8 := by rw [hN.2]; exact h.2.2.2.1
  refine g_aload_n (pc := 474) E dL_law_474 (i := 2) rfl rfl ?_
  refine lw_arg (pc := 475) E hX hbb hL (by omega) (by omega) dL_law_475 dL_law_476 dL_law_477 dL_law_478 dL_law_479 ?_
  refine lw_arg (pc := 480) E hX hbb hL (by omega) (by omega) dL_law_480 dL_law_481 dL_law_482 dL_law_483 dL_law_484 ?_
  refine g_callV (pc := 485) (As := [_, _]) (i := 184) E dL_law_485 ml_L_51 (ct_remove hN.1 h.1 u.1 u.2 v1 v2) rfl rfl rfl rfl (by decide) (by decide) rfl (Nat.le_of_ble_eq_true rfl) ⟨by omega, by omega⟩ (fun y O hy => ?_)
  have e : x = y ∧ IV O := IV.ec (k := 120) (s := xv xs (i + 1)) (p := xv xs (i + 2)) (raw := 0) h (Or.inr (Or.inr (Or.inr (Or.inr rfl)))) (by decide) hx hy
  obtain ⟨e, hO⟩ := e
  rw [e]
  refine lw_same (pc := 488) (tgt := 1172) E dL_law_488 rfl ?_
  exact g_widen (k' := k + 49) (n' := n + 8330) (by omega) (by omega) (kk O hO)
theorem lw_c9 (E : En cx yL_law cL_law 4 100 600000 7302250 p R s m args meth c) (hX : va_X b L xs s s.heap) (hbb : b < cx.2.2.2) (hL : L ≤ 2560) {i : Int} (h0 : 0 ≤ i) (h1 : i + 5 ≤ L) (h : IV M) (hr : k + 49 ≤ 600000 ∧ n + 8330 ≤ 7302250) (kk : ∀ O, IV O → G cx p l e R s m args below meth c Q 1172 (lwl cx b i) [] O (k + 49) (n + 8330)) : G cx p l e R s m args below meth c Q 493 (lwl cx b i) [] M k n := by
  have v3 := xv_R xs (i + 3)
  have v2 := xv_R xs (i + 2)
  have v1 := xv_R xs (i + 1)
  refine g_aload_n (pc := 493) E dL_law_493 (i := 1) rfl rfl ?_
  refine lw_arg (pc := 494) E hX hbb hL (by omega) (by omega) dL_law_494 dL_law_495 dL_law_496 dL_law_497 dL_law_498 ?_
  refine lw_arg (pc := 499) E hX hbb hL (by omega) (by omega) dL_law_499 dL_law_500 dL_law_501 dL_law_502 dL_law_503 ?_
  refine lw_arg (pc := 504) E hX hbb hL (by omega) (by omega) dL_law_504 dL_law_505 dL_law_506 dL_law_507 dL_law_508 ?_
  refine g_callV (pc := 509) (As := [_, _, _]) (i := 183) E dL_law_509 ml_L_52 (ct5_attempt h.2.1 h.ok v1 v2 v3) rfl rfl rfl rfl (by decide) (by decide) rfl (Nat.le_of_ble_eq_true rfl) ⟨by omega, by omega⟩ (fun x N hx => ?_)
  have e5 : N 185 = M 185 := (h.l5 hx.2).1
  refine g_aload_n (pc := 512) E dL_law_512 (i := 2) rfl rfl ?_
  refine lw_arg (pc := 513) E hX hbb hL (by omega) (by omega) dL_law_513 dL_law_514 dL_law_515 dL_law_516 dL_law_517 ?_
  refine lw_arg (pc := 518) E hX hbb hL (by omega) (by omega) dL_law_518 dL_law_519 dL_law_520 dL_law_521 dL_law_522 ?_
  refine lw_arg (pc := 523) E hX hbb hL (by omega) (by omega) dL_law_523 dL_law_524 dL_law_525 dL_law_526 dL_law_527 ?_
  refine g_callV (pc := 528) (As := [_, _, _]) (i := 184) E dL_law_528 ml_L_55 (ct_attempt e5 h.ok v1 v2 v3) rfl rfl rfl rfl (by decide) (by decide) rfl (Nat.le_of_ble_eq_true rfl) ⟨by omega, by omega⟩ (fun y O hy => ?_)
  have e : x = y ∧ IV O := ⟨hx.1.symm.trans hy.1, h.look hx.2 hy.2⟩
  obtain ⟨e, hO⟩ := e
  rw [e]
  refine lw_same (pc := 531) (tgt := 1172) E dL_law_531 rfl ?_
  exact g_widen (k' := k + 49) (n' := n + 8330) (by omega) (by omega) (kk O hO)
theorem lw_c10 (E : En cx yL_law cL_law 4 100 600000 7302250 p R s m args meth c) (hX : va_X b L xs s s.heap) (hbb : b < cx.2.2.2) (hL : L ≤ 2560) {i : Int} (h0 : 0 ≤ i) (h1 : i + 5 ≤ L) (h : IV M) (hr : k + 49 ≤ 600000 ∧ n + 8330 ≤ 7302250) (kk : ∀ O, IV O → G cx p l e R s m args below meth c Q 1172 (lwl cx b i) [] O (k + 49) (n + 8330)) : G cx p l e R s m args below meth c Q 536 (lwl cx b i) [] M k n := by
  have v2 := xv_R xs (i + 2)
  have v1 := xv_R xs (i + 1)
  refine g_aload_n (pc := 536) E dL_law_536 (i := 1) rfl rfl ?_
  refine lw_arg (pc := 537) E hX hbb hL (by omega) (by omega) dL_law_537 dL_law_538 dL_law_539 dL_law_540 dL_law_541 ?_
  refine lw_arg (pc := 542) E hX hbb hL (by omega) (by omega) dL_law_542 dL_law_543 dL_law_544 dL_law_545 dL_law_546 ?_
  refine g_callV (pc := 547) (As := [_, _]) (i := 183) E dL_law_547 ml_L_56 (ct5_entered h.2.1 h.ok h.1 v1 v2) rfl rfl rfl rfl (by decide) (by decide) rfl (Nat.le_of_ble_eq_true rfl) ⟨by omega, by omega⟩ (fun x N hx => ?_)
  have e5 : N 185 = M 185 := (h.l5 hx.2).1
  refine g_aload_n (pc := 550) E dL_law_550 (i := 2) rfl rfl ?_
  refine lw_arg (pc := 551) E hX hbb hL (by omega) (by omega) dL_law_551 dL_law_552 dL_law_553 dL_law_554 dL_law_555 ?_
  refine lw_arg (pc := 556) E hX hbb hL (by omega) (by omega) dL_law_556 dL_law_557 dL_law_558 dL_law_559 dL_law_560 ?_
  refine g_callV (pc := 561) (As := [_, _]) (i := 184) E dL_law_561 ml_L_59 (ct_entered e5 h.ok v1 v2 h.or8) rfl rfl rfl rfl (by decide) (by decide) rfl (Nat.le_of_ble_eq_true rfl) ⟨by omega, by omega⟩ (fun y O hy => ?_)
  have e : x = y ∧ IV O := ⟨hx.1.symm.trans hy.1, h.look hx.2 hy.2⟩
  obtain ⟨e, hO⟩ := e
  rw [e]
  refine lw_same (pc := 564) (tgt := 1172) E dL_law_564 rfl ?_
  exact g_widen (k' := k + 49) (n' := n + 8330) (by omega) (by omega) (kk O hO)
theorem lw_c11 (E : En cx yL_law cL_law 4 100 600000 7302250 p R s m args meth c) (hX : va_X b L xs s s.heap) (hbb : b < cx.2.2.2) (hL : L ≤ 2560) {i : Int} (h0 : 0 ≤ i) (h1 : i + 5 ≤ L) (h : IV M) (hr : k + 49 ≤ 600000 ∧ n + 8330 ≤ 7302250) (kk : ∀ O, IV O → G cx p l e R s m args below meth c Q 1172 (lwl cx b i) [] O (k + 49) (n + 8330)) : G cx p l e R s m args below meth c Q 569 (lwl cx b i) [] M k n := by
  have v4 := xv_R xs (i + 4)
  have v3 := xv_R xs (i + 3)
  have v2 := xv_R xs (i + 2)
  have v1 := xv_R xs (i + 1)
  refine g_aload_n (pc := 569) E dL_law_569 (i := 1) rfl rfl ?_
  refine lw_arg (pc := 570) E hX hbb hL (by omega) (by omega) dL_law_570 dL_law_571 dL_law_572 dL_law_573 dL_law_574 ?_
  refine lw_arg (pc := 575) E hX hbb hL (by omega) (by omega) dL_law_575 dL_law_576 dL_law_577 dL_law_578 dL_law_579 ?_
  refine lw_arg (pc := 580) E hX hbb hL (by omega) (by omega) dL_law_580 dL_law_581 dL_law_582 dL_law_583 dL_law_584 ?_
  refine lw_arg (pc := 585) E hX hbb hL (by omega) (by omega) dL_law_585 dL_law_586 dL_law_587 dL_law_588 dL_law_589 ?_
  refine g_callV (pc := 590) (As := [_, _, _, _]) (i := 183) E dL_law_590 ml_L_60 (ct5_scale h.2.1 h.1 h.2.2.1 h.u8 v1 v2 v3 v4) rfl rfl rfl rfl (by decide) (by decide) rfl (Nat.le_of_ble_eq_true rfl) ⟨by omega, by omega⟩ (fun x N hx => ?_)
  have hN := h.chg5 hx.2
  have u : 0 ≤ N 184 2 ∧ N 184 2 ≤ 8 := by rw [hN.2]; exact h.2.2.2.1
  refine g_aload_n (pc := 593) E dL_law_593 (i := 2) rfl rfl ?_
  refine lw_arg (pc := 594) E hX hbb hL (by omega) (by omega) dL_law_594 dL_law_595 dL_law_596 dL_law_597 dL_law_598 ?_
  refine lw_arg (pc := 599) E hX hbb hL (by omega) (by omega) dL_law_599 dL_law_600 dL_law_601 dL_law_602 dL_law_603 ?_
  refine lw_arg (pc := 604) E hX hbb hL (by omega) (by omega) dL_law_604 dL_law_605 dL_law_606 dL_law_607 dL_law_608 ?_
  refine lw_arg (pc := 609) E hX hbb hL (by omega) (by omega) dL_law_609 dL_law_610 dL_law_611 dL_law_612 dL_law_613 ?_
  refine g_callV (pc := 614) (As := [_, _, _, _]) (i := 184) E dL_law_614 ml_L_64 (ct_scale hN.1 h.ok u.1 u.2 v1 v2 v3 v4) rfl rfl rfl rfl (by decide) (by decide) rfl (Nat.le_of_ble_eq_true rfl) ⟨by omega, by omega⟩ (fun y O hy => ?_)
  have e : x = y ∧ IV O := ⟨hx.1.symm.trans hy.1, h.chg (fun q => SI_sl h.1 q) hx.2 hy.2⟩
  obtain ⟨e, hO⟩ := e
  rw [e]
  refine lw_same (pc := 617) (tgt := 1172) E dL_law_617 rfl ?_
  exact g_widen (k' := k + 49) (n' := n + 8330) (by omega) (by omega) (kk O hO)
theorem lw_c12 (E : En cx yL_law cL_law 4 100 600000 7302250 p R s m args meth c) (hX : va_X b L xs s s.heap) (hbb : b < cx.2.2.2) (hL : L ≤ 2560) {i : Int} (h0 : 0 ≤ i) (h1 : i + 5 ≤ L) (h : IV M) (hr : k + 49 ≤ 600000 ∧ n + 8330 ≤ 7302250) (kk : ∀ O, IV O → G cx p l e R s m args below meth c Q 1172 (lwl cx b i) [] O (k + 49) (n + 8330)) : G cx p l e R s m args below meth c Q 622 (lwl cx b i) [] M k n := by
  have v3 := xv_R xs (i + 3)
  have v2 := xv_R xs (i + 2)
  have v1 := xv_R xs (i + 1)
  refine g_aload_n (pc := 622) E dL_law_622 (i := 1) rfl rfl ?_
  refine lw_arg (pc := 623) E hX hbb hL (by omega) (by omega) dL_law_623 dL_law_624 dL_law_625 dL_law_626 dL_law_627 ?_
  refine lw_arg (pc := 628) E hX hbb hL (by omega) (by omega) dL_law_628 dL_law_629 dL_law_630 dL_law_631 dL_law_632 ?_
  refine lw_arg (pc := 633) E hX hbb hL (by omega) (by omega) dL_law_633 dL_law_634 dL_law_635 dL_law_636 dL_law_637 ?_
  refine g_callV (pc := 638) (As := [_, _, _]) (i := 183) E dL_law_638 ml_L_65 (ct5_scaling h.2.1 h.ok v1 v2 v3) rfl rfl rfl rfl (by decide) (by decide) rfl (Nat.le_of_ble_eq_true rfl) ⟨by omega, by omega⟩ (fun x N hx => ?_)
  have e5 : N 185 = M 185 := (h.l5 hx.2).1
  refine g_aload_n (pc := 641) E dL_law_641 (i := 2) rfl rfl ?_
  refine lw_arg (pc := 642) E hX hbb hL (by omega) (by omega) dL_law_642 dL_law_643 dL_law_644 dL_law_645 dL_law_646 ?_
  refine lw_arg (pc := 647) E hX hbb hL (by omega) (by omega) dL_law_647 dL_law_648 dL_law_649 dL_law_650 dL_law_651 ?_
  refine lw_arg (pc := 652) E hX hbb hL (by omega) (by omega) dL_law_652 dL_law_653 dL_law_654 dL_law_655 dL_law_656 ?_
  refine g_callV (pc := 657) (As := [_, _, _]) (i := 184) E dL_law_657 ml_L_68 (ct_scaling e5 h.ok v1 v2 v3) rfl rfl rfl rfl (by decide) (by decide) rfl (Nat.le_of_ble_eq_true rfl) ⟨by omega, by omega⟩ (fun y O hy => ?_)
  have e : x = y ∧ IV O := ⟨hx.1.symm.trans hy.1, h.look hx.2 hy.2⟩
  obtain ⟨e, hO⟩ := e
  rw [e]
  refine lw_same (pc := 660) (tgt := 1172) E dL_law_660 rfl ?_
  exact g_widen (k' := k + 49) (n' := n + 8330) (by omega) (by omega) (kk O hO)
theorem lw_c13 (E : En cx yL_law cL_law 4 100 600000 7302250 p R s m args meth c) (hX : va_X b L xs s s.heap) (hbb : b < cx.2.2.2) (hL : L ≤ 2560) {i : Int} (h0 : 0 ≤ i) (h1 : i + 5 ≤ L) (h : IV M) (hr : k + 49 ≤ 600000 ∧ n + 8330 ≤ 7302250) (kk : ∀ O, IV O → G cx p l e R s m args below meth c Q 1172 (lwl cx b i) [] O (k + 49) (n + 8330)) : G cx p l e R s m args below meth c Q 665 (lwl cx b i) [] M k n := by
  have v3 := xv_R xs (i + 3)
  have v2 := xv_R xs (i + 2)
  have v1 := xv_R xs (i + 1)
  refine g_aload_n (pc := 665) E dL_law_665 (i := 1) rfl rfl ?_
  refine lw_arg (pc := 666) E hX hbb hL (by omega) (by omega) dL_law_666 dL_law_667 dL_law_668 dL_law_669 dL_law_670 ?_
  refine lw_arg (pc := 671) E hX hbb hL (by omega) (by omega) dL_law_671 dL_law_672 dL_law_673 dL_law_674 dL_law_675 ?_
  refine lw_arg (pc := 676) E hX hbb hL (by omega) (by omega) dL_law_676 dL_law_677 dL_law_678 dL_law_679 dL_law_680 ?_
  refine g_callV (pc := 681) (As := [_, _, _]) (i := 183) E dL_law_681 ml_L_69 (ct5_scaled h.2.1 h.ok v1 v2 v3) rfl rfl rfl rfl (by decide) (by decide) rfl (Nat.le_of_ble_eq_true rfl) ⟨by omega, by omega⟩ (fun x N hx => ?_)
  have e5 : N 185 = M 185 := (h.l5 hx.2).1
  refine g_aload_n (pc := 684) E dL_law_684 (i := 2) rfl rfl ?_
  refine lw_arg (pc := 685) E hX hbb hL (by omega) (by omega) dL_law_685 dL_law_686 dL_law_687 dL_law_688 dL_law_689 ?_
  refine lw_arg (pc := 690) E hX hbb hL (by omega) (by omega) dL_law_690 dL_law_691 dL_law_692 dL_law_693 dL_law_694 ?_
  refine lw_arg (pc := 695) E hX hbb hL (by omega) (by omega) dL_law_695 dL_law_696 dL_law_697 dL_law_698 dL_law_699 ?_
  refine g_callV (pc := 700) (As := [_, _, _]) (i := 184) E dL_law_700 ml_L_72 (ct_scaled e5 h.ok v1 v2 v3) rfl rfl rfl rfl (by decide) (by decide) rfl (Nat.le_of_ble_eq_true rfl) ⟨by omega, by omega⟩ (fun y O hy => ?_)
  have e : x = y ∧ IV O := ⟨hx.1.symm.trans hy.1, h.look hx.2 hy.2⟩
  obtain ⟨e, hO⟩ := e
  rw [e]
  refine lw_same (pc := 703) (tgt := 1172) E dL_law_703 rfl ?_
  exact g_widen (k' := k + 49) (n' := n + 8330) (by omega) (by omega) (kk O hO)
theorem lw_c14 (E : En cx yL_law cL_law 4 100 600000 7302250 p R s m args meth c) (hX : va_X b L xs s s.heap) (hbb : b < cx.2.2.2) (hL : L ≤ 2560) {i : Int} (h0 : 0 ≤ i) (h1 : i + 5 ≤ L) (h : IV M) (hr : k + 49 ≤ 600000 ∧ n + 8330 ≤ 7302250) (kk : ∀ O, IV O → G cx p l e R s m args below meth c Q 1172 (lwl cx b i) [] O (k + 49) (n + 8330)) : G cx p l e R s m args below meth c Q 708 (lwl cx b i) [] M k n := by
  have v3 := xv_R xs (i + 3)
  have v2 := xv_R xs (i + 2)
  have v1 := xv_R xs (i + 1)
  refine g_aload_n (pc := 708) E dL_law_708 (i := 1) rfl rfl ?_
  refine lw_arg (pc := 709) E hX hbb hL (by omega) (by omega) dL_law_709 dL_law_710 dL_law_711 dL_law_712 dL_law_713 ?_
  refine lw_arg (pc := 714) E hX hbb hL (by omega) (by omega) dL_law_714 dL_law_715 dL_law_716 dL_law_717 dL_law_718 ?_
  refine lw_arg (pc := 719) E hX hbb hL (by omega) (by omega) dL_law_719 dL_law_720 dL_law_721 dL_law_722 dL_law_723 ?_
  refine g_callV (pc := 724) (As := [_, _, _]) (i := 183) E dL_law_724 ml_L_73 (ct5_module h.2.1 h.ok v1 v2 v3) rfl rfl rfl rfl (by decide) (by decide) rfl (Nat.le_of_ble_eq_true rfl) ⟨by omega, by omega⟩ (fun x N hx => ?_)
  have e5 : N 185 = M 185 := (h.l5 hx.2).1
  refine g_aload_n (pc := 727) E dL_law_727 (i := 2) rfl rfl ?_
  refine lw_arg (pc := 728) E hX hbb hL (by omega) (by omega) dL_law_728 dL_law_729 dL_law_730 dL_law_731 dL_law_732 ?_
  refine lw_arg (pc := 733) E hX hbb hL (by omega) (by omega) dL_law_733 dL_law_734 dL_law_735 dL_law_736 dL_law_737 ?_
  refine lw_arg (pc := 738) E hX hbb hL (by omega) (by omega) dL_law_738 dL_law_739 dL_law_740 dL_law_741 dL_law_742 ?_
  refine g_callV (pc := 743) (As := [_, _, _]) (i := 184) E dL_law_743 ml_L_76 (ct_module e5 h.ok v1 v2 v3) rfl rfl rfl rfl (by decide) (by decide) rfl (Nat.le_of_ble_eq_true rfl) ⟨by omega, by omega⟩ (fun y O hy => ?_)
  have e : x = y ∧ IV O := ⟨hx.1.symm.trans hy.1, h.look hx.2 hy.2⟩
  obtain ⟨e, hO⟩ := e
  rw [e]
  refine lw_same (pc := 746) (tgt := 1172) E dL_law_746 rfl ?_
  exact g_widen (k' := k + 49) (n' := n + 8330) (by omega) (by omega) (kk O hO)
theorem lw_c15 (E : En cx yL_law cL_law 4 100 600000 7302250 p R s m args meth c) (hX : va_X b L xs s s.heap) (hbb : b < cx.2.2.2) (hL : L ≤ 2560) {i : Int} (h0 : 0 ≤ i) (h1 : i + 5 ≤ L) (h : IV M) (hr : k + 49 ≤ 600000 ∧ n + 8330 ≤ 7302250) (kk : ∀ O, IV O → G cx p l e R s m args below meth c Q 1172 (lwl cx b i) [] O (k + 49) (n + 8330)) : G cx p l e R s m args below meth c Q 751 (lwl cx b i) [] M k n := by
  have v2 := xv_R xs (i + 2)
  have v1 := xv_R xs (i + 1)
  refine g_aload_n (pc := 751) E dL_law_751 (i := 1) rfl rfl ?_
  refine lw_arg (pc := 752) E hX hbb hL (by omega) (by omega) dL_law_752 dL_law_753 dL_law_754 dL_law_755 dL_law_756 ?_
  refine lw_arg (pc := 757) E hX hbb hL (by omega) (by omega) dL_law_757 dL_law_758 dL_law_759 dL_law_760 dL_law_761 ?_
  refine g_callV (pc := 762) (As := [_, _]) (i := 183) E dL_law_762 ml_L_77 (ct5_student h.2.1 h.ok v1 v2) rfl rfl rfl rfl (by decide) (by decide) rfl (Nat.le_of_ble_eq_true rfl) ⟨by omega, by omega⟩ (fun x N hx => ?_)
  have e5 : N 185 = M 185 := (h.l5 hx.2).1
  refine g_aload_n (pc := 765) E dL_law_765 (i := 2) rfl rfl ?_
  refine lw_arg (pc := 766) E hX hbb hL (by omega) (by omega) dL_law_766 dL_law_767 dL_law_768 dL_law_769 dL_law_770 ?_
  refine lw_arg (pc := 771) E hX hbb hL (by omega) (by omega) dL_law_771 dL_law_772 dL_law_773 dL_law_774 dL_law_775 ?_
  refine g_callV (pc := 776) (As := [_, _]) (i := 184) E dL_law_776 ml_L_80 (ct_student e5 h.ok v1 v2) rfl rfl rfl rfl (by decide) (by decide) rfl (Nat.le_of_ble_eq_true rfl) ⟨by omega, by omega⟩ (fun y O hy => ?_)
  have e : x = y ∧ IV O := ⟨hx.1.symm.trans hy.1, h.look hx.2 hy.2⟩
  obtain ⟨e, hO⟩ := e
  rw [e]
  refine lw_same (pc := 779) (tgt := 1172) E dL_law_779 rfl ?_
  exact g_widen (k' := k + 49) (n' := n + 8330) (by omega) (by omega) (kk O hO)
end LWC
