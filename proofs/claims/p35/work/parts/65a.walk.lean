section LAWK
variable {p : Program} {l : Launch} {e : Env} {s : State} {m : MethodId} {below : List Frame} {meth : Method} {c : Code} {b L : Nat} {xs : Nat → Int32} {D : hp_D} {H : Heap} {locs : List Loc} {cells slots : Nat} {Q : State → Prop}
variable {pc : Nat} {ls : Array Slot} {rest : List Value} {a am : Nat} {i : Int32} {Tc Tm : hp_T} {Am Ru : Nat → Prop} {A : Nat → Nat} {x : Int32} {G : Nat → Option (Nat × Int32)} {X M : Nat → Int32} {tp tr rr rl nw im tl sk iq pa sn be : Nat}
set_option maxHeartbeats 4000000 in
set_option maxRecDepth 100000 in
theorem lawk_0 (C : lawC p s m c b L xs D) (I : lawI D s a am H locs) (hl : lv_has ls 4 [(0, .ref b), (1, .ref a), (2, .ref am), (3, .int i)]) (hB : lawB i L) (hc : cells + 13 ≤ 600000) (hs : slots + 402 ≤ 7302250) (kk : ∀ (H1 : Heap) (locs1 : List Loc), lawI D s a am H1 locs1 → W p l e room_1 s m #[Value.ref b] below meth c H1 locs1 (cells + 13) (slots + 402) Q (F0 m 1296 ls [])) : W p l e room_1 s m #[Value.ref b] below meth c H locs cells slots Q (F0 m 200 ls []) := by
  obtain ⟨Tc, Tm, Am, Ru, A, x, G, X, M, tp, tr, rr, rl, nw, im, tl, sk, iq, pa, sn, be, w, hP, hm, hAB, hGX, hMj⟩ := I
  obtain ⟨b1, b2, b3, b4, b5⟩ := hB
  have hx := C.1.1
  have hb := C.1.2.1
  refine lv_aload_n hx hb dL_law_200 rfl (lv_at hl 1 rfl) ?_
  refine law_ld C w.2.2.2.2.2 hl (k := 1) (by decide) b1 dL_law_201 dL_law_202 dL_law_203 dL_law_204 dL_law_205 ?_
  refine law_ld C w.2.2.2.2.2 hl (k := 2) (by decide) b2 dL_law_206 dL_law_207 dL_law_208 dL_law_209 dL_law_210 ?_
  refine law_ld C w.2.2.2.2.2 hl (k := 3) (by decide) b3 dL_law_211 dL_law_212 dL_law_213 dL_law_214 dL_law_215 ?_
  refine law_ld C w.2.2.2.2.2 hl (k := 4) (by decide) b4 dL_law_216 dL_law_217 dL_law_218 dL_law_219 dL_law_220 ?_
  refine law_ld C w.2.2.2.2.2 hl (k := 5) (by decide) b5 dL_law_221 dL_law_222 dL_law_223 dL_law_224 dL_law_225 ?_
  refine law_xc (Rc := fun T1 => pcS T1 Ru a tp tr rr rl nw im tl sk iq pa sn be (rV (.int x)) G) C w hP hl.1 (lX11_feed l D Tc (lawA s Am) x hP w.2.2.1 (xs (i + 1).toNatClampNeg) (xs (i + 2).toNatClampNeg) (xs (i + 3).toNatClampNeg) (xs (i + 4).toNatClampNeg) (xs (i + 5).toNatClampNeg)) (cwV 5 C.1.2.2.2.2 gL_law_X11_feed rfl rfl rfl (by decide +kernel) ⟨Nat.le_of_ble_eq_true rfl, Nat.le_of_ble_eq_true rfl⟩) (fun _ _ _ _ h => h) rfl rfl dL_law_226 dL_law_229 (by omega) (by omega) (fun T1 H1 locs1 w hP => ?_)
  refine lv_aload_n hx hb dL_law_230 rfl (lv_at hl 2 rfl) ?_
  refine law_ld C w.2.2.2.2.2 hl (k := 1) (by decide) b1 dL_law_231 dL_law_232 dL_law_233 dL_law_234 dL_law_235 ?_
  refine law_ld C w.2.2.2.2.2 hl (k := 2) (by decide) b2 dL_law_236 dL_law_237 dL_law_238 dL_law_239 dL_law_240 ?_
  refine law_ld C w.2.2.2.2.2 hl (k := 3) (by decide) b3 dL_law_241 dL_law_242 dL_law_243 dL_law_244 dL_law_245 ?_
  refine law_ld C w.2.2.2.2.2 hl (k := 4) (by decide) b4 dL_law_246 dL_law_247 dL_law_248 dL_law_249 dL_law_250 ?_
  refine law_ld C w.2.2.2.2.2 hl (k := 5) (by decide) b5 dL_law_251 dL_law_252 dL_law_253 dL_law_254 dL_law_255 ?_
  refine law_xm (Rm := fun T2 => mW T2 am A x X M) C w hm hl.1 (lX12_feed l D Tm am A x X M hm (xs (i + 1).toNatClampNeg) (xs (i + 2).toNatClampNeg) (xs (i + 3).toNatClampNeg) (xs (i + 4).toNatClampNeg) (xs (i + 5).toNatClampNeg)) (cwV 5 C.1.2.2.2.2 gL_law_X12_feed rfl rfl rfl (by decide +kernel) ⟨Nat.le_of_ble_eq_true rfl, Nat.le_of_ble_eq_true rfl⟩) (fun _ _ h => h) rfl rfl dL_law_256 dL_law_259 (by omega) (by omega) (fun T2 H2 locs2 w hm => ?_)
  refine lv_goto (tgt := 1296) hx hb dL_law_260 (by decide) ?_
  refine W.widen (k := cells + 13) (n := slots + 402) (by omega) (by omega) ?_
  exact kk H2 locs2 ⟨T1, T2, Am, Ru, A, x, G, X, M, tp, tr, rr, rl, nw, im, tl, sk, iq, pa, sn, be, w, hP, hm, hAB, hGX, hMj⟩
set_option maxHeartbeats 4000000 in
set_option maxRecDepth 100000 in
theorem lawk_1 (C : lawC p s m c b L xs D) (I : lawI D s a am H locs) (hl : lv_has ls 4 [(0, .ref b), (1, .ref a), (2, .ref am), (3, .int i)]) (hB : lawB i L) (hc : cells + 13 ≤ 600000) (hs : slots + 402 ≤ 7302250) (kk : ∀ (H1 : Heap) (locs1 : List Loc), lawI D s a am H1 locs1 → W p l e room_1 s m #[Value.ref b] below meth c H1 locs1 (cells + 13) (slots + 402) Q (F0 m 1296 ls [])) : W p l e room_1 s m #[Value.ref b] below meth c H locs cells slots Q (F0 m 263 ls []) := by
  obtain ⟨Tc, Tm, Am, Ru, A, x, G, X, M, tp, tr, rr, rl, nw, im, tl, sk, iq, pa, sn, be, w, hP, hm, hAB, hGX, hMj⟩ := I
  obtain ⟨b1, b2, b3, b4, b5⟩ := hB
  have hx := C.1.1
  have hb := C.1.2.1
  refine lv_aload_n hx hb dL_law_263 rfl (lv_at hl 1 rfl) ?_
  refine law_ld C w.2.2.2.2.2 hl (k := 1) (by decide) b1 dL_law_264 dL_law_265 dL_law_266 dL_law_267 dL_law_268 ?_
  refine law_xc (Rc := fun T1 => pcS T1 Ru a tp tr rr rl nw im tl sk iq pa sn be (rV (.int x)) G) C w hP hl.1 (lX11_end l D Tc (lawA s Am) x hP w.2.2.1 (xs (i + 1).toNatClampNeg)) (cwV 1 C.1.2.2.2.2 gL_law_X11_end rfl rfl rfl (by decide +kernel) ⟨Nat.le_of_ble_eq_true rfl, Nat.le_of_ble_eq_true rfl⟩) (fun _ _ _ _ h => h) rfl rfl dL_law_269 dL_law_272 (by omega) (by omega) (fun T1 H1 locs1 w hP => ?_)
  refine lv_aload_n hx hb dL_law_273 rfl (lv_at hl 2 rfl) ?_
  refine law_ld C w.2.2.2.2.2 hl (k := 1) (by decide) b1 dL_law_274 dL_law_275 dL_law_276 dL_law_277 dL_law_278 ?_
  refine law_xm (Rm := fun T2 => mW T2 am A x X M) C w hm hl.1 (lX12_end l D Tm am A x X M hm (xs (i + 1).toNatClampNeg)) (cwV 1 C.1.2.2.2.2 gL_law_X12_end rfl rfl rfl (by decide +kernel) ⟨Nat.le_of_ble_eq_true rfl, Nat.le_of_ble_eq_true rfl⟩) (fun _ _ h => h) rfl rfl dL_law_279 dL_law_282 (by omega) (by omega) (fun T2 H2 locs2 w hm => ?_)
  refine lv_goto (tgt := 1296) hx hb dL_law_283 (by decide) ?_
  refine W.widen (k := cells + 13) (n := slots + 402) (by omega) (by omega) ?_
  exact kk H2 locs2 ⟨T1, T2, Am, Ru, A, x, G, X, M, tp, tr, rr, rl, nw, im, tl, sk, iq, pa, sn, be, w, hP, hm, hAB, hGX, hMj⟩
set_option maxHeartbeats 4000000 in
set_option maxRecDepth 100000 in
theorem lawk_2 (C : lawC p s m c b L xs D) (I : lawI D s a am H locs) (hl : lv_has ls 4 [(0, .ref b), (1, .ref a), (2, .ref am), (3, .int i)]) (hB : lawB i L) (hc : cells + 13 ≤ 600000) (hs : slots + 402 ≤ 7302250) (kk : ∀ (H1 : Heap) (locs1 : List Loc), lawI D s a am H1 locs1 → W p l e room_1 s m #[Value.ref b] below meth c H1 locs1 (cells + 13) (slots + 402) Q (F0 m 1296 ls [])) : W p l e room_1 s m #[Value.ref b] below meth c H locs cells slots Q (F0 m 286 ls []) := by
  obtain ⟨Tc, Tm, Am, Ru, A, x, G, X, M, tp, tr, rr, rl, nw, im, tl, sk, iq, pa, sn, be, w, hP, hm, hAB, hGX, hMj⟩ := I
  obtain ⟨b1, b2, b3, b4, b5⟩ := hB
  have hx := C.1.1
  have hb := C.1.2.1
  refine lv_aload_n hx hb dL_law_286 rfl (lv_at hl 1 rfl) ?_
  refine law_xc (Rc := fun T1 => pcS T1 Ru a tp tr rr rl nw im tl sk iq pa sn be (rV (.int x)) G) C w hP hl.1 (lX11_town l D Tc (lawA s Am) x hP w.2.2.1) (cwV 0 C.1.2.2.2.2 gL_law_X11_town rfl rfl rfl (by decide +kernel) ⟨Nat.le_of_ble_eq_true rfl, Nat.le_of_ble_eq_true rfl⟩) (fun _ _ _ _ h => h) rfl rfl dL_law_287 dL_law_290 (by omega) (by omega) (fun T1 H1 locs1 w hP => ?_)
  refine lv_aload_n hx hb dL_law_291 rfl (lv_at hl 2 rfl) ?_
  refine law_xm (Rm := fun T2 => mW T2 am A x X M) C w hm hl.1 (lX12_town l D Tm am A x X M hm) (cwV 0 C.1.2.2.2.2 gL_law_X12_town rfl rfl rfl (by decide +kernel) ⟨Nat.le_of_ble_eq_true rfl, Nat.le_of_ble_eq_true rfl⟩) (fun _ _ h => h) rfl rfl dL_law_292 dL_law_295 (by omega) (by omega) (fun T2 H2 locs2 w hm => ?_)
  refine lv_goto (tgt := 1296) hx hb dL_law_296 (by decide) ?_
  refine W.widen (k := cells + 13) (n := slots + 402) (by omega) (by omega) ?_
  exact kk H2 locs2 ⟨T1, T2, Am, Ru, A, x, G, X, M, tp, tr, rr, rl, nw, im, tl, sk, iq, pa, sn, be, w, hP, hm, hAB, hGX, hMj⟩
set_option maxHeartbeats 4000000 in
set_option maxRecDepth 100000 in
theorem lawk_3 (C : lawC p s m c b L xs D) (I : lawI D s a am H locs) (hl : lv_has ls 4 [(0, .ref b), (1, .ref a), (2, .ref am), (3, .int i)]) (hB : lawB i L) (hc : cells + 13 ≤ 600000) (hs : slots + 402 ≤ 7302250) (kk : ∀ (H1 : Heap) (locs1 : List Loc), lawI D s a am H1 locs1 → W p l e room_1 s m #[Value.ref b] below meth c H1 locs1 (cells + 13) (slots + 402) Q (F0 m 1296 ls [])) : W p l e room_1 s m #[Value.ref b] below meth c H locs cells slots Q (F0 m 299 ls []) := by
  obtain ⟨Tc, Tm, Am, Ru, A, x, G, X, M, tp, tr, rr, rl, nw, im, tl, sk, iq, pa, sn, be, w, hP, hm, hAB, hGX, hMj⟩ := I
  obtain ⟨b1, b2, b3, b4, b5⟩ := hB
  have hx := C.1.1
  have hb := C.1.2.1
  refine lv_aload_n hx hb dL_law_299 rfl (lv_at hl 1 rfl) ?_
  refine law_xc (Rc := fun T1 => ∃ Ru1 : Nat → Prop, pcS T1 Ru1 a tp tr rr rl nw im tl sk iq pa sn be (rV (.int x)) G) C w hP hl.1 (lX11_rule l D Tc (lawA s Am) x hP) (cwV 0 C.1.2.2.2.2 gL_law_X11_rule rfl rfl rfl (by decide +kernel) ⟨Nat.le_of_ble_eq_true rfl, Nat.le_of_ble_eq_true rfl⟩) (fun _ _ _ _ h => h) rfl rfl dL_law_300 dL_law_303 (by omega) (by omega) (fun T1 H1 locs1 w hP => ?_)
  obtain ⟨Ru1, hP⟩ := hP
  refine lv_aload_n hx hb dL_law_304 rfl (lv_at hl 2 rfl) ?_
  refine law_xm (Rm := fun T2 => mW T2 am A x X M) C w hm hl.1 (lX12_rule l D Tm am A x X M hm) (cwV 0 C.1.2.2.2.2 gL_law_X12_rule rfl rfl rfl (by decide +kernel) ⟨Nat.le_of_ble_eq_true rfl, Nat.le_of_ble_eq_true rfl⟩) (fun _ _ h => h) rfl rfl dL_law_305 dL_law_308 (by omega) (by omega) (fun T2 H2 locs2 w hm => ?_)
  refine lv_goto (tgt := 1296) hx hb dL_law_309 (by decide) ?_
  refine W.widen (k := cells + 13) (n := slots + 402) (by omega) (by omega) ?_
  exact kk H2 locs2 ⟨T1, T2, Am, Ru1, A, x, G, X, M, tp, tr, rr, rl, nw, im, tl, sk, iq, pa, sn, be, w, hP, hm, hAB, hGX, hMj⟩
set_option maxHeartbeats 4000000 in
set_option maxRecDepth 100000 in
theorem lawk_4 (C : lawC p s m c b L xs D) (I : lawI D s a am H locs) (hl : lv_has ls 4 [(0, .ref b), (1, .ref a), (2, .ref am), (3, .int i)]) (hB : lawB i L) (hc : cells + 13 ≤ 600000) (hs : slots + 402 ≤ 7302250) (kk : ∀ (H1 : Heap) (locs1 : List Loc), lawI D s a am H1 locs1 → W p l e room_1 s m #[Value.ref b] below meth c H1 locs1 (cells + 13) (slots + 402) Q (F0 m 1296 ls [])) : W p l e room_1 s m #[Value.ref b] below meth c H locs cells slots Q (F0 m 312 ls []) := by
  obtain ⟨Tc, Tm, Am, Ru, A, x, G, X, M, tp, tr, rr, rl, nw, im, tl, sk, iq, pa, sn, be, w, hP, hm, hAB, hGX, hMj⟩ := I
  obtain ⟨b1, b2, b3, b4, b5⟩ := hB
  have hx := C.1.1
  have hb := C.1.2.1
  refine lv_aload_n hx hb dL_law_312 rfl (lv_at hl 1 rfl) ?_
  refine law_ld C w.2.2.2.2.2 hl (k := 1) (by decide) b1 dL_law_313 dL_law_314 dL_law_315 dL_law_316 dL_law_317 ?_
  refine law_xc (Rc := fun T1 => pcS T1 Ru a tp tr rr rl nw im tl sk iq pa sn be (rV (.int x)) G) C w hP hl.1 (lX11_force l D Tc (lawA s Am) x hP w.2.2.1 (xs (i + 1).toNatClampNeg)) (cwV 1 C.1.2.2.2.2 gL_law_X11_force rfl rfl rfl (by decide +kernel) ⟨Nat.le_of_ble_eq_true rfl, Nat.le_of_ble_eq_true rfl⟩) (fun _ _ _ _ h => h) rfl rfl dL_law_318 dL_law_321 (by omega) (by omega) (fun T1 H1 locs1 w hP => ?_)
  refine lv_aload_n hx hb dL_law_322 rfl (lv_at hl 2 rfl) ?_
  refine law_ld C w.2.2.2.2.2 hl (k := 1) (by decide) b1 dL_law_323 dL_law_324 dL_law_325 dL_law_326 dL_law_327 ?_
  refine law_xm (Rm := fun T2 => mW T2 am A x X M) C w hm hl.1 (lX12_force l D Tm am A x X M hm (xs (i + 1).toNatClampNeg)) (cwV 1 C.1.2.2.2.2 gL_law_X12_force rfl rfl rfl (by decide +kernel) ⟨Nat.le_of_ble_eq_true rfl, Nat.le_of_ble_eq_true rfl⟩) (fun _ _ h => h) rfl rfl dL_law_328 dL_law_331 (by omega) (by omega) (fun T2 H2 locs2 w hm => ?_)
  refine lv_goto (tgt := 1296) hx hb dL_law_332 (by decide) ?_
  refine W.widen (k := cells + 13) (n := slots + 402) (by omega) (by omega) ?_
  exact kk H2 locs2 ⟨T1, T2, Am, Ru, A, x, G, X, M, tp, tr, rr, rl, nw, im, tl, sk, iq, pa, sn, be, w, hP, hm, hAB, hGX, hMj⟩
set_option maxHeartbeats 4000000 in
set_option maxRecDepth 100000 in
theorem lawk_5 (C : lawC p s m c b L xs D) (I : lawI D s a am H locs) (hl : lv_has ls 4 [(0, .ref b), (1, .ref a), (2, .ref am), (3, .int i)]) (hB : lawB i L) (hc : cells + 13 ≤ 600000) (hs : slots + 402 ≤ 7302250) (kk : ∀ (H1 : Heap) (locs1 : List Loc), lawI D s a am H1 locs1 → W p l e room_1 s m #[Value.ref b] below meth c H1 locs1 (cells + 13) (slots + 402) Q (F0 m 1296 ls [])) : W p l e room_1 s m #[Value.ref b] below meth c H locs cells slots Q (F0 m 335 ls []) := by
  obtain ⟨Tc, Tm, Am, Ru, A, x, G, X, M, tp, tr, rr, rl, nw, im, tl, sk, iq, pa, sn, be, w, hP, hm, hAB, hGX, hMj⟩ := I
  obtain ⟨b1, b2, b3, b4, b5⟩ := hB
  have hx := C.1.1
  have hb := C.1.2.1
  refine lv_aload_n hx hb dL_law_335 rfl (lv_at hl 1 rfl) ?_
  refine law_ld C w.2.2.2.2.2 hl (k := 1) (by decide) b1 dL_law_336 dL_law_337 dL_law_338 dL_law_339 dL_law_340 ?_
  refine law_ld C w.2.2.2.2.2 hl (k := 2) (by decide) b2 dL_law_341 dL_law_342 dL_law_343 dL_law_344 dL_law_345 ?_
  refine law_xc (Rc := fun T1 => pcS T1 Ru a tp tr rr rl nw im tl sk iq pa sn be (rV (.int x)) G) C w hP hl.1 (lX11_at l D Tc (lawA s Am) x hP w.2.2.1 (xs (i + 1).toNatClampNeg) (xs (i + 2).toNatClampNeg)) (cwV 2 C.1.2.2.2.2 gL_law_X11_at rfl rfl rfl (by decide +kernel) ⟨Nat.le_of_ble_eq_true rfl, Nat.le_of_ble_eq_true rfl⟩) (fun _ _ _ _ h => h) rfl rfl dL_law_346 dL_law_349 (by omega) (by omega) (fun T1 H1 locs1 w hP => ?_)
  refine lv_aload_n hx hb dL_law_350 rfl (lv_at hl 2 rfl) ?_
  refine law_ld C w.2.2.2.2.2 hl (k := 1) (by decide) b1 dL_law_351 dL_law_352 dL_law_353 dL_law_354 dL_law_355 ?_
  refine law_ld C w.2.2.2.2.2 hl (k := 2) (by decide) b2 dL_law_356 dL_law_357 dL_law_358 dL_law_359 dL_law_360 ?_
  refine law_xm (Rm := fun T2 => mW T2 am A x X M) C w hm hl.1 (lX12_at l D Tm am A x X M hm (xs (i + 1).toNatClampNeg) (xs (i + 2).toNatClampNeg)) (cwV 2 C.1.2.2.2.2 gL_law_X12_at rfl rfl rfl (by decide +kernel) ⟨Nat.le_of_ble_eq_true rfl, Nat.le_of_ble_eq_true rfl⟩) (fun _ _ h => h) rfl rfl dL_law_361 dL_law_364 (by omega) (by omega) (fun T2 H2 locs2 w hm => ?_)
  refine lv_goto (tgt := 1296) hx hb dL_law_365 (by decide) ?_
  refine W.widen (k := cells + 13) (n := slots + 402) (by omega) (by omega) ?_
  exact kk H2 locs2 ⟨T1, T2, Am, Ru, A, x, G, X, M, tp, tr, rr, rl, nw, im, tl, sk, iq, pa, sn, be, w, hP, hm, hAB, hGX, hMj⟩
set_option maxHeartbeats 4000000 in
set_option maxRecDepth 100000 in
theorem lawk_6 (C : lawC p s m c b L xs D) (I : lawI D s a am H locs) (hl : lv_has ls 4 [(0, .ref b), (1, .ref a), (2, .ref am), (3, .int i)]) (hB : lawB i L) (hc : cells + 13 ≤ 600000) (hs : slots + 402 ≤ 7302250) (kk : ∀ (H1 : Heap) (locs1 : List Loc), lawI D s a am H1 locs1 → W p l e room_1 s m #[Value.ref b] below meth c H1 locs1 (cells + 13) (slots + 402) Q (F0 m 1296 ls [])) : W p l e room_1 s m #[Value.ref b] below meth c H locs cells slots Q (F0 m 368 ls []) := by
  obtain ⟨Tc, Tm, Am, Ru, A, x, G, X, M, tp, tr, rr, rl, nw, im, tl, sk, iq, pa, sn, be, w, hP, hm, hAB, hGX, hMj⟩ := I
  obtain ⟨b1, b2, b3, b4, b5⟩ := hB
  have hx := C.1.1
  have hb := C.1.2.1
  refine lv_aload_n hx hb dL_law_368 rfl (lv_at hl 1 rfl) ?_
  refine law_ld C w.2.2.2.2.2 hl (k := 1) (by decide) b1 dL_law_369 dL_law_370 dL_law_371 dL_law_372 dL_law_373 ?_
  refine law_ld C w.2.2.2.2.2 hl (k := 2) (by decide) b2 dL_law_374 dL_law_375 dL_law_376 dL_law_377 dL_law_378 ?_
  refine law_xc (Rc := fun T1 => pcS T1 Ru a tp tr rr rl nw im tl sk iq pa sn be (rV (.int x)) G) C w hP hl.1 (lX11_person l D Tc (lawA s Am) x hP w.2.2.1 (xs (i + 1).toNatClampNeg) (xs (i + 2).toNatClampNeg)) (cwV 2 C.1.2.2.2.2 gL_law_X11_person rfl rfl rfl (by decide +kernel) ⟨Nat.le_of_ble_eq_true rfl, Nat.le_of_ble_eq_true rfl⟩) (fun _ _ _ _ h => h) rfl rfl dL_law_379 dL_law_382 (by omega) (by omega) (fun T1 H1 locs1 w hP => ?_)
  refine lv_aload_n hx hb dL_law_383 rfl (lv_at hl 2 rfl) ?_
  refine law_ld C w.2.2.2.2.2 hl (k := 1) (by decide) b1 dL_law_384 dL_law_385 dL_law_386 dL_law_387 dL_law_388 ?_
  refine law_ld C w.2.2.2.2.2 hl (k := 2) (by decide) b2 dL_law_389 dL_law_390 dL_law_391 dL_law_392 dL_law_393 ?_
  refine law_xm (Rm := fun T2 => mW T2 am A x X M) C w hm hl.1 (lX12_person l D Tm am A x X M hm (xs (i + 1).toNatClampNeg) (xs (i + 2).toNatClampNeg)) (cwV 2 C.1.2.2.2.2 gL_law_X12_person rfl rfl rfl (by decide +kernel) ⟨Nat.le_of_ble_eq_true rfl, Nat.le_of_ble_eq_true rfl⟩) (fun _ _ h => h) rfl rfl dL_law_394 dL_law_397 (by omega) (by omega) (fun T2 H2 locs2 w hm => ?_)
  refine lv_goto (tgt := 1296) hx hb dL_law_398 (by decide) ?_
  refine W.widen (k := cells + 13) (n := slots + 402) (by omega) (by omega) ?_
  exact kk H2 locs2 ⟨T1, T2, Am, Ru, A, x, G, X, M, tp, tr, rr, rl, nw, im, tl, sk, iq, pa, sn, be, w, hP, hm, hAB, hGX, hMj⟩
set_option maxHeartbeats 4000000 in
set_option maxRecDepth 100000 in
theorem lawk_7 (C : lawC p s m c b L xs D) (I : lawI D s a am H locs) (hl : lv_has ls 4 [(0, .ref b), (1, .ref a), (2, .ref am), (3, .int i)]) (hB : lawB i L) (hc : cells + 13 ≤ 600000) (hs : slots + 402 ≤ 7302250) (kk : ∀ (H1 : Heap) (locs1 : List Loc), lawI D s a am H1 locs1 → W p l e room_1 s m #[Value.ref b] below meth c H1 locs1 (cells + 13) (slots + 402) Q (F0 m 1296 ls [])) : W p l e room_1 s m #[Value.ref b] below meth c H locs cells slots Q (F0 m 401 ls []) := by
  obtain ⟨Tc, Tm, Am, Ru, A, x, G, X, M, tp, tr, rr, rl, nw, im, tl, sk, iq, pa, sn, be, w, hP, hm, hAB, hGX, hMj⟩ := I
  obtain ⟨b1, b2, b3, b4, b5⟩ := hB
  have hx := C.1.1
  have hb := C.1.2.1
  refine lv_aload_n hx hb dL_law_401 rfl (lv_at hl 1 rfl) ?_
  refine law_ld C w.2.2.2.2.2 hl (k := 1) (by decide) b1 dL_law_402 dL_law_403 dL_law_404 dL_law_405 dL_law_406 ?_
  refine law_ld C w.2.2.2.2.2 hl (k := 2) (by decide) b2 dL_law_407 dL_law_408 dL_law_409 dL_law_410 dL_law_411 ?_
  refine law_xc (Rc := fun T1 => pcS T1 Ru a tp tr rr rl nw im tl sk iq pa sn be (rV (.int x)) G) C w hP hl.1 (lX11_crowd l D Tc (lawA s Am) x hP w.2.2.1 (xs (i + 1).toNatClampNeg) (xs (i + 2).toNatClampNeg)) (cwV 2 C.1.2.2.2.2 gL_law_X11_crowd rfl rfl rfl (by decide +kernel) ⟨Nat.le_of_ble_eq_true rfl, Nat.le_of_ble_eq_true rfl⟩) (fun _ _ _ _ h => h) rfl rfl dL_law_412 dL_law_415 (by omega) (by omega) (fun T1 H1 locs1 w hP => ?_)
  refine lv_aload_n hx hb dL_law_416 rfl (lv_at hl 2 rfl) ?_
  refine law_ld C w.2.2.2.2.2 hl (k := 1) (by decide) b1 dL_law_417 dL_law_418 dL_law_419 dL_law_420 dL_law_421 ?_
  refine law_ld C w.2.2.2.2.2 hl (k := 2) (by decide) b2 dL_law_422 dL_law_423 dL_law_424 dL_law_425 dL_law_426 ?_
  refine law_xm (Rm := fun T2 => mW T2 am A x X M) C w hm hl.1 (lX12_crowd l D Tm am A x X M hm (xs (i + 1).toNatClampNeg) (xs (i + 2).toNatClampNeg)) (cwV 2 C.1.2.2.2.2 gL_law_X12_crowd rfl rfl rfl (by decide +kernel) ⟨Nat.le_of_ble_eq_true rfl, Nat.le_of_ble_eq_true rfl⟩) (fun _ _ h => h) rfl rfl dL_law_427 dL_law_430 (by omega) (by omega) (fun T2 H2 locs2 w hm => ?_)
  refine lv_goto (tgt := 1296) hx hb dL_law_431 (by decide) ?_
  refine W.widen (k := cells + 13) (n := slots + 402) (by omega) (by omega) ?_
  exact kk H2 locs2 ⟨T1, T2, Am, Ru, A, x, G, X, M, tp, tr, rr, rl, nw, im, tl, sk, iq, pa, sn, be, w, hP, hm, hAB, hGX, hMj⟩
set_option maxHeartbeats 4000000 in
set_option maxRecDepth 100000 in
theorem lawk_8 (C : lawC p s m c b L xs D) (I : lawI D s a am H locs) (hl : lv_has ls 4 [(0, .ref b), (1, .ref a), (2, .ref am), (3, .int i)]) (hB : lawB i L) (hc : cells + 13 ≤ 600000) (hs : slots + 402 ≤ 7302250) (kk : ∀ (H1 : Heap) (locs1 : List Loc), lawI D s a am H1 locs1 → W p l e room_1 s m #[Value.ref b] below meth c H1 locs1 (cells + 13) (slots + 402) Q (F0 m 1296 ls [])) : W p l e room_1 s m #[Value.ref b] below meth c H locs cells slots Q (F0 m 434 ls []) := by
  obtain ⟨Tc, Tm, Am, Ru, A, x, G, X, M, tp, tr, rr, rl, nw, im, tl, sk, iq, pa, sn, be, w, hP, hm, hAB, hGX, hMj⟩ := I
  obtain ⟨b1, b2, b3, b4, b5⟩ := hB
  have hx := C.1.1
  have hb := C.1.2.1
  refine lv_aload_n hx hb dL_law_434 rfl (lv_at hl 1 rfl) ?_
  refine law_ld C w.2.2.2.2.2 hl (k := 1) (by decide) b1 dL_law_435 dL_law_436 dL_law_437 dL_law_438 dL_law_439 ?_
  refine law_ld C w.2.2.2.2.2 hl (k := 2) (by decide) b2 dL_law_440 dL_law_441 dL_law_442 dL_law_443 dL_law_444 ?_
  refine law_ld C w.2.2.2.2.2 hl (k := 3) (by decide) b3 dL_law_445 dL_law_446 dL_law_447 dL_law_448 dL_law_449 ?_
  refine law_xc (Rc := fun T1 => pcS T1 Ru a tp tr rr rl nw im tl sk iq pa sn be (rV (.int x)) G) C w hP hl.1 (lX11_shake l D Tc (lawA s Am) x hP w.2.2.1 (xs (i + 1).toNatClampNeg) (xs (i + 2).toNatClampNeg) (xs (i + 3).toNatClampNeg)) (cwV 3 C.1.2.2.2.2 gL_law_X11_shake rfl rfl rfl (by decide +kernel) ⟨Nat.le_of_ble_eq_true rfl, Nat.le_of_ble_eq_true rfl⟩) (fun _ _ _ _ h => h) rfl rfl dL_law_450 dL_law_453 (by omega) (by omega) (fun T1 H1 locs1 w hP => ?_)
  refine lv_aload_n hx hb dL_law_454 rfl (lv_at hl 2 rfl) ?_
  refine law_ld C w.2.2.2.2.2 hl (k := 1) (by decide) b1 dL_law_455 dL_law_456 dL_law_457 dL_law_458 dL_law_459 ?_
  refine law_ld C w.2.2.2.2.2 hl (k := 2) (by decide) b2 dL_law_460 dL_law_461 dL_law_462 dL_law_463 dL_law_464 ?_
  refine law_ld C w.2.2.2.2.2 hl (k := 3) (by decide) b3 dL_law_465 dL_law_466 dL_law_467 dL_law_468 dL_law_469 ?_
  refine law_xm (Rm := fun T2 => mW T2 am A x X M) C w hm hl.1 (lX12_shake l D Tm am A x X M hm (xs (i + 1).toNatClampNeg) (xs (i + 2).toNatClampNeg) (xs (i + 3).toNatClampNeg)) (cwV 3 C.1.2.2.2.2 gL_law_X12_shake rfl rfl rfl (by decide +kernel) ⟨Nat.le_of_ble_eq_true rfl, Nat.le_of_ble_eq_true rfl⟩) (fun _ _ h => h) rfl rfl dL_law_470 dL_law_473 (by omega) (by omega) (fun T2 H2 locs2 w hm => ?_)
  refine lv_goto (tgt := 1296) hx hb dL_law_474 (by decide) ?_
  refine W.widen (k := cells + 13) (n := slots + 402) (by omega) (by omega) ?_
  exact kk H2 locs2 ⟨T1, T2, Am, Ru, A, x, G, X, M, tp, tr, rr, rl, nw, im, tl, sk, iq, pa, sn, be, w, hP, hm, hAB, hGX, hMj⟩
set_option maxHeartbeats 4000000 in
set_option maxRecDepth 100000 in
theorem lawk_9 (C : lawC p s m c b L xs D) (I : lawI D s a am H locs) (hl : lv_has ls 4 [(0, .ref b), (1, .ref a), (2, .ref am), (3, .int i)]) (hB : lawB i L) (hc : cells + 13 ≤ 600000) (hs : slots + 402 ≤ 7302250) (kk : ∀ (H1 : Heap) (locs1 : List Loc), lawI D s a am H1 locs1 → W p l e room_1 s m #[Value.ref b] below meth c H1 locs1 (cells + 13) (slots + 402) Q (F0 m 1296 ls [])) : W p l e room_1 s m #[Value.ref b] below meth c H locs cells slots Q (F0 m 477 ls []) := by
  obtain ⟨Tc, Tm, Am, Ru, A, x, G, X, M, tp, tr, rr, rl, nw, im, tl, sk, iq, pa, sn, be, w, hP, hm, hAB, hGX, hMj⟩ := I
  obtain ⟨b1, b2, b3, b4, b5⟩ := hB
  have hx := C.1.1
  have hb := C.1.2.1
  refine lv_aload_n hx hb dL_law_477 rfl (lv_at hl 1 rfl) ?_
  refine law_ld C w.2.2.2.2.2 hl (k := 1) (by decide) b1 dL_law_478 dL_law_479 dL_law_480 dL_law_481 dL_law_482 ?_
  refine law_ld C w.2.2.2.2.2 hl (k := 2) (by decide) b2 dL_law_483 dL_law_484 dL_law_485 dL_law_486 dL_law_487 ?_
  refine law_xc (Rc := fun T1 => pcS T1 Ru a tp tr rr rl nw im tl sk iq pa sn be (rV (.int x)) G) C w hP hl.1 (lX11_sum l D Tc (lawA s Am) x hP w.2.2.1 (xs (i + 1).toNatClampNeg) (xs (i + 2).toNatClampNeg)) (cwV 2 C.1.2.2.2.2 gL_law_X11_sum rfl rfl rfl (by decide +kernel) ⟨Nat.le_of_ble_eq_true rfl, Nat.le_of_ble_eq_true rfl⟩) (fun _ _ _ _ h => h) rfl rfl dL_law_488 dL_law_491 (by omega) (by omega) (fun T1 H1 locs1 w hP => ?_)
  refine lv_aload_n hx hb dL_law_492 rfl (lv_at hl 2 rfl) ?_
  refine law_ld C w.2.2.2.2.2 hl (k := 1) (by decide) b1 dL_law_493 dL_law_494 dL_law_495 dL_law_496 dL_law_497 ?_
  refine law_ld C w.2.2.2.2.2 hl (k := 2) (by decide) b2 dL_law_498 dL_law_499 dL_law_500 dL_law_501 dL_law_502 ?_
  refine law_xm (Rm := fun T2 => mW T2 am A x X M) C w hm hl.1 (lX12_sum l D Tm am A x X M hm (xs (i + 1).toNatClampNeg) (xs (i + 2).toNatClampNeg)) (cwV 2 C.1.2.2.2.2 gL_law_X12_sum rfl rfl rfl (by decide +kernel) ⟨Nat.le_of_ble_eq_true rfl, Nat.le_of_ble_eq_true rfl⟩) (fun _ _ h => h) rfl rfl dL_law_503 dL_law_506 (by omega) (by omega) (fun T2 H2 locs2 w hm => ?_)
  refine lv_goto (tgt := 1296) hx hb dL_law_507 (by decide) ?_
  refine W.widen (k := cells + 13) (n := slots + 402) (by omega) (by omega) ?_
  exact kk H2 locs2 ⟨T1, T2, Am, Ru, A, x, G, X, M, tp, tr, rr, rl, nw, im, tl, sk, iq, pa, sn, be, w, hP, hm, hAB, hGX, hMj⟩
end LAWK
