set_option maxHeartbeats 4000000 in
set_option maxRecDepth 100000 in
theorem lc_1 {p : Program} {l : Launch} {e : Env} {s : State} {m : MethodId} {below : List Frame} {meth : Method} {c : Code} {b : Nat} {dC : Nat → ClassId} {dI : Nat → Nat → Nat} {A : Nat → Prop} {h0 h1 h2 h3 h4 h5 h6 h7 g0 g1 g2 g3 g4 o0 : Nat} {kT kW kB kV kL kR kQ kO : ClassId} (hx : p.tables.exec = Jvm.exec) (hb : c.code = code) (hml : c.maxLocals = 8) (hown : s.vm.findClass R_law = some m.cls) (hts : ∀ w ∈ wA_, w.before #[Value.ref b] s = true) (hN : nw_ s) (hK : va_K (dC, dI) classes [(kT, .int), (kW, .int), (kB, .boolean), (kV, .int), (kL, .boolean), (kR, .int), (kQ, .int), (kO, .long)] s) (hA : ∀ q : Nat, s.heap.size ≤ q → A q) {L : Nat} {xs : Nat → Int32} (hX : va_X b L xs s s.heap) (hbl : b < s.heap.size) (hbA : ¬ A b) {n cells slots : Nat} {ix : Int32} (hnn : n ≤ 512) (hc0 : cells ≤ 1038) (hs0 : slots ≤ 8931) (h_in0 : vp_in ix L) (h_in1 : vp_in (ix + 1) L) (h_in2 : vp_in (ix + 2) L) (h_in3 : vp_in (ix + 3) L) (h_in4 : vp_in (ix + 4) L) (h_in5 : vp_in (ix + 5) L) (h_in6 : vp_in (ix + 6) L) (K : lk_ p l e s m below meth c b dC dI A h0 h1 h2 h3 h4 h5 h6 h7 g0 g1 g2 g3 g4 o0 kT kW kB kV kL kR kQ kO 917 (n + 1) ix (cells + 1) (slots + 6)) : lk_ p l e s m below meth c b dC dI A h0 h1 h2 h3 h4 h5 h6 h7 g0 g1 g2 g3 g4 o0 kT kW kB kV kL kR kQ kO 205 n ix cells slots := by
  intro bn cy li st df tm tq tp pd wa ai fu mo sp tb wt le am sd s0 s1 s2 s3 lo zt zr zd ou ls H locs I Wr hl hP hD hS
  have hc0 : cells + 0 ≤ room_1.cells := Nat.le_trans hc0 (Nat.le_of_ble_eq_true rfl)
  have hs0 : slots + 0 ≤ room_1.slots := Nat.le_trans hs0 (Nat.le_of_ble_eq_true rfl)
  refine lv_aload_n hx hb d_law_205 rfl (lv_at hl 3 rfl) ?_
  refine lv_aload_n hx hb d_law_206 rfl (lv_at hl 4 rfl) ?_
  refine lv_iload hx hb d_law_207 (lv_at hl 0 rfl) ?_
  refine lv_iconst (v := 1) hx hb d_law_209 (by decide) ?_
  refine lv_iadd hx hb d_law_210 ?_
  refine va_sld hx hb hX hbl hbA hS h_in1 d_law_211 ?_
  refine lv_i2l (v := ((xs (ix + 1).toNatClampNeg).toInt64)) hx hb d_law_212 rfl ?_
  refine lv_bipush (v := 32) hx hb d_law_213 (by decide) ?_
  refine lv_lshl (v := (((xs (ix + 1).toNatClampNeg).toInt64) <<< ((32 : Int32).toInt64 &&& 63))) hx hb d_law_215 rfl ?_
  refine lv_aload_n hx hb d_law_216 rfl (lv_at hl 4 rfl) ?_
  refine lv_iload hx hb d_law_217 (lv_at hl 0 rfl) ?_
  refine lv_iconst (v := 2) hx hb d_law_219 (by decide) ?_
  refine lv_iadd hx hb d_law_220 ?_
  refine va_sld hx hb hX hbl hbA hS h_in2 d_law_221 ?_
  refine lv_i2l (v := ((xs (ix + 2).toNatClampNeg).toInt64)) hx hb d_law_222 rfl ?_
  refine lv_ldc2 (v := 4294967295) hx hb hown (hts (.constantLong R_law 19 4294967295) mw_220) d_law_223 ?_
  refine lv_land hx hb d_law_226 ?_
  refine lv_lor hx hb d_law_227 ?_
  refine tpl (y := (vL1_0 xs ix)) rfl ?_
  refine lv_aload_n hx hb d_law_228 rfl (lv_at hl 4 rfl) ?_
  refine lv_iload hx hb d_law_229 (lv_at hl 0 rfl) ?_
  refine lv_iconst (v := 3) hx hb d_law_231 (by decide) ?_
  refine lv_iadd hx hb d_law_232 ?_
  refine va_sld hx hb hX hbl hbA hS h_in3 d_law_233 ?_
  refine lv_i2l (v := ((xs (ix + 3).toNatClampNeg).toInt64)) hx hb d_law_234 rfl ?_
  refine lv_bipush (v := 32) hx hb d_law_235 (by decide) ?_
  refine lv_lshl (v := (((xs (ix + 3).toNatClampNeg).toInt64) <<< ((32 : Int32).toInt64 &&& 63))) hx hb d_law_237 rfl ?_
  refine lv_aload_n hx hb d_law_238 rfl (lv_at hl 4 rfl) ?_
  refine lv_iload hx hb d_law_239 (lv_at hl 0 rfl) ?_
  refine lv_iconst (v := 4) hx hb d_law_241 (by decide) ?_
  refine lv_iadd hx hb d_law_242 ?_
  refine va_sld hx hb hX hbl hbA hS h_in4 d_law_243 ?_
  refine lv_i2l (v := ((xs (ix + 4).toNatClampNeg).toInt64)) hx hb d_law_244 rfl ?_
  refine lv_ldc2 (v := 4294967295) hx hb hown (hts (.constantLong R_law 19 4294967295) mw_220) d_law_245 ?_
  refine lv_land hx hb d_law_248 ?_
  refine lv_lor hx hb d_law_249 ?_
  refine tpl (y := (vL1_1 xs ix)) rfl ?_
  refine lv_aload_n hx hb d_law_250 rfl (lv_at hl 4 rfl) ?_
  refine lv_iload hx hb d_law_251 (lv_at hl 0 rfl) ?_
  refine lv_iconst (v := 5) hx hb d_law_253 (by decide) ?_
  refine lv_iadd hx hb d_law_254 ?_
  refine va_sld hx hb hX hbl hbA hS h_in5 d_law_255 ?_
  refine lv_i2l (v := ((xs (ix + 5).toNatClampNeg).toInt64)) hx hb d_law_256 rfl ?_
  refine lv_bipush (v := 32) hx hb d_law_257 (by decide) ?_
  refine lv_lshl (v := (((xs (ix + 5).toNatClampNeg).toInt64) <<< ((32 : Int32).toInt64 &&& 63))) hx hb d_law_259 rfl ?_
  refine lv_aload_n hx hb d_law_260 rfl (lv_at hl 4 rfl) ?_
  refine lv_iload hx hb d_law_261 (lv_at hl 0 rfl) ?_
  refine lv_bipush (v := 6) hx hb d_law_263 (by decide) ?_
  refine lv_iadd hx hb d_law_265 ?_
  refine va_sld hx hb hX hbl hbA hS h_in6 d_law_266 ?_
  refine lv_i2l (v := ((xs (ix + 6).toNatClampNeg).toInt64)) hx hb d_law_267 rfl ?_
  refine lv_ldc2 (v := 4294967295) hx hb hown (hts (.constantLong R_law 19 4294967295) mw_220) d_law_268 ?_
  refine lv_land hx hb d_law_271 ?_
  refine lv_lor hx hb d_law_272 ?_
  refine tpl (y := (vL1_2 xs ix)) rfl ?_
  have hPc := hP.sub (ws' := [(h0, .inr (4, [.ref h1, .ref h3, .ref h5, .ref h6, .ref h7, .int bn, .int cy, .int li, .int st, .int df, .int tm, .int tq, .int tp, .int pd, .int wa, .int ai, .int fu, .int mo, .int sp])), (h1, .inr (0, [.ref h2])), (h2, .inl (kT, 320, .inl tb)), (h3, .inr (1, [.ref h4, .int wt])), (h4, .inl (kW, 6, .inl le)), (h5, .inr (2, [.int am, .int sd])), (h6, .inr (3, [.long s0, .long s1, .long s2, .long s3])), (h7, .inl (kB, 3, .inl lo))]) [0, 1, 2, 3, 4, 5, 6, 7] rfl
  have hDc := hD.sub (ws' := [(h0, .inr (4, [.ref h1, .ref h3, .ref h5, .ref h6, .ref h7, .int bn, .int cy, .int li, .int st, .int df, .int tm, .int tq, .int tp, .int pd, .int wa, .int ai, .int fu, .int mo, .int sp])), (h1, .inr (0, [.ref h2])), (h2, .inl (kT, 320, .inl tb)), (h3, .inr (1, [.ref h4, .int wt])), (h4, .inl (kW, 6, .inl le)), (h5, .inr (2, [.int am, .int sd])), (h6, .inr (3, [.long s0, .long s1, .long s2, .long s3])), (h7, .inl (kB, 3, .inl lo))]) [0, 1, 2, 3, 4, 5, 6, 7] (by decide) rfl
  have hKc := hK.sub (tys' := [(kT, .int), (kW, .int), (kB, .boolean)]) [0, 1, 2] rfl
  have hFc := va_free (wc := [(h0, .inr (4, [.ref h1, .ref h3, .ref h5, .ref h6, .ref h7, .int bn, .int cy, .int li, .int st, .int df, .int tm, .int tq, .int tp, .int pd, .int wa, .int ai, .int fu, .int mo, .int sp])), (h1, .inr (0, [.ref h2])), (h2, .inl (kT, 320, .inl tb)), (h3, .inr (1, [.ref h4, .int wt])), (h4, .inl (kW, 6, .inl le)), (h5, .inr (2, [.int am, .int sd])), (h6, .inr (3, [.long s0, .long s1, .long s2, .long s3])), (h7, .inl (kB, 3, .inl lo))]) hD hS hA [0, 1, 2, 3, 4, 5, 6, 7] rfl
  refine ca_i (va_runV (As := [.long (vL1_0 xs ix), .long (vL1_1 xs ix), .long (vL1_2 xs ix)]) (rest := []) ⟨hx, hb, hml, hown, hts⟩ (c_X_step l dC dI h0 h1 h2 h3 h4 h5 h6 h7 kT kW kB H.size bn cy li st df tm tq tp pd wa ai fu mo sp tb wt le am sd s0 s1 s2 s3 lo (vL1_0 xs ix) (vL1_1 xs ix) (vL1_2 xs ix)) (cwV 3 hts (gV_ mw_232 mw_230 mw_231 mw_52 mw_229) rfl rfl rfl (by decide +kernel) ⟨Nat.le_of_ble_eq_true rfl, Nat.le_of_ble_eq_true rfl⟩) ⟨fb_, va_recv hKc hPc (ci := 4) (q0 := 0) rfl rfl, pu_ hPc hKc hDc hN⟩ rfl rfl hl.1 rfl (lv_room (Nat.le_of_ble_eq_true rfl)) d_law_273 ⟨hc0, hs0⟩) hS (fun q _ h => hFc q h) hFc (fun t H locs ht hvm hB hz1 hk1 hS => ?_)
  obtain ⟨hP, hD⟩ := aft_ (wr := [(g0, .inr (5, [.int zt, .ref g1, .ref g2, .int wt, .ref g3, .ref g4, .int am, .int bn, .int li, .int st, .int cy, .int pd, .int sp, .int wa, .int ai, .int fu, .long (sd.toInt64), .int df, .int mo, .int tq, .int tp, .int tm, .long s0, .long s1, .long s2, .long s3])), (g1, .inl (kV, 320, .inl tb)), (g2, .inl (kL, 3, .inl lo)), (g3, .inl (kR, 16, .inl zr)), (g4, .inl (kQ, 16, .inl zd)), (o0, .inl (kO, 1, .inr (.inl ou)))]) (w1 := [(h0, .inr (4, [.ref h1, .ref h3, .ref h5, .ref h6, .ref h7, .int bn, .int cy, .int li, .int (vL1_3 xs ix st lo df), .int (vL1_4 xs ix df lo), .int tm, .int (vL1_5 xs ix tq lo df st sp li le tb am sd bn), .int (vL1_6 xs ix tp tq), .int (vL1_7 xs ix pd lo df st sp li), .int (vL1_8 xs ix wa lo df st sp li le tb am sd bn), .int (vL1_9 xs ix ai tb lo df st sp li tq le am sd bn), .int (vL1_10 xs ix fu lo df st sp li tq le tb am sd bn), .int (vL1_11 xs ix mo lo df st sp li), .int (vL1_12 xs ix sp lo)])), (h1, .inr (0, [.ref h2])), (h2, .inl (kT, 320, .inl tb)), (h3, .inr (1, [.ref h4, .int (vL1_13 xs ix wt)])), (h4, .inl (kW, 6, .inl (vL1_14 xs ix le))), (h5, .inr (2, [.int am, .int (vL1_15 xs ix sd lo df st sp li am)])), (h6, .inr (3, [.long (vL1_16 xs ix s0), .long (vL1_17 xs ix s1 lo df st sp li tq le tb am sd bn), .long (vL1_18 xs ix s2 lo df st sp li tq le tb am sd bn), .long (vL1_19 xs ix s3 lo df st sp li)])), (h7, .inl (kB, 3, .inl lo))]) (w2 := [(h0, .inr (4, [.ref h1, .ref h3, .ref h5, .ref h6, .ref h7, .int bn, .int cy, .int li, .int (vL1_3 xs ix st lo df), .int (vL1_4 xs ix df lo), .int tm, .int (vL1_5 xs ix tq lo df st sp li le tb am sd bn), .int (vL1_6 xs ix tp tq), .int (vL1_7 xs ix pd lo df st sp li), .int (vL1_8 xs ix wa lo df st sp li le tb am sd bn), .int (vL1_9 xs ix ai tb lo df st sp li tq le am sd bn), .int (vL1_10 xs ix fu lo df st sp li tq le tb am sd bn), .int (vL1_11 xs ix mo lo df st sp li), .int (vL1_12 xs ix sp lo)])), (h1, .inr (0, [.ref h2])), (h2, .inl (kT, 320, .inl tb)), (h3, .inr (1, [.ref h4, .int (vL1_13 xs ix wt)])), (h4, .inl (kW, 6, .inl (vL1_14 xs ix le))), (h5, .inr (2, [.int am, .int (vL1_15 xs ix sd lo df st sp li am)])), (h6, .inr (3, [.long (vL1_16 xs ix s0), .long (vL1_17 xs ix s1 lo df st sp li tq le tb am sd bn), .long (vL1_18 xs ix s2 lo df st sp li tq le tb am sd bn), .long (vL1_19 xs ix s3 lo df st sp li)])), (h7, .inl (kB, 3, .inl lo)), (g0, .inr (5, [.int zt, .ref g1, .ref g2, .int wt, .ref g3, .ref g4, .int am, .int bn, .int li, .int st, .int cy, .int pd, .int sp, .int wa, .int ai, .int fu, .long (sd.toInt64), .int df, .int mo, .int tq, .int tp, .int tm, .long s0, .long s1, .long s2, .long s3])), (g1, .inl (kV, 320, .inl tb)), (g2, .inl (kL, 3, .inl lo)), (g3, .inl (kR, 16, .inl zr)), (g4, .inl (kQ, 16, .inl zd)), (o0, .inl (kO, 1, .inr (.inl ou)))]) hP hD [0, 1, 2, 3, 4, 5, 6, 7] [8, 9, 10, 11, 12, 13] [6, 7, 8, 9, 10, 11, 12, 13, 0, 1, 2, 3, 4, 5] rfl rfl (by decide) (by decide) hk1 hFc hB ht rfl (by decide)
  refine lv_aload_n hx hb d_law_276 rfl (lv_at hl 2 rfl) ?_
  refine lv_aload_n hx hb d_law_277 rfl (lv_at hl 4 rfl) ?_
  refine lv_iload hx hb d_law_278 (lv_at hl 0 rfl) ?_
  refine lv_iconst (v := 1) hx hb d_law_280 (by decide) ?_
  refine lv_iadd hx hb d_law_281 ?_
  refine va_sld hx hb hX hbl hbA hS h_in1 d_law_282 ?_
  refine lv_i2l (v := ((xs (ix + 1).toNatClampNeg).toInt64)) hx hb d_law_283 rfl ?_
  refine lv_bipush (v := 32) hx hb d_law_284 (by decide) ?_
  refine lv_lshl (v := (((xs (ix + 1).toNatClampNeg).toInt64) <<< ((32 : Int32).toInt64 &&& 63))) hx hb d_law_286 rfl ?_
  refine lv_aload_n hx hb d_law_287 rfl (lv_at hl 4 rfl) ?_
  refine lv_iload hx hb d_law_288 (lv_at hl 0 rfl) ?_
  refine lv_iconst (v := 2) hx hb d_law_290 (by decide) ?_
  refine lv_iadd hx hb d_law_291 ?_
  refine va_sld hx hb hX hbl hbA hS h_in2 d_law_292 ?_
  refine lv_i2l (v := ((xs (ix + 2).toNatClampNeg).toInt64)) hx hb d_law_293 rfl ?_
  refine lv_ldc2 (v := 4294967295) hx hb hown (hts (.constantLong R_law 19 4294967295) mw_220) d_law_294 ?_
  refine lv_land hx hb d_law_297 ?_
  refine lv_lor hx hb d_law_298 ?_
  refine tpl (y := (vL1_0 xs ix)) rfl ?_
  refine lv_aload_n hx hb d_law_299 rfl (lv_at hl 4 rfl) ?_
  refine lv_iload hx hb d_law_300 (lv_at hl 0 rfl) ?_
  refine lv_iconst (v := 3) hx hb d_law_302 (by decide) ?_
  refine lv_iadd hx hb d_law_303 ?_
  refine va_sld hx hb hX hbl hbA hS h_in3 d_law_304 ?_
  refine lv_i2l (v := ((xs (ix + 3).toNatClampNeg).toInt64)) hx hb d_law_305 rfl ?_
  refine lv_bipush (v := 32) hx hb d_law_306 (by decide) ?_
  refine lv_lshl (v := (((xs (ix + 3).toNatClampNeg).toInt64) <<< ((32 : Int32).toInt64 &&& 63))) hx hb d_law_308 rfl ?_
  refine lv_aload_n hx hb d_law_309 rfl (lv_at hl 4 rfl) ?_
  refine lv_iload hx hb d_law_310 (lv_at hl 0 rfl) ?_
  refine lv_iconst (v := 4) hx hb d_law_312 (by decide) ?_
  refine lv_iadd hx hb d_law_313 ?_
  refine va_sld hx hb hX hbl hbA hS h_in4 d_law_314 ?_
  refine lv_i2l (v := ((xs (ix + 4).toNatClampNeg).toInt64)) hx hb d_law_315 rfl ?_
  refine lv_ldc2 (v := 4294967295) hx hb hown (hts (.constantLong R_law 19 4294967295) mw_220) d_law_316 ?_
  refine lv_land hx hb d_law_319 ?_
  refine lv_lor hx hb d_law_320 ?_
  refine tpl (y := (vL1_1 xs ix)) rfl ?_
  refine lv_aload_n hx hb d_law_321 rfl (lv_at hl 4 rfl) ?_
  refine lv_iload hx hb d_law_322 (lv_at hl 0 rfl) ?_
  refine lv_iconst (v := 5) hx hb d_law_324 (by decide) ?_
  refine lv_iadd hx hb d_law_325 ?_
  refine va_sld hx hb hX hbl hbA hS h_in5 d_law_326 ?_
  refine lv_i2l (v := ((xs (ix + 5).toNatClampNeg).toInt64)) hx hb d_law_327 rfl ?_
  refine lv_bipush (v := 32) hx hb d_law_328 (by decide) ?_
  refine lv_lshl (v := (((xs (ix + 5).toNatClampNeg).toInt64) <<< ((32 : Int32).toInt64 &&& 63))) hx hb d_law_330 rfl ?_
  refine lv_aload_n hx hb d_law_331 rfl (lv_at hl 4 rfl) ?_
  refine lv_iload hx hb d_law_332 (lv_at hl 0 rfl) ?_
  refine lv_bipush (v := 6) hx hb d_law_334 (by decide) ?_
  refine lv_iadd hx hb d_law_336 ?_
  refine va_sld hx hb hX hbl hbA hS h_in6 d_law_337 ?_
  refine lv_i2l (v := ((xs (ix + 6).toNatClampNeg).toInt64)) hx hb d_law_338 rfl ?_
  refine lv_ldc2 (v := 4294967295) hx hb hown (hts (.constantLong R_law 19 4294967295) mw_220) d_law_339 ?_
  refine lv_land hx hb d_law_342 ?_
  refine lv_lor hx hb d_law_343 ?_
  refine tpl (y := (vL1_2 xs ix)) rfl ?_
  have hPc := hP.sub (ws' := [(g0, .inr (5, [.int zt, .ref g1, .ref g2, .int wt, .ref g3, .ref g4, .int am, .int bn, .int li, .int st, .int cy, .int pd, .int sp, .int wa, .int ai, .int fu, .long (sd.toInt64), .int df, .int mo, .int tq, .int tp, .int tm, .long s0, .long s1, .long s2, .long s3])), (g1, .inl (kV, 320, .inl tb)), (g2, .inl (kL, 3, .inl lo)), (g3, .inl (kR, 16, .inl zr)), (g4, .inl (kQ, 16, .inl zd))]) [8, 9, 10, 11, 12] rfl
  have hDc := hD.sub (ws' := [(g0, .inr (5, [.int zt, .ref g1, .ref g2, .int wt, .ref g3, .ref g4, .int am, .int bn, .int li, .int st, .int cy, .int pd, .int sp, .int wa, .int ai, .int fu, .long (sd.toInt64), .int df, .int mo, .int tq, .int tp, .int tm, .long s0, .long s1, .long s2, .long s3])), (g1, .inl (kV, 320, .inl tb)), (g2, .inl (kL, 3, .inl lo)), (g3, .inl (kR, 16, .inl zr)), (g4, .inl (kQ, 16, .inl zd))]) [8, 9, 10, 11, 12] (by decide) rfl
  have hKc := hK.sub (tys' := [(kV, .int), (kL, .boolean), (kR, .int), (kQ, .int)]) [3, 4, 5, 6] rfl
  have hFc := va_free (wc := [(g0, .inr (5, [.int zt, .ref g1, .ref g2, .int wt, .ref g3, .ref g4, .int am, .int bn, .int li, .int st, .int cy, .int pd, .int sp, .int wa, .int ai, .int fu, .long (sd.toInt64), .int df, .int mo, .int tq, .int tp, .int tm, .long s0, .long s1, .long s2, .long s3])), (g1, .inl (kV, 320, .inl tb)), (g2, .inl (kL, 3, .inl lo)), (g3, .inl (kR, 16, .inl zr)), (g4, .inl (kQ, 16, .inl zd))]) hD hS hA [8, 9, 10, 11, 12] rfl
  refine ca_i (va_runV (As := [.long (vL1_0 xs ix), .long (vL1_1 xs ix), .long (vL1_2 xs ix)]) (rest := [.int (fX_step (vL1_0 xs ix) (vL1_1 xs ix) (vL1_2 xs ix) lo df st sp li)]) ⟨hx, hb, hml, hown, hts⟩ (c_Z_step l dC dI g0 g1 g2 g3 g4 kV kL kR kQ H.size zt wt am bn li st cy pd sp wa ai fu (sd.toInt64) df mo tq tp tm s0 s1 s2 s3 tb lo zr zd (vL1_0 xs ix) (vL1_1 xs ix) (vL1_2 xs ix) (wr_in Wr)) (cwV 3 hts (gV_ mw_236 mw_234 mw_235 mw_168 mw_233) rfl rfl rfl (by decide +kernel) ⟨Nat.le_of_ble_eq_true rfl, Nat.le_of_ble_eq_true rfl⟩) ⟨fb_, va_recv hKc hPc (ci := 5) (q0 := 0) rfl rfl, pu_ hPc hKc hDc hN⟩ rfl rfl hl.1 rfl (lv_room (Nat.le_of_ble_eq_true rfl)) d_law_344 ⟨hc0, hs0⟩) hS (fun q _ h => hFc q h) hFc (fun t H locs ht hvm hB hz1 hk1 hS => ?_)
  obtain ⟨hP, hD⟩ := aft_ (wr := [(h0, .inr (4, [.ref h1, .ref h3, .ref h5, .ref h6, .ref h7, .int bn, .int cy, .int li, .int (vL1_3 xs ix st lo df), .int (vL1_4 xs ix df lo), .int tm, .int (vL1_5 xs ix tq lo df st sp li le tb am sd bn), .int (vL1_6 xs ix tp tq), .int (vL1_7 xs ix pd lo df st sp li), .int (vL1_8 xs ix wa lo df st sp li le tb am sd bn), .int (vL1_9 xs ix ai tb lo df st sp li tq le am sd bn), .int (vL1_10 xs ix fu lo df st sp li tq le tb am sd bn), .int (vL1_11 xs ix mo lo df st sp li), .int (vL1_12 xs ix sp lo)])), (h1, .inr (0, [.ref h2])), (h2, .inl (kT, 320, .inl tb)), (h3, .inr (1, [.ref h4, .int (vL1_13 xs ix wt)])), (h4, .inl (kW, 6, .inl (vL1_14 xs ix le))), (h5, .inr (2, [.int am, .int (vL1_15 xs ix sd lo df st sp li am)])), (h6, .inr (3, [.long (vL1_16 xs ix s0), .long (vL1_17 xs ix s1 lo df st sp li tq le tb am sd bn), .long (vL1_18 xs ix s2 lo df st sp li tq le tb am sd bn), .long (vL1_19 xs ix s3 lo df st sp li)])), (h7, .inl (kB, 3, .inl lo)), (o0, .inl (kO, 1, .inr (.inl ou)))]) (w1 := [(g0, .inr (5, [.int 0, .ref g1, .ref g2, .int (vL1_20 xs ix wt), .ref g3, .ref g4, .int am, .int bn, .int li, .int (vL1_21 xs ix st lo df), .int cy, .int (vL1_22 xs ix pd st lo df sp li), .int (vL1_23 xs ix sp lo), .int (vL1_24 xs ix wa st lo df sp li tb zr zd wt am sd bn), .int (vL1_25 xs ix ai tb st lo df sp li tq zr zd wt am sd bn), .int (vL1_26 xs ix fu st lo df sp li tq tb zr zd wt am sd bn), .long (vL1_27 xs ix sd st lo df sp li am), .int (vL1_28 xs ix df lo), .int (vL1_29 xs ix mo st lo df sp li), .int (vL1_30 xs ix tq st lo df sp li tb zr zd wt am sd bn), .int (vL1_31 xs ix tp tq), .int tm, .long (vL1_32 xs ix s0), .long (vL1_33 xs ix s1 st lo df sp li tq tb zr zd wt am sd bn), .long (vL1_34 xs ix s2 st lo df sp li tq tb zr zd wt am sd bn), .long (vL1_35 xs ix s3 st lo df sp li)])), (g1, .inl (kV, 320, .inl tb)), (g2, .inl (kL, 3, .inl lo)), (g3, .inl (kR, 16, .inl zr)), (g4, .inl (kQ, 16, .inl zd))]) (w2 := [(h0, .inr (4, [.ref h1, .ref h3, .ref h5, .ref h6, .ref h7, .int bn, .int cy, .int li, .int (vL1_3 xs ix st lo df), .int (vL1_4 xs ix df lo), .int tm, .int (vL1_5 xs ix tq lo df st sp li le tb am sd bn), .int (vL1_6 xs ix tp tq), .int (vL1_7 xs ix pd lo df st sp li), .int (vL1_8 xs ix wa lo df st sp li le tb am sd bn), .int (vL1_9 xs ix ai tb lo df st sp li tq le am sd bn), .int (vL1_10 xs ix fu lo df st sp li tq le tb am sd bn), .int (vL1_11 xs ix mo lo df st sp li), .int (vL1_12 xs ix sp lo)])), (h1, .inr (0, [.ref h2])), (h2, .inl (kT, 320, .inl tb)), (h3, .inr (1, [.ref h4, .int (vL1_13 xs ix wt)])), (h4, .inl (kW, 6, .inl (vL1_14 xs ix le))), (h5, .inr (2, [.int am, .int (vL1_15 xs ix sd lo df st sp li am)])), (h6, .inr (3, [.long (vL1_16 xs ix s0), .long (vL1_17 xs ix s1 lo df st sp li tq le tb am sd bn), .long (vL1_18 xs ix s2 lo df st sp li tq le tb am sd bn), .long (vL1_19 xs ix s3 lo df st sp li)])), (h7, .inl (kB, 3, .inl lo)), (g0, .inr (5, [.int 0, .ref g1, .ref g2, .int (vL1_20 xs ix wt), .ref g3, .ref g4, .int am, .int bn, .int li, .int (vL1_21 xs ix st lo df), .int cy, .int (vL1_22 xs ix pd st lo df sp li), .int (vL1_23 xs ix sp lo), .int (vL1_24 xs ix wa st lo df sp li tb zr zd wt am sd bn), .int (vL1_25 xs ix ai tb st lo df sp li tq zr zd wt am sd bn), .int (vL1_26 xs ix fu st lo df sp li tq tb zr zd wt am sd bn), .long (vL1_27 xs ix sd st lo df sp li am), .int (vL1_28 xs ix df lo), .int (vL1_29 xs ix mo st lo df sp li), .int (vL1_30 xs ix tq st lo df sp li tb zr zd wt am sd bn), .int (vL1_31 xs ix tp tq), .int tm, .long (vL1_32 xs ix s0), .long (vL1_33 xs ix s1 st lo df sp li tq tb zr zd wt am sd bn), .long (vL1_34 xs ix s2 st lo df sp li tq tb zr zd wt am sd bn), .long (vL1_35 xs ix s3 st lo df sp li)])), (g1, .inl (kV, 320, .inl tb)), (g2, .inl (kL, 3, .inl lo)), (g3, .inl (kR, 16, .inl zr)), (g4, .inl (kQ, 16, .inl zd)), (o0, .inl (kO, 1, .inr (.inl ou)))]) hP hD [8, 9, 10, 11, 12] [0, 1, 2, 3, 4, 5, 6, 7, 13] [0, 1, 2, 3, 4, 5, 6, 7, 9, 10, 11, 12, 13, 8] rfl rfl (by decide) (by decide) hk1 hFc hB ht rfl (by decide)
  refine lv_icmp_eq (tgt := 917) hx hb d_law_347 (by decide) (fun c_1 => ?_) (fun c_1 => ?_)
  · have q_0 : (vL1_20 xs ix wt) = (vL1_13 xs ix wt) := (e_step (tp := tp) (pd := pd) (wa := wa) (ai := ai) (fu := fu) (mo := mo) (li := li) (lo := lo) (s0 := s0) (s1 := s1) (s2 := s2) (s3 := s3) I hnn Wr).2.1
    have q_1 : (vL1_21 xs ix st lo df) = (vL1_3 xs ix st lo df) := (e_step (tp := tp) (pd := pd) (wa := wa) (ai := ai) (fu := fu) (mo := mo) (li := li) (lo := lo) (s0 := s0) (s1 := s1) (s2 := s2) (s3 := s3) I hnn Wr).2.2.1
    have q_2 : (vL1_22 xs ix pd st lo df sp li) = (vL1_7 xs ix pd lo df st sp li) := (e_step (tp := tp) (pd := pd) (wa := wa) (ai := ai) (fu := fu) (mo := mo) (li := li) (lo := lo) (s0 := s0) (s1 := s1) (s2 := s2) (s3 := s3) I hnn Wr).2.2.2.1
    have q_3 : (vL1_23 xs ix sp lo) = (vL1_12 xs ix sp lo) := (e_step (tp := tp) (pd := pd) (wa := wa) (ai := ai) (fu := fu) (mo := mo) (li := li) (lo := lo) (s0 := s0) (s1 := s1) (s2 := s2) (s3 := s3) I hnn Wr).2.2.2.2.1
    have q_4 : (vL1_24 xs ix wa st lo df sp li tb zr zd wt am sd bn) = (vL1_8 xs ix wa lo df st sp li le tb am sd bn) := (e_step (tp := tp) (pd := pd) (wa := wa) (ai := ai) (fu := fu) (mo := mo) (li := li) (lo := lo) (s0 := s0) (s1 := s1) (s2 := s2) (s3 := s3) I hnn Wr).2.2.2.2.2.1
    have q_5 : (vL1_25 xs ix ai tb st lo df sp li tq zr zd wt am sd bn) = (vL1_9 xs ix ai tb lo df st sp li tq le am sd bn) := (e_step (tp := tp) (pd := pd) (wa := wa) (ai := ai) (fu := fu) (mo := mo) (li := li) (lo := lo) (s0 := s0) (s1 := s1) (s2 := s2) (s3 := s3) I hnn Wr).2.2.2.2.2.2.1
    have q_6 : (vL1_26 xs ix fu st lo df sp li tq tb zr zd wt am sd bn) = (vL1_10 xs ix fu lo df st sp li tq le tb am sd bn) := (e_step (tp := tp) (pd := pd) (wa := wa) (ai := ai) (fu := fu) (mo := mo) (li := li) (lo := lo) (s0 := s0) (s1 := s1) (s2 := s2) (s3 := s3) I hnn Wr).2.2.2.2.2.2.2.1
    have q_7 : (vL1_27 xs ix sd st lo df sp li am) = ((vL1_15 xs ix sd lo df st sp li am).toInt64) := (e_step (tp := tp) (pd := pd) (wa := wa) (ai := ai) (fu := fu) (mo := mo) (li := li) (lo := lo) (s0 := s0) (s1 := s1) (s2 := s2) (s3 := s3) I hnn Wr).2.2.2.2.2.2.2.2.1
    have q_8 : (vL1_28 xs ix df lo) = (vL1_4 xs ix df lo) := (e_step (tp := tp) (pd := pd) (wa := wa) (ai := ai) (fu := fu) (mo := mo) (li := li) (lo := lo) (s0 := s0) (s1 := s1) (s2 := s2) (s3 := s3) I hnn Wr).2.2.2.2.2.2.2.2.2.1
    have q_9 : (vL1_29 xs ix mo st lo df sp li) = (vL1_11 xs ix mo lo df st sp li) := (e_step (tp := tp) (pd := pd) (wa := wa) (ai := ai) (fu := fu) (mo := mo) (li := li) (lo := lo) (s0 := s0) (s1 := s1) (s2 := s2) (s3 := s3) I hnn Wr).2.2.2.2.2.2.2.2.2.2.1
    have q_10 : (vL1_30 xs ix tq st lo df sp li tb zr zd wt am sd bn) = (vL1_5 xs ix tq lo df st sp li le tb am sd bn) := (e_step (tp := tp) (pd := pd) (wa := wa) (ai := ai) (fu := fu) (mo := mo) (li := li) (lo := lo) (s0 := s0) (s1 := s1) (s2 := s2) (s3 := s3) I hnn Wr).2.2.2.2.2.2.2.2.2.2.2.1
    have q_11 : (vL1_31 xs ix tp tq) = (vL1_6 xs ix tp tq) := (e_step (tp := tp) (pd := pd) (wa := wa) (ai := ai) (fu := fu) (mo := mo) (li := li) (lo := lo) (s0 := s0) (s1 := s1) (s2 := s2) (s3 := s3) I hnn Wr).2.2.2.2.2.2.2.2.2.2.2.2.1
    have q_12 : (vL1_32 xs ix s0) = (vL1_16 xs ix s0) := (e_step (tp := tp) (pd := pd) (wa := wa) (ai := ai) (fu := fu) (mo := mo) (li := li) (lo := lo) (s0 := s0) (s1 := s1) (s2 := s2) (s3 := s3) I hnn Wr).2.2.2.2.2.2.2.2.2.2.2.2.2.1
    have q_13 : (vL1_33 xs ix s1 st lo df sp li tq tb zr zd wt am sd bn) = (vL1_17 xs ix s1 lo df st sp li tq le tb am sd bn) := (e_step (tp := tp) (pd := pd) (wa := wa) (ai := ai) (fu := fu) (mo := mo) (li := li) (lo := lo) (s0 := s0) (s1 := s1) (s2 := s2) (s3 := s3) I hnn Wr).2.2.2.2.2.2.2.2.2.2.2.2.2.2.1
    have q_14 : (vL1_34 xs ix s2 st lo df sp li tq tb zr zd wt am sd bn) = (vL1_18 xs ix s2 lo df st sp li tq le tb am sd bn) := (e_step (tp := tp) (pd := pd) (wa := wa) (ai := ai) (fu := fu) (mo := mo) (li := li) (lo := lo) (s0 := s0) (s1 := s1) (s2 := s2) (s3 := s3) I hnn Wr).2.2.2.2.2.2.2.2.2.2.2.2.2.2.2.1
    have q_15 : (vL1_35 xs ix s3 st lo df sp li) = (vL1_19 xs ix s3 lo df st sp li) := (e_step (tp := tp) (pd := pd) (wa := wa) (ai := ai) (fu := fu) (mo := mo) (li := li) (lo := lo) (s0 := s0) (s1 := s1) (s2 := s2) (s3 := s3) I hnn Wr).2.2.2.2.2.2.2.2.2.2.2.2.2.2.2.2
    rw [q_0, q_1, q_2, q_3, q_4, q_5, q_6, q_7, q_8, q_9, q_10, q_11, q_12, q_13, q_14, q_15] at hP hD
    have hP : va_P (dC, dI) classes [(h0, .inr (4, [.ref h1, .ref h3, .ref h5, .ref h6, .ref h7, .int bn, .int cy, .int li, .int (vL1_3 xs ix st lo df), .int (vL1_4 xs ix df lo), .int tm, .int (vL1_5 xs ix tq lo df st sp li le tb am sd bn), .int (vL1_6 xs ix tp tq), .int (vL1_7 xs ix pd lo df st sp li), .int (vL1_8 xs ix wa lo df st sp li le tb am sd bn), .int (vL1_9 xs ix ai tb lo df st sp li tq le am sd bn), .int (vL1_10 xs ix fu lo df st sp li tq le tb am sd bn), .int (vL1_11 xs ix mo lo df st sp li), .int (vL1_12 xs ix sp lo)])), (h1, .inr (0, [.ref h2])), (h2, .inl (kT, 320, .inl tb)), (h3, .inr (1, [.ref h4, .int (vL1_13 xs ix wt)])), (h4, .inl (kW, 6, .inl (vL1_14 xs ix le))), (h5, .inr (2, [.int am, .int (vL1_15 xs ix sd lo df st sp li am)])), (h6, .inr (3, [.long (vL1_16 xs ix s0), .long (vL1_17 xs ix s1 lo df st sp li tq le tb am sd bn), .long (vL1_18 xs ix s2 lo df st sp li tq le tb am sd bn), .long (vL1_19 xs ix s3 lo df st sp li)])), (h7, .inl (kB, 3, .inl lo)), (g0, .inr (5, [.int 0, .ref g1, .ref g2, .int (vL1_13 xs ix wt), .ref g3, .ref g4, .int am, .int bn, .int li, .int (vL1_3 xs ix st lo df), .int cy, .int (vL1_7 xs ix pd lo df st sp li), .int (vL1_12 xs ix sp lo), .int (vL1_8 xs ix wa lo df st sp li le tb am sd bn), .int (vL1_9 xs ix ai tb lo df st sp li tq le am sd bn), .int (vL1_10 xs ix fu lo df st sp li tq le tb am sd bn), .long ((vL1_15 xs ix sd lo df st sp li am).toInt64), .int (vL1_4 xs ix df lo), .int (vL1_11 xs ix mo lo df st sp li), .int (vL1_5 xs ix tq lo df st sp li le tb am sd bn), .int (vL1_6 xs ix tp tq), .int tm, .long (vL1_16 xs ix s0), .long (vL1_17 xs ix s1 lo df st sp li tq le tb am sd bn), .long (vL1_18 xs ix s2 lo df st sp li tq le tb am sd bn), .long (vL1_19 xs ix s3 lo df st sp li)])), (g1, .inl (kV, 320, .inl tb)), (g2, .inl (kL, 3, .inl lo)), (g3, .inl (kR, 16, .inl zr)), (g4, .inl (kQ, 16, .inl zd)), (o0, .inl (kO, 1, .inr (.inl ou)))] H := hP
    have hD : va_D A [(h0, .inr (4, [.ref h1, .ref h3, .ref h5, .ref h6, .ref h7, .int bn, .int cy, .int li, .int (vL1_3 xs ix st lo df), .int (vL1_4 xs ix df lo), .int tm, .int (vL1_5 xs ix tq lo df st sp li le tb am sd bn), .int (vL1_6 xs ix tp tq), .int (vL1_7 xs ix pd lo df st sp li), .int (vL1_8 xs ix wa lo df st sp li le tb am sd bn), .int (vL1_9 xs ix ai tb lo df st sp li tq le am sd bn), .int (vL1_10 xs ix fu lo df st sp li tq le tb am sd bn), .int (vL1_11 xs ix mo lo df st sp li), .int (vL1_12 xs ix sp lo)])), (h1, .inr (0, [.ref h2])), (h2, .inl (kT, 320, .inl tb)), (h3, .inr (1, [.ref h4, .int (vL1_13 xs ix wt)])), (h4, .inl (kW, 6, .inl (vL1_14 xs ix le))), (h5, .inr (2, [.int am, .int (vL1_15 xs ix sd lo df st sp li am)])), (h6, .inr (3, [.long (vL1_16 xs ix s0), .long (vL1_17 xs ix s1 lo df st sp li tq le tb am sd bn), .long (vL1_18 xs ix s2 lo df st sp li tq le tb am sd bn), .long (vL1_19 xs ix s3 lo df st sp li)])), (h7, .inl (kB, 3, .inl lo)), (g0, .inr (5, [.int 0, .ref g1, .ref g2, .int (vL1_13 xs ix wt), .ref g3, .ref g4, .int am, .int bn, .int li, .int (vL1_3 xs ix st lo df), .int cy, .int (vL1_7 xs ix pd lo df st sp li), .int (vL1_12 xs ix sp lo), .int (vL1_8 xs ix wa lo df st sp li le tb am sd bn), .int (vL1_9 xs ix ai tb lo df st sp li tq le am sd bn), .int (vL1_10 xs ix fu lo df st sp li tq le tb am sd bn), .long ((vL1_15 xs ix sd lo df st sp li am).toInt64), .int (vL1_4 xs ix df lo), .int (vL1_11 xs ix mo lo df st sp li), .int (vL1_5 xs ix tq lo df st sp li le tb am sd bn), .int (vL1_6 xs ix tp tq), .int tm, .long (vL1_16 xs ix s0), .long (vL1_17 xs ix s1 lo df st sp li tq le tb am sd bn), .long (vL1_18 xs ix s2 lo df st sp li tq le tb am sd bn), .long (vL1_19 xs ix s3 lo df st sp li)])), (g1, .inl (kV, 320, .inl tb)), (g2, .inl (kL, 3, .inl lo)), (g3, .inl (kR, 16, .inl zr)), (g4, .inl (kQ, 16, .inl zd)), (o0, .inl (kO, 1, .inr (.inl ou)))] := hD
    refine W.widen (k := cells + 1) (n := slots + 6) (Nat.le_add_right _ 1) (Nat.le_add_right _ 6) ?_
    exact K bn cy li (vL1_3 xs ix st lo df) (vL1_4 xs ix df lo) tm (vL1_5 xs ix tq lo df st sp li le tb am sd bn) (vL1_6 xs ix tp tq) (vL1_7 xs ix pd lo df st sp li) (vL1_8 xs ix wa lo df st sp li le tb am sd bn) (vL1_9 xs ix ai tb lo df st sp li tq le am sd bn) (vL1_10 xs ix fu lo df st sp li tq le tb am sd bn) (vL1_11 xs ix mo lo df st sp li) (vL1_12 xs ix sp lo) tb (vL1_13 xs ix wt) (vL1_14 xs ix le) am (vL1_15 xs ix sd lo df st sp li am) (vL1_16 xs ix s0) (vL1_17 xs ix s1 lo df st sp li tq le tb am sd bn) (vL1_18 xs ix s2 lo df st sp li tq le tb am sd bn) (vL1_19 xs ix s3 lo df st sp li) lo 0 zr zd ou ls H locs (iv_step I hnn Wr).1 (iv_step (li := li) (lo := lo) I hnn Wr).2 (lv_sub hl [0, 1, 2, 3, 4] rfl) hP hD hS
  · exact absurd (e_step (tp := tp) (pd := pd) (wa := wa) (ai := ai) (fu := fu) (mo := mo) (li := li) (lo := lo) (s0 := s0) (s1 := s1) (s2 := s2) (s3 := s3) I hnn Wr).1 c_1
