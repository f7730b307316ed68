set_option maxHeartbeats 4000000 in
set_option maxRecDepth 100000 in
theorem lc_0 {p : Program} {l : Launch} {e : Env} {s : State} {m : MethodId} {below : List Frame} {meth : Method} {c : Code} {b : Nat} {dC : Nat → ClassId} {dI : Nat → Nat → Nat} {A : Nat → Prop} {h0 h1 h2 h3 h4 h5 h6 h7 g0 g1 g2 g3 g4 o0 : Nat} {kT kW kB kV kL kR kQ kO : ClassId} (hx : p.tables.exec = Jvm.exec) (hb : c.code = code) (hml : c.maxLocals = 8) (hown : s.vm.findClass R_law = some m.cls) (hts : ∀ w ∈ wA_, w.before #[Value.ref b] s = true) (hN : nw_ s) (hK : va_K (dC, dI) classes [(kT, .int), (kW, .int), (kB, .boolean), (kV, .int), (kL, .boolean), (kR, .int), (kQ, .int), (kO, .long)] s) (hA : ∀ q : Nat, s.heap.size ≤ q → A q) {L : Nat} {xs : Nat → Int32} (hX : va_X b L xs s s.heap) (hbl : b < s.heap.size) (hbA : ¬ A b) {n cells slots : Nat} {ix : Int32} (hnn : n ≤ 512) (hc0 : cells ≤ 1038) (hs0 : slots ≤ 8931) (h_in0 : vp_in ix L) (h_in1 : vp_in (ix + 1) L) (h_in2 : vp_in (ix + 2) L) (h_in3 : vp_in (ix + 3) L) (h_in4 : vp_in (ix + 4) L) (h_in5 : vp_in (ix + 5) L) (h_in6 : vp_in (ix + 6) L) (K : lk_ p l e s m below meth c b dC dI A h0 h1 h2 h3 h4 h5 h6 h7 g0 g1 g2 g3 g4 o0 kT kW kB kV kL kR kQ kO 917 (n + 1) ix (cells + 1) (slots + 6)) : lk_ p l e s m below meth c b dC dI A h0 h1 h2 h3 h4 h5 h6 h7 g0 g1 g2 g3 g4 o0 kT kW kB kV kL kR kQ kO 112 n ix cells slots := by
  intro bn cy li st df tm tq tp pd wa ai fu mo sp tb wt le am sd s0 s1 s2 s3 lo zt zr zd ou ls H locs I Wr hl hP hD hS
  have hc0 : cells + 0 ≤ room_1.cells := Nat.le_trans hc0 (Nat.le_of_ble_eq_true rfl)
  have hs0 : slots + 0 ≤ room_1.slots := Nat.le_trans hs0 (Nat.le_of_ble_eq_true rfl)
  refine lv_aload_n hx hb d_law_112 rfl (lv_at hl 3 rfl) ?_
  refine lv_aload_n hx hb d_law_113 rfl (lv_at hl 4 rfl) ?_
  refine lv_iload hx hb d_law_114 (lv_at hl 0 rfl) ?_
  refine lv_iconst (v := 1) hx hb d_law_116 (by decide) ?_
  refine lv_iadd hx hb d_law_117 ?_
  refine va_sld hx hb hX hbl hbA hS h_in1 d_law_118 ?_
  refine lv_aload_n hx hb d_law_119 rfl (lv_at hl 4 rfl) ?_
  refine lv_iload hx hb d_law_120 (lv_at hl 0 rfl) ?_
  refine lv_iconst (v := 2) hx hb d_law_122 (by decide) ?_
  refine lv_iadd hx hb d_law_123 ?_
  refine va_sld hx hb hX hbl hbA hS h_in2 d_law_124 ?_
  refine lv_aload_n hx hb d_law_125 rfl (lv_at hl 4 rfl) ?_
  refine lv_iload hx hb d_law_126 (lv_at hl 0 rfl) ?_
  refine lv_iconst (v := 3) hx hb d_law_128 (by decide) ?_
  refine lv_iadd hx hb d_law_129 ?_
  refine va_sld hx hb hX hbl hbA hS h_in3 d_law_130 ?_
  refine lv_aload_n hx hb d_law_131 rfl (lv_at hl 4 rfl) ?_
  refine lv_iload hx hb d_law_132 (lv_at hl 0 rfl) ?_
  refine lv_iconst (v := 4) hx hb d_law_134 (by decide) ?_
  refine lv_iadd hx hb d_law_135 ?_
  refine va_sld hx hb hX hbl hbA hS h_in4 d_law_136 ?_
  refine lv_i2l (v := ((xs (ix + 4).toNatClampNeg).toInt64)) hx hb d_law_137 rfl ?_
  refine lv_bipush (v := 32) hx hb d_law_138 (by decide) ?_
  refine lv_lshl (v := (((xs (ix + 4).toNatClampNeg).toInt64) <<< ((32 : Int32).toInt64 &&& 63))) hx hb d_law_140 rfl ?_
  refine lv_aload_n hx hb d_law_141 rfl (lv_at hl 4 rfl) ?_
  refine lv_iload hx hb d_law_142 (lv_at hl 0 rfl) ?_
  refine lv_iconst (v := 5) hx hb d_law_144 (by decide) ?_
  refine lv_iadd hx hb d_law_145 ?_
  refine va_sld hx hb hX hbl hbA hS h_in5 d_law_146 ?_
  refine lv_i2l (v := ((xs (ix + 5).toNatClampNeg).toInt64)) hx hb d_law_147 rfl ?_
  refine lv_ldc2 (v := 4294967295) hx hb hown (hts (.constantLong R_law 19 4294967295) mw_220) d_law_148 ?_
  refine lv_land hx hb d_law_151 ?_
  refine lv_lor hx hb d_law_152 ?_
  refine tpl (y := (vL0_0 xs ix)) rfl ?_
  have hPc := hP.sub (ws' := [(h0, .inr (4, [.ref h1, .ref h3, .ref h5, .ref h6, .ref h7, .int bn, .int cy, .int li, .int st, .int df, .int tm, .int tq, .int tp, .int pd, .int wa, .int ai, .int fu, .int mo, .int sp])), (h1, .inr (0, [.ref h2])), (h2, .inl (kT, 320, .inl tb)), (h3, .inr (1, [.ref h4, .int wt])), (h4, .inl (kW, 6, .inl le)), (h5, .inr (2, [.int am, .int sd])), (h6, .inr (3, [.long s0, .long s1, .long s2, .long s3])), (h7, .inl (kB, 3, .inl lo))]) [0, 1, 2, 3, 4, 5, 6, 7] rfl
  have hDc := hD.sub (ws' := [(h0, .inr (4, [.ref h1, .ref h3, .ref h5, .ref h6, .ref h7, .int bn, .int cy, .int li, .int st, .int df, .int tm, .int tq, .int tp, .int pd, .int wa, .int ai, .int fu, .int mo, .int sp])), (h1, .inr (0, [.ref h2])), (h2, .inl (kT, 320, .inl tb)), (h3, .inr (1, [.ref h4, .int wt])), (h4, .inl (kW, 6, .inl le)), (h5, .inr (2, [.int am, .int sd])), (h6, .inr (3, [.long s0, .long s1, .long s2, .long s3])), (h7, .inl (kB, 3, .inl lo))]) [0, 1, 2, 3, 4, 5, 6, 7] (by decide) rfl
  have hKc := hK.sub (tys' := [(kT, .int), (kW, .int), (kB, .boolean)]) [0, 1, 2] rfl
  have hFc := va_free (wc := [(h0, .inr (4, [.ref h1, .ref h3, .ref h5, .ref h6, .ref h7, .int bn, .int cy, .int li, .int st, .int df, .int tm, .int tq, .int tp, .int pd, .int wa, .int ai, .int fu, .int mo, .int sp])), (h1, .inr (0, [.ref h2])), (h2, .inl (kT, 320, .inl tb)), (h3, .inr (1, [.ref h4, .int wt])), (h4, .inl (kW, 6, .inl le)), (h5, .inr (2, [.int am, .int sd])), (h6, .inr (3, [.long s0, .long s1, .long s2, .long s3])), (h7, .inl (kB, 3, .inl lo))]) hD hS hA [0, 1, 2, 3, 4, 5, 6, 7] rfl
  refine ca_i (va_runV (As := [.int (xs (ix + 1).toNatClampNeg), .int (xs (ix + 2).toNatClampNeg), .int (xs (ix + 3).toNatClampNeg), .long (vL0_0 xs ix)]) (rest := []) ⟨hx, hb, hml, hown, hts⟩ (c_X_table l dC dI h0 h1 h2 h3 h4 h5 h6 h7 kT kW kB H.size bn cy li st df tm tq tp pd wa ai fu mo sp tb wt le am sd s0 s1 s2 s3 lo (xs (ix + 1).toNatClampNeg) (xs (ix + 2).toNatClampNeg) (xs (ix + 3).toNatClampNeg) (vL0_0 xs ix)) (cwV 4 hts (gV_ mw_224 mw_222 mw_223 mw_52 mw_221) rfl rfl rfl (by decide +kernel) ⟨Nat.le_of_ble_eq_true rfl, Nat.le_of_ble_eq_true rfl⟩) ⟨fb_, va_recv hKc hPc (ci := 4) (q0 := 0) rfl rfl, pu_ hPc hKc hDc hN⟩ rfl rfl hl.1 rfl (lv_room (Nat.le_of_ble_eq_true rfl)) d_law_153 ⟨hc0, hs0⟩) hS (fun q _ h => hFc q h) hFc (fun t H locs ht hvm hB hz1 hk1 hS => ?_)
  obtain ⟨hP, hD⟩ := aft_ (wr := [(g0, .inr (5, [.int zt, .ref g1, .ref g2, .int wt, .ref g3, .ref g4, .int am, .int bn, .int li, .int st, .int cy, .int pd, .int sp, .int wa, .int ai, .int fu, .long (sd.toInt64), .int df, .int mo, .int tq, .int tp, .int tm, .long s0, .long s1, .long s2, .long s3])), (g1, .inl (kV, 320, .inl tb)), (g2, .inl (kL, 3, .inl lo)), (g3, .inl (kR, 16, .inl zr)), (g4, .inl (kQ, 16, .inl zd)), (o0, .inl (kO, 1, .inr (.inl ou)))]) (w1 := [(h0, .inr (4, [.ref h1, .ref h3, .ref h5, .ref h6, .ref h7, .int bn, .int cy, .int li, .int st, .int df, .int tm, .int tq, .int tp, .int pd, .int wa, .int ai, .int fu, .int mo, .int sp])), (h1, .inr (0, [.ref h2])), (h2, .inl (kT, 320, .inl (vL0_1 xs ix tb))), (h3, .inr (1, [.ref h4, .int wt])), (h4, .inl (kW, 6, .inl le)), (h5, .inr (2, [.int am, .int sd])), (h6, .inr (3, [.long s0, .long s1, .long s2, .long s3])), (h7, .inl (kB, 3, .inl lo))]) (w2 := [(h0, .inr (4, [.ref h1, .ref h3, .ref h5, .ref h6, .ref h7, .int bn, .int cy, .int li, .int st, .int df, .int tm, .int tq, .int tp, .int pd, .int wa, .int ai, .int fu, .int mo, .int sp])), (h1, .inr (0, [.ref h2])), (h2, .inl (kT, 320, .inl (vL0_1 xs ix tb))), (h3, .inr (1, [.ref h4, .int wt])), (h4, .inl (kW, 6, .inl le)), (h5, .inr (2, [.int am, .int sd])), (h6, .inr (3, [.long s0, .long s1, .long s2, .long s3])), (h7, .inl (kB, 3, .inl lo)), (g0, .inr (5, [.int zt, .ref g1, .ref g2, .int wt, .ref g3, .ref g4, .int am, .int bn, .int li, .int st, .int cy, .int pd, .int sp, .int wa, .int ai, .int fu, .long (sd.toInt64), .int df, .int mo, .int tq, .int tp, .int tm, .long s0, .long s1, .long s2, .long s3])), (g1, .inl (kV, 320, .inl tb)), (g2, .inl (kL, 3, .inl lo)), (g3, .inl (kR, 16, .inl zr)), (g4, .inl (kQ, 16, .inl zd)), (o0, .inl (kO, 1, .inr (.inl ou)))]) hP hD [0, 1, 2, 3, 4, 5, 6, 7] [8, 9, 10, 11, 12, 13] [6, 7, 8, 9, 10, 11, 12, 13, 0, 1, 2, 3, 4, 5] rfl rfl (by decide) (by decide) hk1 hFc hB ht rfl (by decide)
  refine lv_aload_n hx hb d_law_156 rfl (lv_at hl 2 rfl) ?_
  refine lv_aload_n hx hb d_law_157 rfl (lv_at hl 4 rfl) ?_
  refine lv_iload hx hb d_law_158 (lv_at hl 0 rfl) ?_
  refine lv_iconst (v := 1) hx hb d_law_160 (by decide) ?_
  refine lv_iadd hx hb d_law_161 ?_
  refine va_sld hx hb hX hbl hbA hS h_in1 d_law_162 ?_
  refine lv_aload_n hx hb d_law_163 rfl (lv_at hl 4 rfl) ?_
  refine lv_iload hx hb d_law_164 (lv_at hl 0 rfl) ?_
  refine lv_iconst (v := 2) hx hb d_law_166 (by decide) ?_
  refine lv_iadd hx hb d_law_167 ?_
  refine va_sld hx hb hX hbl hbA hS h_in2 d_law_168 ?_
  refine lv_aload_n hx hb d_law_169 rfl (lv_at hl 4 rfl) ?_
  refine lv_iload hx hb d_law_170 (lv_at hl 0 rfl) ?_
  refine lv_iconst (v := 3) hx hb d_law_172 (by decide) ?_
  refine lv_iadd hx hb d_law_173 ?_
  refine va_sld hx hb hX hbl hbA hS h_in3 d_law_174 ?_
  refine lv_aload_n hx hb d_law_175 rfl (lv_at hl 4 rfl) ?_
  refine lv_iload hx hb d_law_176 (lv_at hl 0 rfl) ?_
  refine lv_iconst (v := 4) hx hb d_law_178 (by decide) ?_
  refine lv_iadd hx hb d_law_179 ?_
  refine va_sld hx hb hX hbl hbA hS h_in4 d_law_180 ?_
  refine lv_i2l (v := ((xs (ix + 4).toNatClampNeg).toInt64)) hx hb d_law_181 rfl ?_
  refine lv_bipush (v := 32) hx hb d_law_182 (by decide) ?_
  refine lv_lshl (v := (((xs (ix + 4).toNatClampNeg).toInt64) <<< ((32 : Int32).toInt64 &&& 63))) hx hb d_law_184 rfl ?_
  refine lv_aload_n hx hb d_law_185 rfl (lv_at hl 4 rfl) ?_
  refine lv_iload hx hb d_law_186 (lv_at hl 0 rfl) ?_
  refine lv_iconst (v := 5) hx hb d_law_188 (by decide) ?_
  refine lv_iadd hx hb d_law_189 ?_
  refine va_sld hx hb hX hbl hbA hS h_in5 d_law_190 ?_
  refine lv_i2l (v := ((xs (ix + 5).toNatClampNeg).toInt64)) hx hb d_law_191 rfl ?_
  refine lv_ldc2 (v := 4294967295) hx hb hown (hts (.constantLong R_law 19 4294967295) mw_220) d_law_192 ?_
  refine lv_land hx hb d_law_195 ?_
  refine lv_lor hx hb d_law_196 ?_
  refine tpl (y := (vL0_0 xs ix)) rfl ?_
  have hPc := hP.sub (ws' := [(g0, .inr (5, [.int zt, .ref g1, .ref g2, .int wt, .ref g3, .ref g4, .int am, .int bn, .int li, .int st, .int cy, .int pd, .int sp, .int wa, .int ai, .int fu, .long (sd.toInt64), .int df, .int mo, .int tq, .int tp, .int tm, .long s0, .long s1, .long s2, .long s3])), (g1, .inl (kV, 320, .inl tb)), (g2, .inl (kL, 3, .inl lo)), (g3, .inl (kR, 16, .inl zr)), (g4, .inl (kQ, 16, .inl zd))]) [8, 9, 10, 11, 12] rfl
  have hDc := hD.sub (ws' := [(g0, .inr (5, [.int zt, .ref g1, .ref g2, .int wt, .ref g3, .ref g4, .int am, .int bn, .int li, .int st, .int cy, .int pd, .int sp, .int wa, .int ai, .int fu, .long (sd.toInt64), .int df, .int mo, .int tq, .int tp, .int tm, .long s0, .long s1, .long s2, .long s3])), (g1, .inl (kV, 320, .inl tb)), (g2, .inl (kL, 3, .inl lo)), (g3, .inl (kR, 16, .inl zr)), (g4, .inl (kQ, 16, .inl zd))]) [8, 9, 10, 11, 12] (by decide) rfl
  have hKc := hK.sub (tys' := [(kV, .int), (kL, .boolean), (kR, .int), (kQ, .int)]) [3, 4, 5, 6] rfl
  have hFc := va_free (wc := [(g0, .inr (5, [.int zt, .ref g1, .ref g2, .int wt, .ref g3, .ref g4, .int am, .int bn, .int li, .int st, .int cy, .int pd, .int sp, .int wa, .int ai, .int fu, .long (sd.toInt64), .int df, .int mo, .int tq, .int tp, .int tm, .long s0, .long s1, .long s2, .long s3])), (g1, .inl (kV, 320, .inl tb)), (g2, .inl (kL, 3, .inl lo)), (g3, .inl (kR, 16, .inl zr)), (g4, .inl (kQ, 16, .inl zd))]) hD hS hA [8, 9, 10, 11, 12] rfl
  refine ca_i (va_runV (As := [.int (xs (ix + 1).toNatClampNeg), .int (xs (ix + 2).toNatClampNeg), .int (xs (ix + 3).toNatClampNeg), .long (vL0_0 xs ix)]) (rest := [.int (fX_table (xs (ix + 1).toNatClampNeg) (xs (ix + 2).toNatClampNeg) (xs (ix + 3).toNatClampNeg) (vL0_0 xs ix) tb)]) ⟨hx, hb, hml, hown, hts⟩ (c_Z_table l dC dI g0 g1 g2 g3 g4 kV kL kR kQ H.size zt wt am bn li st cy pd sp wa ai fu (sd.toInt64) df mo tq tp tm s0 s1 s2 s3 tb lo zr zd (xs (ix + 1).toNatClampNeg) (xs (ix + 2).toNatClampNeg) (xs (ix + 3).toNatClampNeg) (vL0_0 xs ix)) (cwV 4 hts (gV_ mw_228 mw_226 mw_227 mw_168 mw_225) rfl rfl rfl (by decide +kernel) ⟨Nat.le_of_ble_eq_true rfl, Nat.le_of_ble_eq_true rfl⟩) ⟨fb_, va_recv hKc hPc (ci := 5) (q0 := 0) rfl rfl, pu_ hPc hKc hDc hN⟩ rfl rfl hl.1 rfl (lv_room (Nat.le_of_ble_eq_true rfl)) d_law_197 ⟨hc0, hs0⟩) hS (fun q _ h => hFc q h) hFc (fun t H locs ht hvm hB hz1 hk1 hS => ?_)
  obtain ⟨hP, hD⟩ := aft_ (wr := [(h0, .inr (4, [.ref h1, .ref h3, .ref h5, .ref h6, .ref h7, .int bn, .int cy, .int li, .int st, .int df, .int tm, .int tq, .int tp, .int pd, .int wa, .int ai, .int fu, .int mo, .int sp])), (h1, .inr (0, [.ref h2])), (h2, .inl (kT, 320, .inl (vL0_1 xs ix tb))), (h3, .inr (1, [.ref h4, .int wt])), (h4, .inl (kW, 6, .inl le)), (h5, .inr (2, [.int am, .int sd])), (h6, .inr (3, [.long s0, .long s1, .long s2, .long s3])), (h7, .inl (kB, 3, .inl lo)), (o0, .inl (kO, 1, .inr (.inl ou)))]) (w1 := [(g0, .inr (5, [.int 0, .ref g1, .ref g2, .int wt, .ref g3, .ref g4, .int am, .int bn, .int li, .int st, .int cy, .int pd, .int sp, .int wa, .int ai, .int fu, .long (sd.toInt64), .int df, .int mo, .int tq, .int tp, .int tm, .long s0, .long s1, .long s2, .long s3])), (g1, .inl (kV, 320, .inl (vL0_2 xs ix tb))), (g2, .inl (kL, 3, .inl lo)), (g3, .inl (kR, 16, .inl zr)), (g4, .inl (kQ, 16, .inl zd))]) (w2 := [(h0, .inr (4, [.ref h1, .ref h3, .ref h5, .ref h6, .ref h7, .int bn, .int cy, .int li, .int st, .int df, .int tm, .int tq, .int tp, .int pd, .int wa, .int ai, .int fu, .int mo, .int sp])), (h1, .inr (0, [.ref h2])), (h2, .inl (kT, 320, .inl (vL0_1 xs ix tb))), (h3, .inr (1, [.ref h4, .int wt])), (h4, .inl (kW, 6, .inl le)), (h5, .inr (2, [.int am, .int sd])), (h6, .inr (3, [.long s0, .long s1, .long s2, .long s3])), (h7, .inl (kB, 3, .inl lo)), (g0, .inr (5, [.int 0, .ref g1, .ref g2, .int wt, .ref g3, .ref g4, .int am, .int bn, .int li, .int st, .int cy, .int pd, .int sp, .int wa, .int ai, .int fu, .long (sd.toInt64), .int df, .int mo, .int tq, .int tp, .int tm, .long s0, .long s1, .long s2, .long s3])), (g1, .inl (kV, 320, .inl (vL0_2 xs ix tb))), (g2, .inl (kL, 3, .inl lo)), (g3, .inl (kR, 16, .inl zr)), (g4, .inl (kQ, 16, .inl zd)), (o0, .inl (kO, 1, .inr (.inl ou)))]) hP hD [8, 9, 10, 11, 12] [0, 1, 2, 3, 4, 5, 6, 7, 13] [0, 1, 2, 3, 4, 5, 6, 7, 9, 10, 11, 12, 13, 8] rfl rfl (by decide) (by decide) hk1 hFc hB ht rfl (by decide)
  refine lv_icmp_eq (tgt := 917) hx hb d_law_200 (by decide) (fun c_1 => ?_) (fun c_1 => ?_)
  · have q_0 : (vL0_2 xs ix tb) = (vL0_1 xs ix tb) := (e_table _ _ _ _ _).2.symm
    rw [q_0] at hP hD
    have hP : va_P (dC, dI) classes [(h0, .inr (4, [.ref h1, .ref h3, .ref h5, .ref h6, .ref h7, .int bn, .int cy, .int li, .int st, .int df, .int tm, .int tq, .int tp, .int pd, .int wa, .int ai, .int fu, .int mo, .int sp])), (h1, .inr (0, [.ref h2])), (h2, .inl (kT, 320, .inl (vL0_1 xs ix tb))), (h3, .inr (1, [.ref h4, .int wt])), (h4, .inl (kW, 6, .inl le)), (h5, .inr (2, [.int am, .int sd])), (h6, .inr (3, [.long s0, .long s1, .long s2, .long s3])), (h7, .inl (kB, 3, .inl lo)), (g0, .inr (5, [.int 0, .ref g1, .ref g2, .int wt, .ref g3, .ref g4, .int am, .int bn, .int li, .int st, .int cy, .int pd, .int sp, .int wa, .int ai, .int fu, .long (sd.toInt64), .int df, .int mo, .int tq, .int tp, .int tm, .long s0, .long s1, .long s2, .long s3])), (g1, .inl (kV, 320, .inl (vL0_1 xs ix tb))), (g2, .inl (kL, 3, .inl lo)), (g3, .inl (kR, 16, .inl zr)), (g4, .inl (kQ, 16, .inl zd)), (o0, .inl (kO, 1, .inr (.inl ou)))] H := hP
    have hD : va_D A [(h0, .inr (4, [.ref h1, .ref h3, .ref h5, .ref h6, .ref h7, .int bn, .int cy, .int li, .int st, .int df, .int tm, .int tq, .int tp, .int pd, .int wa, .int ai, .int fu, .int mo, .int sp])), (h1, .inr (0, [.ref h2])), (h2, .inl (kT, 320, .inl (vL0_1 xs ix tb))), (h3, .inr (1, [.ref h4, .int wt])), (h4, .inl (kW, 6, .inl le)), (h5, .inr (2, [.int am, .int sd])), (h6, .inr (3, [.long s0, .long s1, .long s2, .long s3])), (h7, .inl (kB, 3, .inl lo)), (g0, .inr (5, [.int 0, .ref g1, .ref g2, .int wt, .ref g3, .ref g4, .int am, .int bn, .int li, .int st, .int cy, .int pd, .int sp, .int wa, .int ai, .int fu, .long (sd.toInt64), .int df, .int mo, .int tq, .int tp, .int tm, .long s0, .long s1, .long s2, .long s3])), (g1, .inl (kV, 320, .inl (vL0_1 xs ix tb))), (g2, .inl (kL, 3, .inl lo)), (g3, .inl (kR, 16, .inl zr)), (g4, .inl (kQ, 16, .inl zd)), (o0, .inl (kO, 1, .inr (.inl ou)))] := hD
    refine W.widen (k := cells + 1) (n := slots + 6) (Nat.le_add_right _ 1) (Nat.le_add_right _ 6) ?_
    exact K bn cy li st df tm tq tp pd wa ai fu mo sp (vL0_1 xs ix tb) wt le am sd s0 s1 s2 s3 lo 0 zr zd ou ls H locs (iv_table I) Wr (lv_sub hl [0, 1, 2, 3, 4] rfl) hP hD hS
  · exact absurd (e_table _ _ _ _ _).1 c_1
