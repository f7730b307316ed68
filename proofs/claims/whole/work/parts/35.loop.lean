theorem lp_le {L i : Nat} (hL : L ≤ 3584) (hi : i ≤ 3584) (h : ¬ Int32.ofNat L - 7 < nI i) : i + 7 ≤ L := by
  have e1 : (Int32.ofNat L).toInt = (L : Int) := nI_toInt (n := L) (by omega)
  have e2 : (7 : Int32).toInt = 7 := by decide
  have e3 : (nI i).toInt = (i : Int) := nI_toInt (by omega)
  have e4 : (Int32.ofNat L - 7).toInt = (L : Int) - 7 := by
    rw [Int32.toInt_sub, e1, e2, Int.bmod_def]
    omega
  rw [Int32.lt_iff_toInt_lt, e4, e3] at h
  omega
theorem lp_in {L i k : Nat} (hL : L ≤ 3584) (h : i + k < L) : vp_in (nI i + nI k) L := by
  have e : nI i + nI k = nI (i + k) := (Int32.ofNat_add i k).symm
  rw [e]
  exact vp_in_nI h (by omega)
theorem lp_7 (n : Nat) : nI (7 * n) + Int32.ofInt 7 = nI (7 * (n + 1)) := by
  have e : nI (7 * (n + 1)) = nI (7 * n) + nI 7 := Int32.ofNat_add (7 * n) 7
  rw [e]
  rfl
set_option maxRecDepth 100000 in
/-- the loop's step: 7 further -/
theorem lk_inc {p : Program} {l : Launch} {e : Env} {s : State} {m : MethodId} {below : List Frame} {meth : Method} {c : Code} {b : Nat} {dC : Nat → ClassId} {dI : Nat → Nat → Nat} {A : Nat → Prop} {h0 h1 h2 h3 h4 h5 h6 h7 g0 g1 g2 g3 g4 o0 : Nat} {kT kW kB kV kL kR kQ kO : ClassId} (hx : p.tables.exec = Jvm.exec) (hb : c.code = code) (hml : c.maxLocals = 8) (hown : s.vm.findClass R_law = some m.cls) (hts : ∀ w ∈ wA_, w.before #[Value.ref b] s = true) (hN : nw_ s) (hK : va_K (dC, dI) classes [(kT, .int), (kW, .int), (kB, .boolean), (kV, .int), (kL, .boolean), (kR, .int), (kQ, .int), (kO, .long)] s) (hA : ∀ q : Nat, s.heap.size ≤ q → A q) {L : Nat} {xs : Nat → Int32} (hX : va_X b L xs s s.heap) (hbl : b < s.heap.size) (hbA : ¬ A b) {n cells slots : Nat} (K : lk_ p l e s m below meth c b dC dI A h0 h1 h2 h3 h4 h5 h6 h7 g0 g1 g2 g3 g4 o0 kT kW kB kV kL kR kQ kO 23 (n + 1) (nI (7 * (n + 1))) cells slots) : lk_ p l e s m below meth c b dC dI A h0 h1 h2 h3 h4 h5 h6 h7 g0 g1 g2 g3 g4 o0 kT kW kB kV kL kR kQ kO 917 (n + 1) (nI (7 * n)) cells slots := by
  intro bn cy li st df tm tq tp pd wa ai fu mo sp tb wt le am sd s0 s1 s2 s3 lo zt zr zd ou ls H locs I Wr hl hP hD hS
  refine lv_iinc (v := nI (7 * (n + 1))) (lv' := [(4, .int (nI (7 * (n + 1)))), (3, .ref o0), (2, .ref g0), (1, .ref h0), (0, .ref b)]) hx hb d_law_917 hl (k := 0) rfl (lp_7 n) (by decide) rfl (fun ls hl => ?_)
  refine lv_goto (tgt := 23) hx hb d_law_920 (by decide) ?_
  exact K bn cy li st df tm tq tp pd wa ai fu mo sp tb wt le am sd s0 s1 s2 s3 lo zt zr zd ou ls H locs I Wr hl hP hD hS
set_option maxHeartbeats 4000000 in
set_option maxRecDepth 100000 in
/-- the law's loop: d bounds what is left of the script -/
theorem lk_loop {p : Program} {l : Launch} {e : Env} {s : State} {m : MethodId} {below : List Frame} {meth : Method} {c : Code} {b : Nat} {dC : Nat → ClassId} {dI : Nat → Nat → Nat} {A : Nat → Prop} {h0 h1 h2 h3 h4 h5 h6 h7 g0 g1 g2 g3 g4 o0 : Nat} {kT kW kB kV kL kR kQ kO : ClassId} (hx : p.tables.exec = Jvm.exec) (hb : c.code = code) (hml : c.maxLocals = 8) (hown : s.vm.findClass R_law = some m.cls) (hts : ∀ w ∈ wA_, w.before #[Value.ref b] s = true) (hN : nw_ s) (hK : va_K (dC, dI) classes [(kT, .int), (kW, .int), (kB, .boolean), (kV, .int), (kL, .boolean), (kR, .int), (kQ, .int), (kO, .long)] s) (hA : ∀ q : Nat, s.heap.size ≤ q → A q) {L : Nat} {xs : Nat → Int32} (hX : va_X b L xs s s.heap) (hbl : b < s.heap.size) (hbA : ¬ A b) (hfl : l.flags = pinnedFlags ++ [noTraceFlag]) (hsxs : sx_ A s s.heap) (hAs : ∀ q : Nat, A q → s.heap.size ≤ q) (hr : meth.sig.returnType = ret) (hlocks : meth.locks = false) (hL : L ≤ 3584) : ∀ (d n cells slots : Nat), L ≤ 7 * n + d → 7 * n ≤ 3584 → cells ≤ 14 + n → slots ≤ 739 + 6 * n → lk_ p l e s m below meth c b dC dI A h0 h1 h2 h3 h4 h5 h6 h7 g0 g1 g2 g3 g4 o0 kT kW kB kV kL kR kQ kO 23 n (nI (7 * n)) cells slots := by
  intro d
  induction d with
  | zero =>
    intro n cells slots hd hn hc hs bn cy li st df tm tq tp pd wa ai fu mo sp tb wt le am sd s0 s1 s2 s3 lo zt zr zd ou ls H locs I Wr hl hP hD hS
    refine lv_iload hx hb d_law_23 (lv_at hl 0 rfl) ?_
    refine lv_aload_n hx hb d_law_25 rfl (lv_at hl 4 rfl) ?_
    refine va_slen hx hb hX hbl hbA hS d_law_26 ?_
    refine lv_bipush (v := 7) hx hb d_law_27 (by decide) ?_
    refine lv_isub hx hb d_law_29 ?_
    refine lv_icmp_gt (tgt := 923) hx hb d_law_30 (by decide) (fun c_1 => ?_) (fun c_1 => ?_)
    · refine lv_iconst (v := 1) hx hb d_law_923 (by decide) ?_
      refine va_forget (fun q hq => hAs _ (hS.2.2 q hq)) ?_
      refine W.widen (k := 1039) (n := 8937) (by omega) (by omega) ?_
      exact lw_ret hx hb hr hlocks d_law_924
    · have hle7 := lp_le hL hn c_1
      exact absurd hle7 (by omega)
  | succ d ih =>
    intro n cells slots hd hn hc hs bn cy li st df tm tq tp pd wa ai fu mo sp tb wt le am sd s0 s1 s2 s3 lo zt zr zd ou ls H locs I Wr hl hP hD hS
    refine lv_iload hx hb d_law_23 (lv_at hl 0 rfl) ?_
    refine lv_aload_n hx hb d_law_25 rfl (lv_at hl 4 rfl) ?_
    refine va_slen hx hb hX hbl hbA hS d_law_26 ?_
    refine lv_bipush (v := 7) hx hb d_law_27 (by decide) ?_
    refine lv_isub hx hb d_law_29 ?_
    refine lv_icmp_gt (tgt := 923) hx hb d_law_30 (by decide) (fun c_1 => ?_) (fun c_1 => ?_)
    · refine lv_iconst (v := 1) hx hb d_law_923 (by decide) ?_
      refine va_forget (fun q hq => hAs _ (hS.2.2 q hq)) ?_
      refine W.widen (k := 1039) (n := 8937) (by omega) (by omega) ?_
      exact lw_ret hx hb hr hlocks d_law_924
    have hle7 := lp_le hL hn c_1
    have hnn : n ≤ 512 := by omega
    have h_in0 : vp_in (nI (7 * n)) L := vp_in_nI (by omega) (by omega)
    have h_in1 : vp_in (nI (7 * n) + 1) L := lp_in (k := 1) hL (by omega)
    have h_in2 : vp_in (nI (7 * n) + 2) L := lp_in (k := 2) hL (by omega)
    have h_in3 : vp_in (nI (7 * n) + 3) L := lp_in (k := 3) hL (by omega)
    have h_in4 : vp_in (nI (7 * n) + 4) L := lp_in (k := 4) hL (by omega)
    have h_in5 : vp_in (nI (7 * n) + 5) L := lp_in (k := 5) hL (by omega)
    have h_in6 : vp_in (nI (7 * n) + 6) L := lp_in (k := 6) hL (by omega)
    have K917 : lk_ p l e s m below meth c b dC dI A h0 h1 h2 h3 h4 h5 h6 h7 g0 g1 g2 g3 g4 o0 kT kW kB kV kL kR kQ kO 917 (n + 1) (nI (7 * n)) (cells + 1) (slots + 6) := lk_inc hx hb hml hown hts hN hK hA hX hbl hbA (ih (n + 1) (cells + 1) (slots + 6) (by omega) (by omega) (by omega) (by omega))
    refine lv_aload_n hx hb d_law_33 rfl (lv_at hl 4 rfl) ?_
    refine lv_iload hx hb d_law_34 (lv_at hl 0 rfl) ?_
    refine va_sld hx hb hX hbl hbA hS h_in0 d_law_36 ?_
    refine lv_bipush (v := 15) hx hb d_law_37 (by decide) ?_
    refine lv_iand hx hb d_law_39 ?_
    obtain ⟨j, hj, ej⟩ := pk_andE (xs (nI (7 * n)).toNatClampNeg) (m := 15) 4 (by decide)
    refine tpi ej ?_
    clear ej
    match j, hj with
    | 0, _ => exact lv_tableIn (tgt := 112) (off := 72) hx hb d_law_40 (by decide) (by decide) (by decide) (by decide) (lc_0 hx hb hml hown hts hN hK hA hX hbl hbA hnn (by omega) (by omega) h_in0 h_in1 h_in2 h_in3 h_in4 h_in5 h_in6 K917 bn cy li st df tm tq tp pd wa ai fu mo sp tb wt le am sd s0 s1 s2 s3 lo zt zr zd ou ls H locs I Wr hl hP hD hS)
    | 1, _ => exact lv_tableIn (tgt := 205) (off := 165) hx hb d_law_40 (by decide) (by decide) (by decide) (by decide) (lc_1 hx hb hml hown hts hN hK hA hX hbl hbA hnn (by omega) (by omega) h_in0 h_in1 h_in2 h_in3 h_in4 h_in5 h_in6 K917 bn cy li st df tm tq tp pd wa ai fu mo sp tb wt le am sd s0 s1 s2 s3 lo zt zr zd ou ls H locs I Wr hl hP hD hS)
    | 2, _ => exact lv_tableIn (tgt := 352) (off := 312) hx hb d_law_40 (by decide) (by decide) (by decide) (by decide) (lc_2 hx hb hml hown hts hN hK hA hX hbl hbA hnn (by omega) (by omega) h_in0 h_in1 h_in2 h_in3 h_in4 h_in5 h_in6 K917 bn cy li st df tm tq tp pd wa ai fu mo sp tb wt le am sd s0 s1 s2 s3 lo zt zr zd ou ls H locs I Wr hl hP hD hS)
    | 3, _ => exact lv_tableIn (tgt := 366) (off := 326) hx hb d_law_40 (by decide) (by decide) (by decide) (by decide) (lc_3 hx hb hml hown hts hN hK hA hX hbl hbA hnn (by omega) (by omega) h_in0 h_in1 h_in2 h_in3 h_in4 h_in5 h_in6 K917 bn cy li st df tm tq tp pd wa ai fu mo sp tb wt le am sd s0 s1 s2 s3 lo zt zr zd ou ls H locs I Wr hl hP hD hS)
    | 4, _ => exact lv_tableIn (tgt := 392) (off := 352) hx hb d_law_40 (by decide) (by decide) (by decide) (by decide) (lc_4 hx hb hml hown hts hN hK hA hX hbl hbA hnn (by omega) (by omega) h_in0 h_in1 h_in2 h_in3 h_in4 h_in5 h_in6 K917 bn cy li st df tm tq tp pd wa ai fu mo sp tb wt le am sd s0 s1 s2 s3 lo zt zr zd ou ls H locs I Wr hl hP hD hS)
    | 5, _ => exact lv_tableIn (tgt := 461) (off := 421) hx hb d_law_40 (by decide) (by decide) (by decide) (by decide) (lc_5 hx hb hml hown hts hN hK hA hX hbl hbA hnn (by omega) (by omega) h_in0 h_in1 h_in2 h_in3 h_in4 h_in5 h_in6 K917 bn cy li st df tm tq tp pd wa ai fu mo sp tb wt le am sd s0 s1 s2 s3 lo zt zr zd ou ls H locs I Wr hl hP hD hS)
    | 6, _ => exact lv_tableIn (tgt := 518) (off := 478) hx hb d_law_40 (by decide) (by decide) (by decide) (by decide) (lc_6 hx hb hml hown hts hN hK hA hX hbl hbA hnn (by omega) (by omega) h_in0 h_in1 h_in2 h_in3 h_in4 h_in5 h_in6 K917 bn cy li st df tm tq tp pd wa ai fu mo sp tb wt le am sd s0 s1 s2 s3 lo zt zr zd ou ls H locs I Wr hl hP hD hS)
    | 7, _ => exact lv_tableIn (tgt := 575) (off := 535) hx hb d_law_40 (by decide) (by decide) (by decide) (by decide) (lc_7 hx hb hml hown hts hN hK hA hX hbl hbA hnn (by omega) (by omega) h_in0 h_in1 h_in2 h_in3 h_in4 h_in5 h_in6 K917 bn cy li st df tm tq tp pd wa ai fu mo sp tb wt le am sd s0 s1 s2 s3 lo zt zr zd ou ls H locs I Wr hl hP hD hS)
    | 8, _ => exact lv_tableIn (tgt := 612) (off := 572) hx hb d_law_40 (by decide) (by decide) (by decide) (by decide) (lc_8 hx hb hml hown hts hN hK hA hX hbl hbA hnn (by omega) (by omega) h_in0 h_in1 h_in2 h_in3 h_in4 h_in5 h_in6 K917 bn cy li st df tm tq tp pd wa ai fu mo sp tb wt le am sd s0 s1 s2 s3 lo zt zr zd ou ls H locs I Wr hl hP hD hS)
    | 9, _ => exact lv_tableIn (tgt := 637) (off := 597) hx hb d_law_40 (by decide) (by decide) (by decide) (by decide) (lc_9 hx hb hml hown hts hN hK hA hX hbl hbA hfl hsxs hnn (by omega) (by omega) h_in0 h_in1 h_in2 h_in3 h_in4 h_in5 h_in6 K917 bn cy li st df tm tq tp pd wa ai fu mo sp tb wt le am sd s0 s1 s2 s3 lo zt zr zd ou ls H locs I Wr hl hP hD hS)
    | 10, _ => exact lv_tableIn (tgt := 724) (off := 684) hx hb d_law_40 (by decide) (by decide) (by decide) (by decide) (lc_10 hx hb hml hown hts hN hK hA hX hbl hbA hnn (by omega) (by omega) h_in0 h_in1 h_in2 h_in3 h_in4 h_in5 h_in6 K917 bn cy li st df tm tq tp pd wa ai fu mo sp tb wt le am sd s0 s1 s2 s3 lo zt zr zd ou ls H locs I Wr hl hP hD hS)
    | 11, _ => exact lv_tableIn (tgt := 781) (off := 741) hx hb d_law_40 (by decide) (by decide) (by decide) (by decide) (lc_11 hx hb hml hown hts hN hK hA hX hbl hbA hnn (by omega) (by omega) h_in0 h_in1 h_in2 h_in3 h_in4 h_in5 h_in6 K917 bn cy li st df tm tq tp pd wa ai fu mo sp tb wt le am sd s0 s1 s2 s3 lo zt zr zd ou ls H locs I Wr hl hP hD hS)
    | 12, _ => exact lv_tableIn (tgt := 807) (off := 767) hx hb d_law_40 (by decide) (by decide) (by decide) (by decide) (lc_12 hx hb hml hown hts hN hK hA hX hbl hbA hnn (by omega) (by omega) h_in0 h_in1 h_in2 h_in3 h_in4 h_in5 h_in6 K917 bn cy li st df tm tq tp pd wa ai fu mo sp tb wt le am sd s0 s1 s2 s3 lo zt zr zd ou ls H locs I Wr hl hP hD hS)
    | 13, _ => exact lv_tableIn (tgt := 876) (off := 836) hx hb d_law_40 (by decide) (by decide) (by decide) (by decide) (lc_13 hx hb hml hown hts hN hK hA hX hbl hbA hnn (by omega) (by omega) h_in0 h_in1 h_in2 h_in3 h_in4 h_in5 h_in6 K917 bn cy li st df tm tq tp pd wa ai fu mo sp tb wt le am sd s0 s1 s2 s3 lo zt zr zd ou ls H locs I Wr hl hP hD hS)
    | 14, _ => exact lv_tableOut (tgt := 917) hx hb d_law_40 (by decide) (by decide) (W.widen (k := cells + 1) (n := slots + 6) (Nat.le_add_right _ 1) (Nat.le_add_right _ 6) (K917 bn cy li st df tm tq tp pd wa ai fu mo sp tb wt le am sd s0 s1 s2 s3 lo zt zr zd ou ls H locs (iv_up I) Wr hl hP hD hS))
    | 15, _ => exact lv_tableOut (tgt := 917) hx hb d_law_40 (by decide) (by decide) (W.widen (k := cells + 1) (n := slots + 6) (Nat.le_add_right _ 1) (Nat.le_add_right _ 6) (K917 bn cy li st df tm tq tp pd wa ai fu mo sp tb wt le am sd s0 s1 s2 s3 lo zt zr zd ou ls H locs (iv_up I) Wr hl hP hD hS))
    | j + 16, h => exact absurd h (by omega)
