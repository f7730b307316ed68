set_option maxHeartbeats 4000000 in
set_option maxRecDepth 100000 in
theorem c_Z_down (l : Launch) (dC : Nat → ClassId) (dI : Nat → Nat → Nat) (sz : Nat) (p0 : Int64) (p1 : Int64) (h0 : ¬ p1 = 0) : Met l y_Z_down w_Z_down { frames := 0, cells := 0, slots := 0, locals := 0 } (va_Pc [.long p0, .long p1] (pr_ (dC, dI) [] [] sz)) (va_Ql (fun r (_ : Unit) => r = (fZ_down p0 p1)) (fun _ t => at_ (dC, dI) (va_A [] sz) [] [] t) (va_A [] sz)) 0 0 (va_A [] sz) := by
  refine Met.ofW (cc := b_Z_down) (maxL := 6) (ret := (some .long)) (by decide) rfl ?_
  intro p e s m args below meth c s₁ B hml hv
  obtain ⟨rfl, hsz, hP, hK, hD0, hN⟩ := hv
  have hx := B.exec
  have hb := B.bytes
  have hr := B.returns
  have hts0 := atoms_spec (ws := w_Z_down) B.pre
  have hts : ∀ w ∈ wA_, w.before _ s = true := fun w h => hts0 w (List.mem_cons_of_mem _ h)
  have hown : s.vm.findClass R_Z = some m.cls := findClass_of_methodNamed B.named
  have hlocks := B.notSynchronized
  subst hsz
  have hD := hD0.self (sz := s.heap.size)
  generalize hAe : va_A [] s.heap.size = A at hD ⊢
  have hA : ∀ q : Nat, s.heap.size ≤ q → A q := fun q h => by rw [← hAe]; exact Or.inr h
  have hS : va_S A s.heap s.heap [] := va_S.rf
  have hP : va_P (dC, dI) classes [] s.heap := hP
  have hl := lv_entry ([.long p0, .long p1]) (n := 6) (Nat.le_of_ble_eq_true rfl)
  rw [lg_entry_eq]
  generalize (lg_sl ([.long p0, .long p1]) ++ List.replicate (6 - (lg_sl ([.long p0, .long p1])).length) Slot.unset).toArray = ls at hl ⊢
  have hl : lv_has ls 6 [(0, .long p0), (2, .long p1)] := hl
  have hS : va_S A s.heap s.heap [] := hS
  refine st_ hP hS (fun H locs hP hS => ?_)
  refine lv_lload_n hx hb d_Z_down_0 rfl (lv_at hl 0 rfl) ?_
  refine lv_lload_n hx hb d_Z_down_1 rfl (lv_at hl 1 rfl) ?_
  refine lv_ldiv hx hb d_Z_down_2 h0 ?_
  refine lv_lstore (lv' := [(4, .long (p0 / p1)), (0, .long p0), (2, .long p1)]) hx hb d_Z_down_3 hl (by decide) rfl (fun ls hl => ?_)
  refine lv_lload hx hb d_Z_down_5 (lv_at hl 0 rfl) ?_
  refine lv_lload_n hx hb d_Z_down_7 rfl (lv_at hl 2 rfl) ?_
  refine lv_lmul hx hb d_Z_down_8 ?_
  refine lv_lload_n hx hb d_Z_down_9 rfl (lv_at hl 1 rfl) ?_
  refine W.lcmp hx hb d_Z_down_10 ?_
  refine lv_if_le (tgt := 21) hx hb d_Z_down_11 (by decide) (fun c_1 => ?_) (fun c_1 => ?_)
  · refine lv_lload hx hb d_Z_down_21 (lv_at hl 0 rfl) ?_
    have h9 : va_P (dC, dI) classes [] H ∧ va_D A [] := ⟨hP, hD⟩
    exact W.lret (v := (p0 / p1)) hx hb hr (fun t ht hW => ⟨⟨(p0 / p1), (), rfl, ((if_pos c_1)).symm, by rw [ht]; exact h9.1, va_K.moved hW.alike hK, h9.2⟩, hS.F ht⟩) hS.2.2 d_Z_down_23
  · refine lv_lload hx hb d_Z_down_14 (lv_at hl 0 rfl) ?_
    refine lv_lconst (v := 1) hx hb d_Z_down_16 (by decide) ?_
    refine lv_lsub hx hb d_Z_down_17 ?_
    refine lv_goto (tgt := 23) hx hb d_Z_down_18 (by decide) ?_
    have h9 : va_P (dC, dI) classes [] H ∧ va_D A [] := ⟨hP, hD⟩
    exact W.lret (v := ((p0 / p1) - 1)) hx hb hr (fun t ht hW => ⟨⟨((p0 / p1) - 1), (), rfl, ((if_neg c_1)).symm, by rw [ht]; exact h9.1, va_K.moved hW.alike hK, h9.2⟩, hS.F ht⟩) hS.2.2 d_Z_down_23
set_option maxHeartbeats 4000000 in
set_option maxRecDepth 100000 in
theorem c_Z_v (l : Launch) (dC : Nat → ClassId) (dI : Nat → Nat → Nat) (g0 g1 g2 g3 g4 : Nat) (kV kL kR kQ : ClassId) (sz : Nat) (zt : Int32) (zw : Int32) (zi : Int32) (zb : Int32) (zp : Int32) (zs : Int32) (zc : Int32) (ze : Int32) (zy : Int32) (zu : Int32) (za : Int32) (zf : Int32) (zo : Int64) (zg : Int32) (zm : Int32) (zq : Int32) (zx : Int32) (zh : Int32) (z0 : Int64) (z1 : Int64) (z2 : Int64) (z3 : Int64) (zv : Nat → Int32) (zl : Nat → Int32) (zr : Nat → Int32) (zd : Nat → Int32) (ki : Int32) (px : Int32) (py : Int32) (hin : vp_in (((64 * ki) + (8 * px)) + py) 320) : Met l y_Z_v w_Z_v { frames := 0, cells := 0, slots := 0, locals := 0 } (va_Pc [.ref g0, .int ki, .int px, .int py] (pr_ (dC, dI) [(g0, .inr (5, [.int zt, .ref g1, .ref g2, .int zw, .ref g3, .ref g4, .int zi, .int zb, .int zp, .int zs, .int zc, .int ze, .int zy, .int zu, .int za, .int zf, .long zo, .int zg, .int zm, .int zq, .int zx, .int zh, .long z0, .long z1, .long z2, .long z3])), (g1, .inl (kV, 320, .inl zv)), (g2, .inl (kL, 3, .inl zl)), (g3, .inl (kR, 16, .inl zr)), (g4, .inl (kQ, 16, .inl zd))] [(kV, .int), (kL, .boolean), (kR, .int), (kQ, .int)] sz)) (va_Qi (fun r (_ : Unit) => r = (fZ_v zv ki px py)) (fun _ t => at_ (dC, dI) (va_A [(g0, .inr (5, [.int zt, .ref g1, .ref g2, .int zw, .ref g3, .ref g4, .int zi, .int zb, .int zp, .int zs, .int zc, .int ze, .int zy, .int zu, .int za, .int zf, .long zo, .int zg, .int zm, .int zq, .int zx, .int zh, .long z0, .long z1, .long z2, .long z3])), (g1, .inl (kV, 320, .inl zv)), (g2, .inl (kL, 3, .inl zl)), (g3, .inl (kR, 16, .inl zr)), (g4, .inl (kQ, 16, .inl zd))] sz) [(g0, .inr (5, [.int zt, .ref g1, .ref g2, .int zw, .ref g3, .ref g4, .int zi, .int zb, .int zp, .int zs, .int zc, .int ze, .int zy, .int zu, .int za, .int zf, .long zo, .int zg, .int zm, .int zq, .int zx, .int zh, .long z0, .long z1, .long z2, .long z3])), (g1, .inl (kV, 320, .inl zv)), (g2, .inl (kL, 3, .inl zl)), (g3, .inl (kR, 16, .inl zr)), (g4, .inl (kQ, 16, .inl zd))] [(kV, .int), (kL, .boolean), (kR, .int), (kQ, .int)] t) (va_A [(g0, .inr (5, [.int zt, .ref g1, .ref g2, .int zw, .ref g3, .ref g4, .int zi, .int zb, .int zp, .int zs, .int zc, .int ze, .int zy, .int zu, .int za, .int zf, .long zo, .int zg, .int zm, .int zq, .int zx, .int zh, .long z0, .long z1, .long z2, .long z3])), (g1, .inl (kV, 320, .inl zv)), (g2, .inl (kL, 3, .inl zl)), (g3, .inl (kR, 16, .inl zr)), (g4, .inl (kQ, 16, .inl zd))] sz)) 0 0 (va_A [(g0, .inr (5, [.int zt, .ref g1, .ref g2, .int zw, .ref g3, .ref g4, .int zi, .int zb, .int zp, .int zs, .int zc, .int ze, .int zy, .int zu, .int za, .int zf, .long zo, .int zg, .int zm, .int zq, .int zx, .int zh, .long z0, .long z1, .long z2, .long z3])), (g1, .inl (kV, 320, .inl zv)), (g2, .inl (kL, 3, .inl zl)), (g3, .inl (kR, 16, .inl zr)), (g4, .inl (kQ, 16, .inl zd))] sz) := by
  refine Met.ofW (cc := b_Z_v) (maxL := 4) (ret := (some .int)) (by decide) rfl ?_
  intro p e s m args below meth c s₁ B hml hv
  obtain ⟨rfl, hsz, hP, hK, hD0, hN⟩ := hv
  have hx := B.exec
  have hb := B.bytes
  have hr := B.returns
  have hts0 := atoms_spec (ws := w_Z_v) B.pre
  have hts : ∀ w ∈ wA_, w.before _ s = true := fun w h => hts0 w (List.mem_cons_of_mem _ h)
  have hown : s.vm.findClass R_Z = some m.cls := findClass_of_methodNamed B.named
  have hlocks := B.notSynchronized
  subst hsz
  have hD := hD0.self (sz := s.heap.size)
  generalize hAe : va_A [(g0, .inr (5, [.int zt, .ref g1, .ref g2, .int zw, .ref g3, .ref g4, .int zi, .int zb, .int zp, .int zs, .int zc, .int ze, .int zy, .int zu, .int za, .int zf, .long zo, .int zg, .int zm, .int zq, .int zx, .int zh, .long z0, .long z1, .long z2, .long z3])), (g1, .inl (kV, 320, .inl zv)), (g2, .inl (kL, 3, .inl zl)), (g3, .inl (kR, 16, .inl zr)), (g4, .inl (kQ, 16, .inl zd))] s.heap.size = A at hD ⊢
  have hA : ∀ q : Nat, s.heap.size ≤ q → A q := fun q h => by rw [← hAe]; exact Or.inr h
  have hS : va_S A s.heap s.heap [] := va_S.rf
  have hP : va_P (dC, dI) classes [(g0, .inr (5, [.int zt, .ref g1, .ref g2, .int zw, .ref g3, .ref g4, .int zi, .int zb, .int zp, .int zs, .int zc, .int ze, .int zy, .int zu, .int za, .int zf, .long zo, .int zg, .int zm, .int zq, .int zx, .int zh, .long z0, .long z1, .long z2, .long z3])), (g1, .inl (kV, 320, .inl zv)), (g2, .inl (kL, 3, .inl zl)), (g3, .inl (kR, 16, .inl zr)), (g4, .inl (kQ, 16, .inl zd))] s.heap := hP
  have hl := lv_entry ([.ref g0, .int ki, .int px, .int py]) (n := 4) (Nat.le_of_ble_eq_true rfl)
  rw [lg_entry_eq]
  generalize (lg_sl ([.ref g0, .int ki, .int px, .int py]) ++ List.replicate (4 - (lg_sl ([.ref g0, .int ki, .int px, .int py])).length) Slot.unset).toArray = ls at hl ⊢
  have hl : lv_has ls 4 [(0, .ref g0), (1, .int ki), (2, .int px), (3, .int py)] := hl
  have hS : va_S A s.heap s.heap [] := hS
  refine st_ hP hS (fun H locs hP hS => ?_)
  refine lv_aload_n hx hb d_Z_v_0 rfl (lv_at hl 0 rfl) ?_
  refine va_get (D := (dC, dI)) (ci := 5) (v := .ref g1) (C := R_Z) (T := F_Z) (N := 26) hx hb hts in_Z hown hK hP 0 rfl rfl 1 (by decide) (hts (.fieldLink R_Z 7 "TorqueRowsModel" "values" "[I") mw_161) (fun _ h9 => h9) rfl d_Z_v_1 ?_
  refine lv_bipush (v := 64) hx hb d_Z_v_4 (by decide) ?_
  refine lv_iload_n hx hb d_Z_v_6 rfl (lv_at hl 1 rfl) ?_
  refine lv_imul hx hb d_Z_v_7 ?_
  refine lv_bipush (v := 8) hx hb d_Z_v_8 (by decide) ?_
  refine lv_iload_n hx hb d_Z_v_10 rfl (lv_at hl 2 rfl) ?_
  refine lv_imul hx hb d_Z_v_11 ?_
  refine lv_iadd hx hb d_Z_v_12 ?_
  refine lv_iload_n hx hb d_Z_v_13 rfl (lv_at hl 3 rfl) ?_
  refine lv_iadd hx hb d_Z_v_14 ?_
  refine va_iald hx hb hK hP 1 0 rfl rfl hin d_Z_v_15 ?_
  have h9 : va_P (dC, dI) classes [(g0, .inr (5, [.int zt, .ref g1, .ref g2, .int zw, .ref g3, .ref g4, .int zi, .int zb, .int zp, .int zs, .int zc, .int ze, .int zy, .int zu, .int za, .int zf, .long zo, .int zg, .int zm, .int zq, .int zx, .int zh, .long z0, .long z1, .long z2, .long z3])), (g1, .inl (kV, 320, .inl zv)), (g2, .inl (kL, 3, .inl zl)), (g3, .inl (kR, 16, .inl zr)), (g4, .inl (kQ, 16, .inl zd))] H ∧ va_D A [(g0, .inr (5, [.int zt, .ref g1, .ref g2, .int zw, .ref g3, .ref g4, .int zi, .int zb, .int zp, .int zs, .int zc, .int ze, .int zy, .int zu, .int za, .int zf, .long zo, .int zg, .int zm, .int zq, .int zx, .int zh, .long z0, .long z1, .long z2, .long z3])), (g1, .inl (kV, 320, .inl zv)), (g2, .inl (kL, 3, .inl zl)), (g3, .inl (kR, 16, .inl zr)), (g4, .inl (kQ, 16, .inl zd))] := ⟨hP, hD⟩
  exact W.iret (v := (zv (((64 * ki) + (8 * px)) + py).toNatClampNeg)) hx hb hr (fun t ht hW => ⟨⟨(zv (((64 * ki) + (8 * px)) + py).toNatClampNeg), (), rfl, rfl, by rw [ht]; exact h9.1, va_K.moved hW.alike hK, h9.2⟩, hS.F ht⟩) hS.2.2 d_Z_v_16
set_option maxHeartbeats 4000000 in
set_option maxRecDepth 100000 in
theorem c_Z_valueAt (l : Launch) (dC : Nat → ClassId) (dI : Nat → Nat → Nat) (g0 g1 g2 g3 g4 : Nat) (kV kL kR kQ : ClassId) (sz : Nat) (zt : Int32) (zw : Int32) (zi : Int32) (zb : Int32) (zp : Int32) (zs : Int32) (zc : Int32) (ze : Int32) (zy : Int32) (zu : Int32) (za : Int32) (zf : Int32) (zo : Int64) (zg : Int32) (zm : Int32) (zq : Int32) (zx : Int32) (zh : Int32) (z0 : Int64) (z1 : Int64) (z2 : Int64) (z3 : Int64) (zv : Nat → Int32) (zl : Nat → Int32) (zr : Nat → Int32) (zd : Nat → Int32) (ki : Int32) (pa : Int64) (ps : Int64) (hk : vp_in ki 5) : Met l y_Z_valueAt w_Z_valueAt { frames := 1, cells := 0, slots := 0, locals := 23 } (va_Pc [.ref g0, .int ki, .long pa, .long ps] (pr_ (dC, dI) [(g0, .inr (5, [.int zt, .ref g1, .ref g2, .int zw, .ref g3, .ref g4, .int zi, .int zb, .int zp, .int zs, .int zc, .int ze, .int zy, .int zu, .int za, .int zf, .long zo, .int zg, .int zm, .int zq, .int zx, .int zh, .long z0, .long z1, .long z2, .long z3])), (g1, .inl (kV, 320, .inl zv)), (g2, .inl (kL, 3, .inl zl)), (g3, .inl (kR, 16, .inl zr)), (g4, .inl (kQ, 16, .inl zd))] [(kV, .int), (kL, .boolean), (kR, .int), (kQ, .int)] sz)) (va_Qi (fun r (_ : Unit) => r = (fZ_valueAt zv ki pa ps)) (fun _ t => at_ (dC, dI) (va_A [(g0, .inr (5, [.int zt, .ref g1, .ref g2, .int zw, .ref g3, .ref g4, .int zi, .int zb, .int zp, .int zs, .int zc, .int ze, .int zy, .int zu, .int za, .int zf, .long zo, .int zg, .int zm, .int zq, .int zx, .int zh, .long z0, .long z1, .long z2, .long z3])), (g1, .inl (kV, 320, .inl zv)), (g2, .inl (kL, 3, .inl zl)), (g3, .inl (kR, 16, .inl zr)), (g4, .inl (kQ, 16, .inl zd))] sz) [(g0, .inr (5, [.int zt, .ref g1, .ref g2, .int zw, .ref g3, .ref g4, .int zi, .int zb, .int zp, .int zs, .int zc, .int ze, .int zy, .int zu, .int za, .int zf, .long zo, .int zg, .int zm, .int zq, .int zx, .int zh, .long z0, .long z1, .long z2, .long z3])), (g1, .inl (kV, 320, .inl zv)), (g2, .inl (kL, 3, .inl zl)), (g3, .inl (kR, 16, .inl zr)), (g4, .inl (kQ, 16, .inl zd))] [(kV, .int), (kL, .boolean), (kR, .int), (kQ, .int)] t) (va_A [(g0, .inr (5, [.int zt, .ref g1, .ref g2, .int zw, .ref g3, .ref g4, .int zi, .int zb, .int zp, .int zs, .int zc, .int ze, .int zy, .int zu, .int za, .int zf, .long zo, .int zg, .int zm, .int zq, .int zx, .int zh, .long z0, .long z1, .long z2, .long z3])), (g1, .inl (kV, 320, .inl zv)), (g2, .inl (kL, 3, .inl zl)), (g3, .inl (kR, 16, .inl zr)), (g4, .inl (kQ, 16, .inl zd))] sz)) 0 0 (va_A [(g0, .inr (5, [.int zt, .ref g1, .ref g2, .int zw, .ref g3, .ref g4, .int zi, .int zb, .int zp, .int zs, .int zc, .int ze, .int zy, .int zu, .int za, .int zf, .long zo, .int zg, .int zm, .int zq, .int zx, .int zh, .long z0, .long z1, .long z2, .long z3])), (g1, .inl (kV, 320, .inl zv)), (g2, .inl (kL, 3, .inl zl)), (g3, .inl (kR, 16, .inl zr)), (g4, .inl (kQ, 16, .inl zd))] sz) := by
  refine Met.ofW (cc := b_Z_valueAt) (maxL := 16) (ret := (some .int)) (by decide) rfl ?_
  intro p e s m args below meth c s₁ B hml hv
  obtain ⟨rfl, hsz, hP, hK, hD0, hN⟩ := hv
  have hx := B.exec
  have hb := B.bytes
  have hr := B.returns
  have hts0 := atoms_spec (ws := w_Z_valueAt) B.pre
  have hts : ∀ w ∈ wA_, w.before _ s = true := fun w h => hts0 w (List.mem_cons_of_mem _ h)
  have hown : s.vm.findClass R_Z = some m.cls := findClass_of_methodNamed B.named
  have hlocks := B.notSynchronized
  subst hsz
  have hD := hD0.self (sz := s.heap.size)
  generalize hAe : va_A [(g0, .inr (5, [.int zt, .ref g1, .ref g2, .int zw, .ref g3, .ref g4, .int zi, .int zb, .int zp, .int zs, .int zc, .int ze, .int zy, .int zu, .int za, .int zf, .long zo, .int zg, .int zm, .int zq, .int zx, .int zh, .long z0, .long z1, .long z2, .long z3])), (g1, .inl (kV, 320, .inl zv)), (g2, .inl (kL, 3, .inl zl)), (g3, .inl (kR, 16, .inl zr)), (g4, .inl (kQ, 16, .inl zd))] s.heap.size = A at hD ⊢
  have hA : ∀ q : Nat, s.heap.size ≤ q → A q := fun q h => by rw [← hAe]; exact Or.inr h
  have hS : va_S A s.heap s.heap [] := va_S.rf
  have hP : va_P (dC, dI) classes [(g0, .inr (5, [.int zt, .ref g1, .ref g2, .int zw, .ref g3, .ref g4, .int zi, .int zb, .int zp, .int zs, .int zc, .int ze, .int zy, .int zu, .int za, .int zf, .long zo, .int zg, .int zm, .int zq, .int zx, .int zh, .long z0, .long z1, .long z2, .long z3])), (g1, .inl (kV, 320, .inl zv)), (g2, .inl (kL, 3, .inl zl)), (g3, .inl (kR, 16, .inl zr)), (g4, .inl (kQ, 16, .inl zd))] s.heap := hP
  have hl := lv_entry ([.ref g0, .int ki, .long pa, .long ps]) (n := 16) (Nat.le_of_ble_eq_true rfl)
  rw [lg_entry_eq]
  generalize (lg_sl ([.ref g0, .int ki, .long pa, .long ps]) ++ List.replicate (16 - (lg_sl ([.ref g0, .int ki, .long pa, .long ps])).length) Slot.unset).toArray = ls at hl ⊢
  have hl : lv_has ls 16 [(0, .ref g0), (1, .int ki), (2, .long pa), (4, .long ps)] := hl
  have hS : va_S A s.heap s.heap [] := hS
  refine st_ hP hS (fun H locs hP hS => ?_)
  refine lv_lload_n hx hb d_Z_valueAt_0 rfl (lv_at hl 2 rfl) ?_
  refine lv_lconst (v := 0) hx hb d_Z_valueAt_1 (by decide) ?_
  refine W.lcmp hx hb d_Z_valueAt_2 ?_
  refine jn 16 [(0, .ref g0), (1, .int ki), (2, .long pa), (4, .long ps)] [(g0, .inr (5, [.int zt, .ref g1, .ref g2, .int zw, .ref g3, .ref g4, .int zi, .int zb, .int zp, .int zs, .int zc, .int ze, .int zy, .int zu, .int za, .int zf, .long zo, .int zg, .int zm, .int zq, .int zx, .int zh, .long z0, .long z1, .long z2, .long z3])), (g1, .inl (kV, 320, .inl zv)), (g2, .inl (kL, 3, .inl zl)), (g3, .inl (kR, 16, .inl zr)), (g4, .inl (kQ, 16, .inl zd))] 26 [.int (vZ_valueAt_0 pa)] (D := (dC, dI)) (A := A) (H0 := s.heap) (fun ls H locs hl hP hD hS => ?_) (fun J_3 => ?_)
  · refine lv_istore (lv' := [(6, .int (vZ_valueAt_0 pa)), (0, .ref g0), (1, .int ki), (2, .long pa), (4, .long ps)]) hx hb d_Z_valueAt_26 hl (by decide) rfl (fun ls hl => ?_)
    refine lv_lload hx hb d_Z_valueAt_28 (lv_at hl 4 rfl) ?_
    refine lv_lconst (v := 0) hx hb d_Z_valueAt_30 (by decide) ?_
    refine W.lcmp hx hb d_Z_valueAt_31 ?_
    refine jn 16 [(6, .int (vZ_valueAt_0 pa)), (0, .ref g0), (1, .int ki), (2, .long pa), (4, .long ps)] [(g0, .inr (5, [.int zt, .ref g1, .ref g2, .int zw, .ref g3, .ref g4, .int zi, .int zb, .int zp, .int zs, .int zc, .int ze, .int zy, .int zu, .int za, .int zf, .long zo, .int zg, .int zm, .int zq, .int zx, .int zh, .long z0, .long z1, .long z2, .long z3])), (g1, .inl (kV, 320, .inl zv)), (g2, .inl (kL, 3, .inl zl)), (g3, .inl (kR, 16, .inl zr)), (g4, .inl (kQ, 16, .inl zd))] 57 [.int (vZ_valueAt_1 ps)] (D := (dC, dI)) (A := A) (H0 := s.heap) (fun ls H locs hl hP hD hS => ?_) (fun J_6 => ?_)
    · refine lv_istore (lv' := [(7, .int (vZ_valueAt_1 ps)), (6, .int (vZ_valueAt_0 pa)), (0, .ref g0), (1, .int ki), (2, .long pa), (4, .long ps)]) hx hb d_Z_valueAt_57 hl (by decide) rfl (fun ls hl => ?_)
      refine lv_iload hx hb d_Z_valueAt_59 (lv_at hl 1 rfl) ?_
      refine lv_sipush (v := 128) hx hb d_Z_valueAt_61 (by decide) ?_
      refine lv_idiv hx hb d_Z_valueAt_64 (by decide) ?_
      refine lv_bipush (v := 6) hx hb d_Z_valueAt_65 (by decide) ?_
      refine jn 16 [(7, .int (vZ_valueAt_1 ps)), (6, .int (vZ_valueAt_0 pa)), (0, .ref g0), (1, .int ki), (2, .long pa), (4, .long ps)] [(g0, .inr (5, [.int zt, .ref g1, .ref g2, .int zw, .ref g3, .ref g4, .int zi, .int zb, .int zp, .int zs, .int zc, .int ze, .int zy, .int zu, .int za, .int zf, .long zo, .int zg, .int zm, .int zq, .int zx, .int zh, .long z0, .long z1, .long z2, .long z3])), (g1, .inl (kV, 320, .inl zv)), (g2, .inl (kL, 3, .inl zl)), (g3, .inl (kR, 16, .inl zr)), (g4, .inl (kQ, 16, .inl zd))] 81 [.int (vZ_valueAt_2 pa)] (D := (dC, dI)) (A := A) (H0 := s.heap) (fun ls H locs hl hP hD hS => ?_) (fun J_8 => ?_)
      · refine lv_istore (lv' := [(8, .int (vZ_valueAt_2 pa)), (7, .int (vZ_valueAt_1 ps)), (6, .int (vZ_valueAt_0 pa)), (0, .ref g0), (1, .int ki), (2, .long pa), (4, .long ps)]) hx hb d_Z_valueAt_81 hl (by decide) rfl (fun ls hl => ?_)
        refine lv_iload hx hb d_Z_valueAt_83 (lv_at hl 1 rfl) ?_
        refine lv_sipush (v := 1000) hx hb d_Z_valueAt_85 (by decide) ?_
        refine lv_idiv hx hb d_Z_valueAt_88 (by decide) ?_
        refine lv_bipush (v := 6) hx hb d_Z_valueAt_89 (by decide) ?_
        refine jn 16 [(8, .int (vZ_valueAt_2 pa)), (7, .int (vZ_valueAt_1 ps)), (6, .int (vZ_valueAt_0 pa)), (0, .ref g0), (1, .int ki), (2, .long pa), (4, .long ps)] [(g0, .inr (5, [.int zt, .ref g1, .ref g2, .int zw, .ref g3, .ref g4, .int zi, .int zb, .int zp, .int zs, .int zc, .int ze, .int zy, .int zu, .int za, .int zf, .long zo, .int zg, .int zm, .int zq, .int zx, .int zh, .long z0, .long z1, .long z2, .long z3])), (g1, .inl (kV, 320, .inl zv)), (g2, .inl (kL, 3, .inl zl)), (g3, .inl (kR, 16, .inl zr)), (g4, .inl (kQ, 16, .inl zd))] 105 [.int (vZ_valueAt_3 ps)] (D := (dC, dI)) (A := A) (H0 := s.heap) (fun ls H locs hl hP hD hS => ?_) (fun J_10 => ?_)
        · refine lv_istore (lv' := [(9, .int (vZ_valueAt_3 ps)), (8, .int (vZ_valueAt_2 pa)), (7, .int (vZ_valueAt_1 ps)), (6, .int (vZ_valueAt_0 pa)), (0, .ref g0), (1, .int ki), (2, .long pa), (4, .long ps)]) hx hb d_Z_valueAt_105 hl (by decide) rfl (fun ls hl => ?_)
          refine lv_iload hx hb d_Z_valueAt_107 (lv_at hl 3 rfl) ?_
          refine lv_sipush (v := 128) hx hb d_Z_valueAt_109 (by decide) ?_
          refine lv_iload hx hb d_Z_valueAt_112 (lv_at hl 1 rfl) ?_
          refine lv_imul hx hb d_Z_valueAt_114 ?_
          refine lv_isub hx hb d_Z_valueAt_115 ?_
          refine lv_i2l (v := (((vZ_valueAt_0 pa) - (128 * (vZ_valueAt_2 pa))).toInt64)) hx hb d_Z_valueAt_116 rfl ?_
          refine lv_lstore (lv' := [(10, .long (vZ_valueAt_4 pa)), (9, .int (vZ_valueAt_3 ps)), (8, .int (vZ_valueAt_2 pa)), (7, .int (vZ_valueAt_1 ps)), (6, .int (vZ_valueAt_0 pa)), (0, .ref g0), (1, .int ki), (2, .long pa), (4, .long ps)]) hx hb d_Z_valueAt_117 hl (by decide) rfl (fun ls hl => ?_)
          refine lv_iload hx hb d_Z_valueAt_119 (lv_at hl 3 rfl) ?_
          refine lv_sipush (v := 1000) hx hb d_Z_valueAt_121 (by decide) ?_
          refine lv_iload hx hb d_Z_valueAt_124 (lv_at hl 1 rfl) ?_
          refine lv_imul hx hb d_Z_valueAt_126 ?_
          refine lv_isub hx hb d_Z_valueAt_127 ?_
          refine lv_i2l (v := (((vZ_valueAt_1 ps) - (1000 * (vZ_valueAt_3 ps))).toInt64)) hx hb d_Z_valueAt_128 rfl ?_
          refine lv_lstore (lv' := [(12, .long (vZ_valueAt_5 ps)), (10, .long (vZ_valueAt_4 pa)), (9, .int (vZ_valueAt_3 ps)), (8, .int (vZ_valueAt_2 pa)), (7, .int (vZ_valueAt_1 ps)), (6, .int (vZ_valueAt_0 pa)), (0, .ref g0), (1, .int ki), (2, .long pa), (4, .long ps)]) hx hb d_Z_valueAt_129 hl (by decide) rfl (fun ls hl => ?_)
          refine lv_aload_n hx hb d_Z_valueAt_131 rfl (lv_at hl 6 rfl) ?_
          refine lv_iload_n hx hb d_Z_valueAt_132 rfl (lv_at hl 7 rfl) ?_
          refine lv_iload hx hb d_Z_valueAt_133 (lv_at hl 3 rfl) ?_
          refine lv_iload hx hb d_Z_valueAt_135 (lv_at hl 2 rfl) ?_
          have hPc := hP.sub (ws' := [(g0, .inr (5, [.int zt, .ref g1, .ref g2, .int zw, .ref g3, .ref g4, .int zi, .int zb, .int zp, .int zs, .int zc, .int ze, .int zy, .int zu, .int za, .int zf, .long zo, .int zg, .int zm, .int zq, .int zx, .int zh, .long z0, .long z1, .long z2, .long z3])), (g1, .inl (kV, 320, .inl zv)), (g2, .inl (kL, 3, .inl zl)), (g3, .inl (kR, 16, .inl zr)), (g4, .inl (kQ, 16, .inl zd))]) [0, 1, 2, 3, 4] rfl
          have hDc := hD.sub (ws' := [(g0, .inr (5, [.int zt, .ref g1, .ref g2, .int zw, .ref g3, .ref g4, .int zi, .int zb, .int zp, .int zs, .int zc, .int ze, .int zy, .int zu, .int za, .int zf, .long zo, .int zg, .int zm, .int zq, .int zx, .int zh, .long z0, .long z1, .long z2, .long z3])), (g1, .inl (kV, 320, .inl zv)), (g2, .inl (kL, 3, .inl zl)), (g3, .inl (kR, 16, .inl zr)), (g4, .inl (kQ, 16, .inl zd))]) [0, 1, 2, 3, 4] (by decide) rfl
          have hKc := hK.sub (tys' := [(kV, .int), (kL, .boolean), (kR, .int), (kQ, .int)]) [0, 1, 2, 3] rfl
          have hFc := va_free (wc := [(g0, .inr (5, [.int zt, .ref g1, .ref g2, .int zw, .ref g3, .ref g4, .int zi, .int zb, .int zp, .int zs, .int zc, .int ze, .int zy, .int zu, .int za, .int zf, .long zo, .int zg, .int zm, .int zq, .int zx, .int zh, .long z0, .long z1, .long z2, .long z3])), (g1, .inl (kV, 320, .inl zv)), (g2, .inl (kL, 3, .inl zl)), (g3, .inl (kR, 16, .inl zr)), (g4, .inl (kQ, 16, .inl zd))]) hD hS hA [0, 1, 2, 3, 4] rfl
          refine ca_i (va_runV (As := [.int ki, .int (vZ_valueAt_2 pa), .int (vZ_valueAt_3 ps)]) (rest := []) ⟨hx, hb, hml, hown, hts⟩ (c_Z_v l dC dI g0 g1 g2 g3 g4 kV kL kR kQ H.size zt zw zi zb zp zs zc ze zy zu za zf zo zg zm zq zx zh z0 z1 z2 z3 zv zl zr zd ki (vZ_valueAt_2 pa) (vZ_valueAt_3 ps) (vz_137 hk)) (cwV 3 hts (gV_ mw_171 mw_169 mw_170 mw_168 mw_167) rfl rfl rfl (by decide +kernel) ⟨Nat.le_of_ble_eq_true rfl, Nat.le_of_ble_eq_true rfl⟩) ⟨fb_, va_recv hKc hPc (ci := 5) (q0 := 0) rfl rfl, pu_ hPc hKc hDc hN⟩ rfl rfl hl.1 rfl (lv_room (Nat.le_of_ble_eq_true rfl)) d_Z_valueAt_137 ⟨Nat.le_of_ble_eq_true rfl, Nat.le_of_ble_eq_true rfl⟩) hS (fun q _ h => hFc q h) hFc (fun t H locs ht hvm hB hz1 hk1 hS => ?_)
          obtain ⟨hP, hD⟩ := aft_ (wr := []) (w1 := [(g0, .inr (5, [.int zt, .ref g1, .ref g2, .int zw, .ref g3, .ref g4, .int zi, .int zb, .int zp, .int zs, .int zc, .int ze, .int zy, .int zu, .int za, .int zf, .long zo, .int zg, .int zm, .int zq, .int zx, .int zh, .long z0, .long z1, .long z2, .long z3])), (g1, .inl (kV, 320, .inl zv)), (g2, .inl (kL, 3, .inl zl)), (g3, .inl (kR, 16, .inl zr)), (g4, .inl (kQ, 16, .inl zd))]) (w2 := [(g0, .inr (5, [.int zt, .ref g1, .ref g2, .int zw, .ref g3, .ref g4, .int zi, .int zb, .int zp, .int zs, .int zc, .int ze, .int zy, .int zu, .int za, .int zf, .long zo, .int zg, .int zm, .int zq, .int zx, .int zh, .long z0, .long z1, .long z2, .long z3])), (g1, .inl (kV, 320, .inl zv)), (g2, .inl (kL, 3, .inl zl)), (g3, .inl (kR, 16, .inl zr)), (g4, .inl (kQ, 16, .inl zd))]) hP hD [0, 1, 2, 3, 4] [] [0, 1, 2, 3, 4] rfl rfl (by decide) (by decide) hk1 hFc hB ht rfl (by decide)
          refine lv_i2l (v := ((fZ_v zv ki (vZ_valueAt_2 pa) (vZ_valueAt_3 ps)).toInt64)) hx hb d_Z_valueAt_140 rfl ?_
          refine lv_ldc2 (v := 128) hx hb hown (hts (.constantLong R_Z 44 128) mw_164) d_Z_valueAt_141 ?_
          refine lv_lload hx hb d_Z_valueAt_144 (lv_at hl 1 rfl) ?_
          refine lv_lsub hx hb d_Z_valueAt_146 ?_
          refine lv_lmul hx hb d_Z_valueAt_147 ?_
          refine lv_ldc2 (v := 1000) hx hb hown (hts (.constantLong R_Z 46 1000) mw_165) d_Z_valueAt_148 ?_
          refine lv_lload hx hb d_Z_valueAt_151 (lv_at hl 0 rfl) ?_
          refine lv_lsub hx hb d_Z_valueAt_153 ?_
          refine lv_lmul hx hb d_Z_valueAt_154 ?_
          refine lv_aload_n hx hb d_Z_valueAt_155 rfl (lv_at hl 6 rfl) ?_
          refine lv_iload_n hx hb d_Z_valueAt_156 rfl (lv_at hl 7 rfl) ?_
          refine lv_iload hx hb d_Z_valueAt_157 (lv_at hl 3 rfl) ?_
          refine lv_iconst (v := 1) hx hb d_Z_valueAt_159 (by decide) ?_
          refine lv_iadd hx hb d_Z_valueAt_160 ?_
          refine lv_iload hx hb d_Z_valueAt_161 (lv_at hl 2 rfl) ?_
          have hPc := hP.sub (ws' := [(g0, .inr (5, [.int zt, .ref g1, .ref g2, .int zw, .ref g3, .ref g4, .int zi, .int zb, .int zp, .int zs, .int zc, .int ze, .int zy, .int zu, .int za, .int zf, .long zo, .int zg, .int zm, .int zq, .int zx, .int zh, .long z0, .long z1, .long z2, .long z3])), (g1, .inl (kV, 320, .inl zv)), (g2, .inl (kL, 3, .inl zl)), (g3, .inl (kR, 16, .inl zr)), (g4, .inl (kQ, 16, .inl zd))]) [0, 1, 2, 3, 4] rfl
          have hDc := hD.sub (ws' := [(g0, .inr (5, [.int zt, .ref g1, .ref g2, .int zw, .ref g3, .ref g4, .int zi, .int zb, .int zp, .int zs, .int zc, .int ze, .int zy, .int zu, .int za, .int zf, .long zo, .int zg, .int zm, .int zq, .int zx, .int zh, .long z0, .long z1, .long z2, .long z3])), (g1, .inl (kV, 320, .inl zv)), (g2, .inl (kL, 3, .inl zl)), (g3, .inl (kR, 16, .inl zr)), (g4, .inl (kQ, 16, .inl zd))]) [0, 1, 2, 3, 4] (by decide) rfl
          have hKc := hK.sub (tys' := [(kV, .int), (kL, .boolean), (kR, .int), (kQ, .int)]) [0, 1, 2, 3] rfl
          have hFc := va_free (wc := [(g0, .inr (5, [.int zt, .ref g1, .ref g2, .int zw, .ref g3, .ref g4, .int zi, .int zb, .int zp, .int zs, .int zc, .int ze, .int zy, .int zu, .int za, .int zf, .long zo, .int zg, .int zm, .int zq, .int zx, .int zh, .long z0, .long z1, .long z2, .long z3])), (g1, .inl (kV, 320, .inl zv)), (g2, .inl (kL, 3, .inl zl)), (g3, .inl (kR, 16, .inl zr)), (g4, .inl (kQ, 16, .inl zd))]) hD hS hA [0, 1, 2, 3, 4] rfl
          refine ca_i (va_runV (As := [.int ki, .int ((vZ_valueAt_2 pa) + 1), .int (vZ_valueAt_3 ps)]) (rest := [.long ((((fZ_v zv ki (vZ_valueAt_2 pa) (vZ_valueAt_3 ps)).toInt64) * (128 - (vZ_valueAt_4 pa))) * (1000 - (vZ_valueAt_5 ps)))]) ⟨hx, hb, hml, hown, hts⟩ (c_Z_v l dC dI g0 g1 g2 g3 g4 kV kL kR kQ H.size zt zw zi zb zp zs zc ze zy zu za zf zo zg zm zq zx zh z0 z1 z2 z3 zv zl zr zd ki ((vZ_valueAt_2 pa) + 1) (vZ_valueAt_3 ps) (vz_163 hk)) (cwV 3 hts (gV_ mw_171 mw_169 mw_170 mw_168 mw_167) rfl rfl rfl (by decide +kernel) ⟨Nat.le_of_ble_eq_true rfl, Nat.le_of_ble_eq_true rfl⟩) ⟨fb_, va_recv hKc hPc (ci := 5) (q0 := 0) rfl rfl, pu_ hPc hKc hDc hN⟩ rfl rfl hl.1 rfl (lv_room (Nat.le_of_ble_eq_true rfl)) d_Z_valueAt_163 ⟨Nat.le_of_ble_eq_true rfl, Nat.le_of_ble_eq_true rfl⟩) hS (fun q _ h => hFc q h) hFc (fun t H locs ht hvm hB hz1 hk1 hS => ?_)
          obtain ⟨hP, hD⟩ := aft_ (wr := []) (w1 := [(g0, .inr (5, [.int zt, .ref g1, .ref g2, .int zw, .ref g3, .ref g4, .int zi, .int zb, .int zp, .int zs, .int zc, .int ze, .int zy, .int zu, .int za, .int zf, .long zo, .int zg, .int zm, .int zq, .int zx, .int zh, .long z0, .long z1, .long z2, .long z3])), (g1, .inl (kV, 320, .inl zv)), (g2, .inl (kL, 3, .inl zl)), (g3, .inl (kR, 16, .inl zr)), (g4, .inl (kQ, 16, .inl zd))]) (w2 := [(g0, .inr (5, [.int zt, .ref g1, .ref g2, .int zw, .ref g3, .ref g4, .int zi, .int zb, .int zp, .int zs, .int zc, .int ze, .int zy, .int zu, .int za, .int zf, .long zo, .int zg, .int zm, .int zq, .int zx, .int zh, .long z0, .long z1, .long z2, .long z3])), (g1, .inl (kV, 320, .inl zv)), (g2, .inl (kL, 3, .inl zl)), (g3, .inl (kR, 16, .inl zr)), (g4, .inl (kQ, 16, .inl zd))]) hP hD [0, 1, 2, 3, 4] [] [0, 1, 2, 3, 4] rfl rfl (by decide) (by decide) hk1 hFc hB ht rfl (by decide)
          refine lv_i2l (v := ((fZ_v zv ki ((vZ_valueAt_2 pa) + 1) (vZ_valueAt_3 ps)).toInt64)) hx hb d_Z_valueAt_166 rfl ?_
          refine lv_lload hx hb d_Z_valueAt_167 (lv_at hl 1 rfl) ?_
          refine lv_lmul hx hb d_Z_valueAt_169 ?_
          refine lv_ldc2 (v := 1000) hx hb hown (hts (.constantLong R_Z 46 1000) mw_165) d_Z_valueAt_170 ?_
          refine lv_lload hx hb d_Z_valueAt_173 (lv_at hl 0 rfl) ?_
          refine lv_lsub hx hb d_Z_valueAt_175 ?_
          refine lv_lmul hx hb d_Z_valueAt_176 ?_
          refine lv_ladd hx hb d_Z_valueAt_177 ?_
          refine lv_aload_n hx hb d_Z_valueAt_178 rfl (lv_at hl 6 rfl) ?_
          refine lv_iload_n hx hb d_Z_valueAt_179 rfl (lv_at hl 7 rfl) ?_
          refine lv_iload hx hb d_Z_valueAt_180 (lv_at hl 3 rfl) ?_
          refine lv_iload hx hb d_Z_valueAt_182 (lv_at hl 2 rfl) ?_
          refine lv_iconst (v := 1) hx hb d_Z_valueAt_184 (by decide) ?_
          refine lv_iadd hx hb d_Z_valueAt_185 ?_
          have hPc := hP.sub (ws' := [(g0, .inr (5, [.int zt, .ref g1, .ref g2, .int zw, .ref g3, .ref g4, .int zi, .int zb, .int zp, .int zs, .int zc, .int ze, .int zy, .int zu, .int za, .int zf, .long zo, .int zg, .int zm, .int zq, .int zx, .int zh, .long z0, .long z1, .long z2, .long z3])), (g1, .inl (kV, 320, .inl zv)), (g2, .inl (kL, 3, .inl zl)), (g3, .inl (kR, 16, .inl zr)), (g4, .inl (kQ, 16, .inl zd))]) [0, 1, 2, 3, 4] rfl
          have hDc := hD.sub (ws' := [(g0, .inr (5, [.int zt, .ref g1, .ref g2, .int zw, .ref g3, .ref g4, .int zi, .int zb, .int zp, .int zs, .int zc, .int ze, .int zy, .int zu, .int za, .int zf, .long zo, .int zg, .int zm, .int zq, .int zx, .int zh, .long z0, .long z1, .long z2, .long z3])), (g1, .inl (kV, 320, .inl zv)), (g2, .inl (kL, 3, .inl zl)), (g3, .inl (kR, 16, .inl zr)), (g4, .inl (kQ, 16, .inl zd))]) [0, 1, 2, 3, 4] (by decide) rfl
          have hKc := hK.sub (tys' := [(kV, .int), (kL, .boolean), (kR, .int), (kQ, .int)]) [0, 1, 2, 3] rfl
          have hFc := va_free (wc := [(g0, .inr (5, [.int zt, .ref g1, .ref g2, .int zw, .ref g3, .ref g4, .int zi, .int zb, .int zp, .int zs, .int zc, .int ze, .int zy, .int zu, .int za, .int zf, .long zo, .int zg, .int zm, .int zq, .int zx, .int zh, .long z0, .long z1, .long z2, .long z3])), (g1, .inl (kV, 320, .inl zv)), (g2, .inl (kL, 3, .inl zl)), (g3, .inl (kR, 16, .inl zr)), (g4, .inl (kQ, 16, .inl zd))]) hD hS hA [0, 1, 2, 3, 4] rfl
          refine ca_i (va_runV (As := [.int ki, .int (vZ_valueAt_2 pa), .int ((vZ_valueAt_3 ps) + 1)]) (rest := [.long (((((fZ_v zv ki (vZ_valueAt_2 pa) (vZ_valueAt_3 ps)).toInt64) * (128 - (vZ_valueAt_4 pa))) * (1000 - (vZ_valueAt_5 ps))) + ((((fZ_v zv ki ((vZ_valueAt_2 pa) + 1) (vZ_valueAt_3 ps)).toInt64) * (vZ_valueAt_4 pa)) * (1000 - (vZ_valueAt_5 ps))))]) ⟨hx, hb, hml, hown, hts⟩ (c_Z_v l dC dI g0 g1 g2 g3 g4 kV kL kR kQ H.size zt zw zi zb zp zs zc ze zy zu za zf zo zg zm zq zx zh z0 z1 z2 z3 zv zl zr zd ki (vZ_valueAt_2 pa) ((vZ_valueAt_3 ps) + 1) (vz_186 hk)) (cwV 3 hts (gV_ mw_171 mw_169 mw_170 mw_168 mw_167) rfl rfl rfl (by decide +kernel) ⟨Nat.le_of_ble_eq_true rfl, Nat.le_of_ble_eq_true rfl⟩) ⟨fb_, va_recv hKc hPc (ci := 5) (q0 := 0) rfl rfl, pu_ hPc hKc hDc hN⟩ rfl rfl hl.1 rfl (lv_room (Nat.le_of_ble_eq_true rfl)) d_Z_valueAt_186 ⟨Nat.le_of_ble_eq_true rfl, Nat.le_of_ble_eq_true rfl⟩) hS (fun q _ h => hFc q h) hFc (fun t H locs ht hvm hB hz1 hk1 hS => ?_)
          obtain ⟨hP, hD⟩ := aft_ (wr := []) (w1 := [(g0, .inr (5, [.int zt, .ref g1, .ref g2, .int zw, .ref g3, .ref g4, .int zi, .int zb, .int zp, .int zs, .int zc, .int ze, .int zy, .int zu, .int za, .int zf, .long zo, .int zg, .int zm, .int zq, .int zx, .int zh, .long z0, .long z1, .long z2, .long z3])), (g1, .inl (kV, 320, .inl zv)), (g2, .inl (kL, 3, .inl zl)), (g3, .inl (kR, 16, .inl zr)), (g4, .inl (kQ, 16, .inl zd))]) (w2 := [(g0, .inr (5, [.int zt, .ref g1, .ref g2, .int zw, .ref g3, .ref g4, .int zi, .int zb, .int zp, .int zs, .int zc, .int ze, .int zy, .int zu, .int za, .int zf, .long zo, .int zg, .int zm, .int zq, .int zx, .int zh, .long z0, .long z1, .long z2, .long z3])), (g1, .inl (kV, 320, .inl zv)), (g2, .inl (kL, 3, .inl zl)), (g3, .inl (kR, 16, .inl zr)), (g4, .inl (kQ, 16, .inl zd))]) hP hD [0, 1, 2, 3, 4] [] [0, 1, 2, 3, 4] rfl rfl (by decide) (by decide) hk1 hFc hB ht rfl (by decide)
          refine lv_i2l (v := ((fZ_v zv ki (vZ_valueAt_2 pa) ((vZ_valueAt_3 ps) + 1)).toInt64)) hx hb d_Z_valueAt_189 rfl ?_
          refine lv_ldc2 (v := 128) hx hb hown (hts (.constantLong R_Z 44 128) mw_164) d_Z_valueAt_190 ?_
          refine lv_lload hx hb d_Z_valueAt_193 (lv_at hl 1 rfl) ?_
          refine lv_lsub hx hb d_Z_valueAt_195 ?_
          refine lv_lmul hx hb d_Z_valueAt_196 ?_
          refine lv_lload hx hb d_Z_valueAt_197 (lv_at hl 0 rfl) ?_
          refine lv_lmul hx hb d_Z_valueAt_199 ?_
          refine lv_ladd hx hb d_Z_valueAt_200 ?_
          refine lv_aload_n hx hb d_Z_valueAt_201 rfl (lv_at hl 6 rfl) ?_
          refine lv_iload_n hx hb d_Z_valueAt_202 rfl (lv_at hl 7 rfl) ?_
          refine lv_iload hx hb d_Z_valueAt_203 (lv_at hl 3 rfl) ?_
          refine lv_iconst (v := 1) hx hb d_Z_valueAt_205 (by decide) ?_
          refine lv_iadd hx hb d_Z_valueAt_206 ?_
          refine lv_iload hx hb d_Z_valueAt_207 (lv_at hl 2 rfl) ?_
          refine lv_iconst (v := 1) hx hb d_Z_valueAt_209 (by decide) ?_
          refine lv_iadd hx hb d_Z_valueAt_210 ?_
          have hPc := hP.sub (ws' := [(g0, .inr (5, [.int zt, .ref g1, .ref g2, .int zw, .ref g3, .ref g4, .int zi, .int zb, .int zp, .int zs, .int zc, .int ze, .int zy, .int zu, .int za, .int zf, .long zo, .int zg, .int zm, .int zq, .int zx, .int zh, .long z0, .long z1, .long z2, .long z3])), (g1, .inl (kV, 320, .inl zv)), (g2, .inl (kL, 3, .inl zl)), (g3, .inl (kR, 16, .inl zr)), (g4, .inl (kQ, 16, .inl zd))]) [0, 1, 2, 3, 4] rfl
          have hDc := hD.sub (ws' := [(g0, .inr (5, [.int zt, .ref g1, .ref g2, .int zw, .ref g3, .ref g4, .int zi, .int zb, .int zp, .int zs, .int zc, .int ze, .int zy, .int zu, .int za, .int zf, .long zo, .int zg, .int zm, .int zq, .int zx, .int zh, .long z0, .long z1, .long z2, .long z3])), (g1, .inl (kV, 320, .inl zv)), (g2, .inl (kL, 3, .inl zl)), (g3, .inl (kR, 16, .inl zr)), (g4, .inl (kQ, 16, .inl zd))]) [0, 1, 2, 3, 4] (by decide) rfl
          have hKc := hK.sub (tys' := [(kV, .int), (kL, .boolean), (kR, .int), (kQ, .int)]) [0, 1, 2, 3] rfl
          have hFc := va_free (wc := [(g0, .inr (5, [.int zt, .ref g1, .ref g2, .int zw, .ref g3, .ref g4, .int zi, .int zb, .int zp, .int zs, .int zc, .int ze, .int zy, .int zu, .int za, .int zf, .long zo, .int zg, .int zm, .int zq, .int zx, .int zh, .long z0, .long z1, .long z2, .long z3])), (g1, .inl (kV, 320, .inl zv)), (g2, .inl (kL, 3, .inl zl)), (g3, .inl (kR, 16, .inl zr)), (g4, .inl (kQ, 16, .inl zd))]) hD hS hA [0, 1, 2, 3, 4] rfl
          refine ca_i (va_runV (As := [.int ki, .int ((vZ_valueAt_2 pa) + 1), .int ((vZ_valueAt_3 ps) + 1)]) (rest := [.long ((((((fZ_v zv ki (vZ_valueAt_2 pa) (vZ_valueAt_3 ps)).toInt64) * (128 - (vZ_valueAt_4 pa))) * (1000 - (vZ_valueAt_5 ps))) + ((((fZ_v zv ki ((vZ_valueAt_2 pa) + 1) (vZ_valueAt_3 ps)).toInt64) * (vZ_valueAt_4 pa)) * (1000 - (vZ_valueAt_5 ps)))) + ((((fZ_v zv ki (vZ_valueAt_2 pa) ((vZ_valueAt_3 ps) + 1)).toInt64) * (128 - (vZ_valueAt_4 pa))) * (vZ_valueAt_5 ps)))]) ⟨hx, hb, hml, hown, hts⟩ (c_Z_v l dC dI g0 g1 g2 g3 g4 kV kL kR kQ H.size zt zw zi zb zp zs zc ze zy zu za zf zo zg zm zq zx zh z0 z1 z2 z3 zv zl zr zd ki ((vZ_valueAt_2 pa) + 1) ((vZ_valueAt_3 ps) + 1) (vz_211 hk)) (cwV 3 hts (gV_ mw_171 mw_169 mw_170 mw_168 mw_167) rfl rfl rfl (by decide +kernel) ⟨Nat.le_of_ble_eq_true rfl, Nat.le_of_ble_eq_true rfl⟩) ⟨fb_, va_recv hKc hPc (ci := 5) (q0 := 0) rfl rfl, pu_ hPc hKc hDc hN⟩ rfl rfl hl.1 rfl (lv_room (Nat.le_of_ble_eq_true rfl)) d_Z_valueAt_211 ⟨Nat.le_of_ble_eq_true rfl, Nat.le_of_ble_eq_true rfl⟩) hS (fun q _ h => hFc q h) hFc (fun t H locs ht hvm hB hz1 hk1 hS => ?_)
          obtain ⟨hP, hD⟩ := aft_ (wr := []) (w1 := [(g0, .inr (5, [.int zt, .ref g1, .ref g2, .int zw, .ref g3, .ref g4, .int zi, .int zb, .int zp, .int zs, .int zc, .int ze, .int zy, .int zu, .int za, .int zf, .long zo, .int zg, .int zm, .int zq, .int zx, .int zh, .long z0, .long z1, .long z2, .long z3])), (g1, .inl (kV, 320, .inl zv)), (g2, .inl (kL, 3, .inl zl)), (g3, .inl (kR, 16, .inl zr)), (g4, .inl (kQ, 16, .inl zd))]) (w2 := [(g0, .inr (5, [.int zt, .ref g1, .ref g2, .int zw, .ref g3, .ref g4, .int zi, .int zb, .int zp, .int zs, .int zc, .int ze, .int zy, .int zu, .int za, .int zf, .long zo, .int zg, .int zm, .int zq, .int zx, .int zh, .long z0, .long z1, .long z2, .long z3])), (g1, .inl (kV, 320, .inl zv)), (g2, .inl (kL, 3, .inl zl)), (g3, .inl (kR, 16, .inl zr)), (g4, .inl (kQ, 16, .inl zd))]) hP hD [0, 1, 2, 3, 4] [] [0, 1, 2, 3, 4] rfl rfl (by decide) (by decide) hk1 hFc hB ht rfl (by decide)
          refine lv_i2l (v := ((fZ_v zv ki ((vZ_valueAt_2 pa) + 1) ((vZ_valueAt_3 ps) + 1)).toInt64)) hx hb d_Z_valueAt_214 rfl ?_
          refine lv_lload hx hb d_Z_valueAt_215 (lv_at hl 1 rfl) ?_
          refine lv_lmul hx hb d_Z_valueAt_217 ?_
          refine lv_lload hx hb d_Z_valueAt_218 (lv_at hl 0 rfl) ?_
          refine lv_lmul hx hb d_Z_valueAt_220 ?_
          refine lv_ladd hx hb d_Z_valueAt_221 ?_
          refine lv_lstore (lv' := [(14, .long (vZ_valueAt_6 zv ki pa ps)), (12, .long (vZ_valueAt_5 ps)), (10, .long (vZ_valueAt_4 pa)), (9, .int (vZ_valueAt_3 ps)), (8, .int (vZ_valueAt_2 pa)), (7, .int (vZ_valueAt_1 ps)), (6, .int (vZ_valueAt_0 pa)), (0, .ref g0), (1, .int ki), (2, .long pa), (4, .long ps)]) hx hb d_Z_valueAt_222 hl (by decide) rfl (fun ls hl => ?_)
          refine lv_lload hx hb d_Z_valueAt_224 (lv_at hl 0 rfl) ?_
          refine lv_ldc2 (v := 128000) hx hb hown (hts (.constantLong R_Z 48 128000) mw_166) d_Z_valueAt_226 ?_
          refine lv_ldiv hx hb d_Z_valueAt_229 (by decide) ?_
          refine lv_l2i (v := (((vZ_valueAt_6 zv ki pa ps) / 128000).toInt32)) hx hb d_Z_valueAt_230 rfl ?_
          have h9 : va_P (dC, dI) classes [(g0, .inr (5, [.int zt, .ref g1, .ref g2, .int zw, .ref g3, .ref g4, .int zi, .int zb, .int zp, .int zs, .int zc, .int ze, .int zy, .int zu, .int za, .int zf, .long zo, .int zg, .int zm, .int zq, .int zx, .int zh, .long z0, .long z1, .long z2, .long z3])), (g1, .inl (kV, 320, .inl zv)), (g2, .inl (kL, 3, .inl zl)), (g3, .inl (kR, 16, .inl zr)), (g4, .inl (kQ, 16, .inl zd))] H ∧ va_D A [(g0, .inr (5, [.int zt, .ref g1, .ref g2, .int zw, .ref g3, .ref g4, .int zi, .int zb, .int zp, .int zs, .int zc, .int ze, .int zy, .int zu, .int za, .int zf, .long zo, .int zg, .int zm, .int zq, .int zx, .int zh, .long z0, .long z1, .long z2, .long z3])), (g1, .inl (kV, 320, .inl zv)), (g2, .inl (kL, 3, .inl zl)), (g3, .inl (kR, 16, .inl zr)), (g4, .inl (kQ, 16, .inl zd))] := ⟨hP, hD⟩
          exact W.iret (v := (((vZ_valueAt_6 zv ki pa ps) / 128000).toInt32)) hx hb hr (fun t ht hW => ⟨⟨(((vZ_valueAt_6 zv ki pa ps) / 128000).toInt32), (), rfl, rfl, by rw [ht]; exact h9.1, va_K.moved hW.alike hK, h9.2⟩, hS.F ht⟩) hS.2.2 d_Z_valueAt_231
        · refine lv_icmp_le (tgt := 99) hx hb d_Z_valueAt_91 (by decide) (fun c_9 => ?_) (fun c_9 => ?_)
          · refine lv_iload hx hb d_Z_valueAt_99 (lv_at hl 1 rfl) ?_
            refine lv_sipush (v := 1000) hx hb d_Z_valueAt_101 (by decide) ?_
            refine lv_idiv hx hb d_Z_valueAt_104 (by decide) ?_
            refine W.eq (g2 := F0 m 105 ls [.int (vZ_valueAt_3 ps)]) (by rw [show (vZ_valueAt_3 ps) = ((vZ_valueAt_1 ps) / 1000) from (if_pos c_9)]) ?_
            exact J_10 _ _ _ (lv_sub hl [0, 1, 2, 3, 4, 5, 6] rfl) hP hD hS
          · refine lv_bipush (v := 6) hx hb d_Z_valueAt_94 (by decide) ?_
            refine lv_goto (tgt := 105) hx hb d_Z_valueAt_96 (by decide) ?_
            refine W.eq (g2 := F0 m 105 ls [.int (vZ_valueAt_3 ps)]) (by rw [show (vZ_valueAt_3 ps) = 6 from (if_neg c_9)]) ?_
            exact J_10 _ _ _ (lv_sub hl [0, 1, 2, 3, 4, 5, 6] rfl) hP hD hS
      · refine lv_icmp_le (tgt := 75) hx hb d_Z_valueAt_67 (by decide) (fun c_7 => ?_) (fun c_7 => ?_)
        · refine lv_iload hx hb d_Z_valueAt_75 (lv_at hl 1 rfl) ?_
          refine lv_sipush (v := 128) hx hb d_Z_valueAt_77 (by decide) ?_
          refine lv_idiv hx hb d_Z_valueAt_80 (by decide) ?_
          refine W.eq (g2 := F0 m 81 ls [.int (vZ_valueAt_2 pa)]) (by rw [show (vZ_valueAt_2 pa) = ((vZ_valueAt_0 pa) / 128) from (if_pos c_7)]) ?_
          exact J_8 _ _ _ (lv_sub hl [0, 1, 2, 3, 4, 5] rfl) hP hD hS
        · refine lv_bipush (v := 6) hx hb d_Z_valueAt_70 (by decide) ?_
          refine lv_goto (tgt := 81) hx hb d_Z_valueAt_72 (by decide) ?_
          refine W.eq (g2 := F0 m 81 ls [.int (vZ_valueAt_2 pa)]) (by rw [show (vZ_valueAt_2 pa) = 6 from (if_neg c_7)]) ?_
          exact J_8 _ _ _ (lv_sub hl [0, 1, 2, 3, 4, 5] rfl) hP hD hS
    · refine lv_if_ge (tgt := 39) hx hb d_Z_valueAt_32 (by decide) (fun c_4 => ?_) (fun c_4 => ?_)
      · refine lv_lload hx hb d_Z_valueAt_39 (lv_at hl 4 rfl) ?_
        refine lv_ldc2 (v := 7000) hx hb hown (hts (.constantLong R_Z 38 7000) mw_163) d_Z_valueAt_41 ?_
        refine W.lcmp hx hb d_Z_valueAt_44 ?_
        refine lv_if_le (tgt := 54) hx hb d_Z_valueAt_45 (by decide) (fun c_11 => ?_) (fun c_11 => ?_)
        · refine lv_lload hx hb d_Z_valueAt_54 (lv_at hl 4 rfl) ?_
          refine lv_l2i (v := (ps.toInt32)) hx hb d_Z_valueAt_56 rfl ?_
          refine W.eq (g2 := F0 m 57 ls [.int (vZ_valueAt_1 ps)]) (by rw [show (vZ_valueAt_1 ps) = (ps.toInt32) from ((if_pos c_4).trans (if_pos c_11))]) ?_
          exact J_6 _ _ _ (lv_sub hl [0, 1, 2, 3, 4] rfl) hP hD hS
        · refine lv_sipush (v := 7000) hx hb d_Z_valueAt_48 (by decide) ?_
          refine lv_goto (tgt := 57) hx hb d_Z_valueAt_51 (by decide) ?_
          refine W.eq (g2 := F0 m 57 ls [.int (vZ_valueAt_1 ps)]) (by rw [show (vZ_valueAt_1 ps) = 7000 from ((if_pos c_4).trans (if_neg c_11))]) ?_
          exact J_6 _ _ _ (lv_sub hl [0, 1, 2, 3, 4] rfl) hP hD hS
      · refine lv_iconst (v := 0) hx hb d_Z_valueAt_35 (by decide) ?_
        refine lv_goto (tgt := 57) hx hb d_Z_valueAt_36 (by decide) ?_
        refine W.eq (g2 := F0 m 57 ls [.int (vZ_valueAt_1 ps)]) (by rw [show (vZ_valueAt_1 ps) = 0 from (if_neg c_4)]) ?_
        exact J_6 _ _ _ (lv_sub hl [0, 1, 2, 3, 4] rfl) hP hD hS
  · refine lv_if_ge (tgt := 10) hx hb d_Z_valueAt_3 (by decide) (fun c_1 => ?_) (fun c_1 => ?_)
    · refine lv_lload_n hx hb d_Z_valueAt_10 rfl (lv_at hl 2 rfl) ?_
      refine lv_ldc2 (v := 896) hx hb hown (hts (.constantLong R_Z 36 896) mw_162) d_Z_valueAt_11 ?_
      refine W.lcmp hx hb d_Z_valueAt_14 ?_
      refine lv_if_le (tgt := 24) hx hb d_Z_valueAt_15 (by decide) (fun c_12 => ?_) (fun c_12 => ?_)
      · refine lv_lload_n hx hb d_Z_valueAt_24 rfl (lv_at hl 2 rfl) ?_
        refine lv_l2i (v := (pa.toInt32)) hx hb d_Z_valueAt_25 rfl ?_
        refine W.eq (g2 := F0 m 26 ls [.int (vZ_valueAt_0 pa)]) (by rw [show (vZ_valueAt_0 pa) = (pa.toInt32) from ((if_pos c_1).trans (if_pos c_12))]) ?_
        exact J_3 _ _ _ (lv_sub hl [0, 1, 2, 3] rfl) hP hD hS
      · refine lv_sipush (v := 896) hx hb d_Z_valueAt_18 (by decide) ?_
        refine lv_goto (tgt := 26) hx hb d_Z_valueAt_21 (by decide) ?_
        refine W.eq (g2 := F0 m 26 ls [.int (vZ_valueAt_0 pa)]) (by rw [show (vZ_valueAt_0 pa) = 896 from ((if_pos c_1).trans (if_neg c_12))]) ?_
        exact J_3 _ _ _ (lv_sub hl [0, 1, 2, 3] rfl) hP hD hS
    · refine lv_iconst (v := 0) hx hb d_Z_valueAt_6 (by decide) ?_
      refine lv_goto (tgt := 26) hx hb d_Z_valueAt_7 (by decide) ?_
      refine W.eq (g2 := F0 m 26 ls [.int (vZ_valueAt_0 pa)]) (by rw [show (vZ_valueAt_0 pa) = 0 from (if_neg c_1)]) ?_
      exact J_3 _ _ _ (lv_sub hl [0, 1, 2, 3] rfl) hP hD hS
set_option maxHeartbeats 4000000 in
set_option maxRecDepth 100000 in
theorem tw_body {p : Program} {l : Launch} {e : Env} {R : Room} {s : State} {m : MethodId} {args : Array Value} {below : List Frame} {meth : Method} {c : Code} {cells slots : Nat} {Q : State → Prop} {dC : Nat → ClassId} {dI : Nat → Nat → Nat} {A : Nat → Prop} {g0 g1 g2 g3 g4 : Nat} {kV kL kR kQ : ClassId} {zt : Int32} {zw : Int32} {zi : Int32} {zb : Int32} {zp : Int32} {zs : Int32} {zc : Int32} {ze : Int32} {zy : Int32} {zu : Int32} {za : Int32} {zf : Int32} {zo : Int64} {zg : Int32} {zm : Int32} {zq : Int32} {zx : Int32} {zh : Int32} {z0 : Int64} {z1 : Int64} {z2 : Int64} {z3 : Int64} {zv : Nat → Int32} {zl : Nat → Int32} {zr : Nat → Int32} {zd : Nat → Int32} (kk lm rr : Int32) (hx : p.tables.exec = Jvm.exec) (hb : c.code = b_Z_takeWishes) (hts : ∀ w ∈ wA_, w.before args s = true) (hown : s.vm.findClass R_Z = some m.cls) (hK : va_K (dC, dI) classes [(kV, .int), (kL, .boolean), (kR, .int), (kQ, .int)] s) (h16 : ¬ zw ≤ kk → vp_in kk 16) (KE : zw ≤ kk → ∀ (ls : Array Slot) (H : Heap) (locs : List Loc), lv_has ls 4 [(3, .int kk), (2, .int lm), (1, .int rr), (0, .ref g0)] → va_P (dC, dI) classes [(g0, .inr (5, [.int zt, .ref g1, .ref g2, .int zw, .ref g3, .ref g4, .int zi, .int zb, .int zp, .int zs, .int zc, .int ze, .int zy, .int zu, .int za, .int zf, .long zo, .int zg, .int zm, .int zq, .int zx, .int zh, .long z0, .long z1, .long z2, .long z3])), (g1, .inl (kV, 320, .inl zv)), (g2, .inl (kL, 3, .inl zl)), (g3, .inl (kR, 16, .inl zr)), (g4, .inl (kQ, 16, .inl zd))] H → va_D A [(g0, .inr (5, [.int zt, .ref g1, .ref g2, .int zw, .ref g3, .ref g4, .int zi, .int zb, .int zp, .int zs, .int zc, .int ze, .int zy, .int zu, .int za, .int zf, .long zo, .int zg, .int zm, .int zq, .int zx, .int zh, .long z0, .long z1, .long z2, .long z3])), (g1, .inl (kV, 320, .inl zv)), (g2, .inl (kL, 3, .inl zl)), (g3, .inl (kR, 16, .inl zr)), (g4, .inl (kQ, 16, .inl zd))] → va_S A s.heap H locs → W p l e R s m args below meth c H locs cells slots Q (F0 m 57 ls [])) (KL : ¬ zw ≤ kk → ∀ (ls : Array Slot) (H : Heap) (locs : List Loc), lv_has ls 4 [(3, .int (kk + 1)), (2, .int (vZ_tw_0 zr kk rr lm zd)), (1, .int rr), (0, .ref g0)] → va_P (dC, dI) classes [(g0, .inr (5, [.int zt, .ref g1, .ref g2, .int zw, .ref g3, .ref g4, .int zi, .int zb, .int zp, .int zs, .int zc, .int ze, .int zy, .int zu, .int za, .int zf, .long zo, .int zg, .int zm, .int zq, .int zx, .int zh, .long z0, .long z1, .long z2, .long z3])), (g1, .inl (kV, 320, .inl zv)), (g2, .inl (kL, 3, .inl zl)), (g3, .inl (kR, 16, .inl zr)), (g4, .inl (kQ, 16, .inl zd))] H → va_D A [(g0, .inr (5, [.int zt, .ref g1, .ref g2, .int zw, .ref g3, .ref g4, .int zi, .int zb, .int zp, .int zs, .int zc, .int ze, .int zy, .int zu, .int za, .int zf, .long zo, .int zg, .int zm, .int zq, .int zx, .int zh, .long z0, .long z1, .long z2, .long z3])), (g1, .inl (kV, 320, .inl zv)), (g2, .inl (kL, 3, .inl zl)), (g3, .inl (kR, 16, .inl zr)), (g4, .inl (kQ, 16, .inl zd))] → va_S A s.heap H locs → W p l e R s m args below meth c H locs cells slots Q (F0 m 12 ls [])) : ∀ (ls : Array Slot) (H : Heap) (locs : List Loc), lv_has ls 4 [(3, .int kk), (2, .int lm), (1, .int rr), (0, .ref g0)] → va_P (dC, dI) classes [(g0, .inr (5, [.int zt, .ref g1, .ref g2, .int zw, .ref g3, .ref g4, .int zi, .int zb, .int zp, .int zs, .int zc, .int ze, .int zy, .int zu, .int za, .int zf, .long zo, .int zg, .int zm, .int zq, .int zx, .int zh, .long z0, .long z1, .long z2, .long z3])), (g1, .inl (kV, 320, .inl zv)), (g2, .inl (kL, 3, .inl zl)), (g3, .inl (kR, 16, .inl zr)), (g4, .inl (kQ, 16, .inl zd))] H → va_D A [(g0, .inr (5, [.int zt, .ref g1, .ref g2, .int zw, .ref g3, .ref g4, .int zi, .int zb, .int zp, .int zs, .int zc, .int ze, .int zy, .int zu, .int za, .int zf, .long zo, .int zg, .int zm, .int zq, .int zx, .int zh, .long z0, .long z1, .long z2, .long z3])), (g1, .inl (kV, 320, .inl zv)), (g2, .inl (kL, 3, .inl zl)), (g3, .inl (kR, 16, .inl zr)), (g4, .inl (kQ, 16, .inl zd))] → va_S A s.heap H locs → W p l e R s m args below meth c H locs cells slots Q (F0 m 12 ls []) := by
  intro ls H locs hl hP hD hS
  refine lv_iload_n hx hb d_Z_takeWishes_12 rfl (lv_at hl 0 rfl) ?_
  refine lv_aload_n hx hb d_Z_takeWishes_13 rfl (lv_at hl 3 rfl) ?_
  refine va_get (D := (dC, dI)) (ci := 5) (v := .int zw) (C := R_Z) (T := F_Z) (N := 26) hx hb hts in_Z hown hK hP 0 rfl rfl 3 (by decide) (hts (.fieldLink R_Z 50 "TorqueRowsModel" "wishes" "I") mw_190) (fun _ h9 => h9) rfl d_Z_takeWishes_14 ?_
  refine lv_icmp_ge (tgt := 57) hx hb d_Z_takeWishes_17 (by decide) (fun c_1 => ?_) (fun c_1 => ?_)
  · exact KE c_1 _ _ _ (lv_sub hl [0, 1, 2, 3] rfl) hP hD hS
  · refine lv_aload_n hx hb d_Z_takeWishes_20 rfl (lv_at hl 3 rfl) ?_
    refine va_get (D := (dC, dI)) (ci := 5) (v := .ref g3) (C := R_Z) (T := F_Z) (N := 26) hx hb hts in_Z hown hK hP 0 rfl rfl 4 (by decide) (hts (.fieldLink R_Z 17 "TorqueRowsModel" "rank" "[I") mw_213) (fun _ h9 => h9) rfl d_Z_takeWishes_21 ?_
    refine lv_iload_n hx hb d_Z_takeWishes_24 rfl (lv_at hl 0 rfl) ?_
    refine va_iald hx hb hK hP 3 2 rfl rfl (h16 c_1) d_Z_takeWishes_25 ?_
    refine lv_iload_n hx hb d_Z_takeWishes_26 rfl (lv_at hl 2 rfl) ?_
    refine jn 4 [(2, .int (vZ_tw_0 zr kk rr lm zd)), (3, .int kk), (1, .int rr), (0, .ref g0)] [(g0, .inr (5, [.int zt, .ref g1, .ref g2, .int zw, .ref g3, .ref g4, .int zi, .int zb, .int zp, .int zs, .int zc, .int ze, .int zy, .int zu, .int za, .int zf, .long zo, .int zg, .int zm, .int zq, .int zx, .int zh, .long z0, .long z1, .long z2, .long z3])), (g1, .inl (kV, 320, .inl zv)), (g2, .inl (kL, 3, .inl zl)), (g3, .inl (kR, 16, .inl zr)), (g4, .inl (kQ, 16, .inl zd))] 51 [] (D := (dC, dI)) (A := A) (H0 := s.heap) (fun ls H locs hl hP hD hS => ?_) (fun J_5 => ?_)
    · refine lv_iinc (v := (kk + 1)) (lv' := [(3, .int (kk + 1)), (2, .int (vZ_tw_0 zr kk rr lm zd)), (1, .int rr), (0, .ref g0)]) hx hb d_Z_takeWishes_51 hl (k := 1) rfl (by rfl) (by decide) rfl (fun ls hl => ?_)
      refine lv_goto (tgt := 12) hx hb d_Z_takeWishes_54 (by decide) ?_
      exact KL c_1 _ _ _ (lv_sub hl [0, 1, 2, 3] rfl) hP hD hS
    · refine lv_icmp_ne (tgt := 51) hx hb d_Z_takeWishes_27 (by decide) (fun c_2 => ?_) (fun c_2 => ?_)
      · exact J_5 _ _ _ (by rw [show (vZ_tw_0 zr kk rr lm zd) = lm from (if_neg c_2)]; exact lv_sub hl [1, 0, 2, 3] rfl) hP hD hS
      · refine lv_iload_n hx hb d_Z_takeWishes_30 rfl (lv_at hl 1 rfl) ?_
        refine lv_if_lt (tgt := 44) hx hb d_Z_takeWishes_31 (by decide) (fun c_6 => ?_) (fun c_6 => ?_)
        · refine lv_aload_n hx hb d_Z_takeWishes_44 rfl (lv_at hl 3 rfl) ?_
          refine va_get (D := (dC, dI)) (ci := 5) (v := .ref g4) (C := R_Z) (T := F_Z) (N := 26) hx hb hts in_Z hown hK hP 0 rfl rfl 5 (by decide) (hts (.fieldLink R_Z 20 "TorqueRowsModel" "wished" "[I") mw_214) (fun _ h9 => h9) rfl d_Z_takeWishes_45 ?_
          refine lv_iload_n hx hb d_Z_takeWishes_48 rfl (lv_at hl 0 rfl) ?_
          refine va_iald hx hb hK hP 4 3 rfl rfl (h16 c_1) d_Z_takeWishes_49 ?_
          refine lv_istore_n (lv' := [(2, .int (zd kk.toNatClampNeg)), (3, .int kk), (1, .int rr), (0, .ref g0)]) hx hb d_Z_takeWishes_50 rfl hl (by decide) rfl (fun ls hl => ?_)
          exact J_5 _ _ _ (by rw [show (vZ_tw_0 zr kk rr lm zd) = (zd kk.toNatClampNeg) from ((if_pos c_2).trans (if_pos c_6))]; exact lv_sub hl [0, 1, 2, 3] rfl) hP hD hS
        · refine lv_aload_n hx hb d_Z_takeWishes_34 rfl (lv_at hl 3 rfl) ?_
          refine va_get (D := (dC, dI)) (ci := 5) (v := .ref g4) (C := R_Z) (T := F_Z) (N := 26) hx hb hts in_Z hown hK hP 0 rfl rfl 5 (by decide) (hts (.fieldLink R_Z 20 "TorqueRowsModel" "wished" "[I") mw_214) (fun _ h9 => h9) rfl d_Z_takeWishes_35 ?_
          refine lv_iload_n hx hb d_Z_takeWishes_38 rfl (lv_at hl 0 rfl) ?_
          refine va_iald hx hb hK hP 4 3 rfl rfl (h16 c_1) d_Z_takeWishes_39 ?_
          refine lv_iload_n hx hb d_Z_takeWishes_40 rfl (lv_at hl 1 rfl) ?_
          refine lv_icmp_ge (tgt := 51) hx hb d_Z_takeWishes_41 (by decide) (fun c_7 => ?_) (fun c_7 => ?_)
          · exact J_5 _ _ _ (by rw [show (vZ_tw_0 zr kk rr lm zd) = lm from ((if_pos c_2).trans ((if_neg c_6).trans (if_pos c_7)))]; exact lv_sub hl [1, 0, 2, 3] rfl) hP hD hS
          · refine lv_aload_n hx hb d_Z_takeWishes_44 rfl (lv_at hl 3 rfl) ?_
            refine va_get (D := (dC, dI)) (ci := 5) (v := .ref g4) (C := R_Z) (T := F_Z) (N := 26) hx hb hts in_Z hown hK hP 0 rfl rfl 5 (by decide) (hts (.fieldLink R_Z 20 "TorqueRowsModel" "wished" "[I") mw_214) (fun _ h9 => h9) rfl d_Z_takeWishes_45 ?_
            refine lv_iload_n hx hb d_Z_takeWishes_48 rfl (lv_at hl 0 rfl) ?_
            refine va_iald hx hb hK hP 4 3 rfl rfl (h16 c_1) d_Z_takeWishes_49 ?_
            refine lv_istore_n (lv' := [(2, .int (zd kk.toNatClampNeg)), (3, .int kk), (1, .int rr), (0, .ref g0)]) hx hb d_Z_takeWishes_50 rfl hl (by decide) rfl (fun ls hl => ?_)
            exact J_5 _ _ _ (by rw [show (vZ_tw_0 zr kk rr lm zd) = (zd kk.toNatClampNeg) from ((if_pos c_2).trans ((if_neg c_6).trans (if_neg c_7)))]; exact lv_sub hl [0, 1, 2, 3] rfl) hP hD hS
set_option maxHeartbeats 4000000 in
theorem tw_loop {p : Program} {l : Launch} {e : Env} {R : Room} {s : State} {m : MethodId} {args : Array Value} {below : List Frame} {meth : Method} {c : Code} {cells slots : Nat} {Q : State → Prop} {dC : Nat → ClassId} {dI : Nat → Nat → Nat} {A : Nat → Prop} {g0 g1 g2 g3 g4 : Nat} {kV kL kR kQ : ClassId} {zt : Int32} {zw : Int32} {zi : Int32} {zb : Int32} {zp : Int32} {zs : Int32} {zc : Int32} {ze : Int32} {zy : Int32} {zu : Int32} {za : Int32} {zf : Int32} {zo : Int64} {zg : Int32} {zm : Int32} {zq : Int32} {zx : Int32} {zh : Int32} {z0 : Int64} {z1 : Int64} {z2 : Int64} {z3 : Int64} {zv : Nat → Int32} {zl : Nat → Int32} {zr : Nat → Int32} {zd : Nat → Int32} (rr : Int32) (hx : p.tables.exec = Jvm.exec) (hb : c.code = b_Z_takeWishes) (hts : ∀ w ∈ wA_, w.before args s = true) (hown : s.vm.findClass R_Z = some m.cls) (hK : va_K (dC, dI) classes [(kV, .int), (kL, .boolean), (kR, .int), (kQ, .int)] s) (hw : vp_in zw 17) (K : ∀ (ls : Array Slot) (H : Heap) (locs : List Loc), lv_has ls 4 [(3, .int zw), (2, .int (lst zr zd rr zw.toNatClampNeg)), (1, .int rr), (0, .ref g0)] → va_P (dC, dI) classes [(g0, .inr (5, [.int zt, .ref g1, .ref g2, .int zw, .ref g3, .ref g4, .int zi, .int zb, .int zp, .int zs, .int zc, .int ze, .int zy, .int zu, .int za, .int zf, .long zo, .int zg, .int zm, .int zq, .int zx, .int zh, .long z0, .long z1, .long z2, .long z3])), (g1, .inl (kV, 320, .inl zv)), (g2, .inl (kL, 3, .inl zl)), (g3, .inl (kR, 16, .inl zr)), (g4, .inl (kQ, 16, .inl zd))] H → va_D A [(g0, .inr (5, [.int zt, .ref g1, .ref g2, .int zw, .ref g3, .ref g4, .int zi, .int zb, .int zp, .int zs, .int zc, .int ze, .int zy, .int zu, .int za, .int zf, .long zo, .int zg, .int zm, .int zq, .int zx, .int zh, .long z0, .long z1, .long z2, .long z3])), (g1, .inl (kV, 320, .inl zv)), (g2, .inl (kL, 3, .inl zl)), (g3, .inl (kR, 16, .inl zr)), (g4, .inl (kQ, 16, .inl zd))] → va_S A s.heap H locs → W p l e R s m args below meth c H locs cells slots Q (F0 m 57 ls [])) : ∀ (ls : Array Slot) (H : Heap) (locs : List Loc), lv_has ls 4 [(3, .int 0), (2, .int (-1)), (1, .int rr), (0, .ref g0)] → va_P (dC, dI) classes [(g0, .inr (5, [.int zt, .ref g1, .ref g2, .int zw, .ref g3, .ref g4, .int zi, .int zb, .int zp, .int zs, .int zc, .int ze, .int zy, .int zu, .int za, .int zf, .long zo, .int zg, .int zm, .int zq, .int zx, .int zh, .long z0, .long z1, .long z2, .long z3])), (g1, .inl (kV, 320, .inl zv)), (g2, .inl (kL, 3, .inl zl)), (g3, .inl (kR, 16, .inl zr)), (g4, .inl (kQ, 16, .inl zd))] H → va_D A [(g0, .inr (5, [.int zt, .ref g1, .ref g2, .int zw, .ref g3, .ref g4, .int zi, .int zb, .int zp, .int zs, .int zc, .int ze, .int zy, .int zu, .int za, .int zf, .long zo, .int zg, .int zm, .int zq, .int zx, .int zh, .long z0, .long z1, .long z2, .long z3])), (g1, .inl (kV, 320, .inl zv)), (g2, .inl (kL, 3, .inl zl)), (g3, .inl (kR, 16, .inl zr)), (g4, .inl (kQ, 16, .inl zd))] → va_S A s.heap H locs → W p l e R s m args below meth c H locs cells slots Q (F0 m 12 ls []) := by
  obtain ⟨N, hN, hzw⟩ := vp_in_of hw (by decide)
  have hcl : zw.toNatClampNeg = N := by rw [hzw]; exact nI_clamp (by omega)
  rw [hcl] at K
  have G : ∀ n k : Nat, k + n = N → ∀ (ls : Array Slot) (H : Heap) (locs : List Loc), lv_has ls 4 [(3, .int (nI k)), (2, .int (lst zr zd rr k)), (1, .int rr), (0, .ref g0)] → va_P (dC, dI) classes [(g0, .inr (5, [.int zt, .ref g1, .ref g2, .int zw, .ref g3, .ref g4, .int zi, .int zb, .int zp, .int zs, .int zc, .int ze, .int zy, .int zu, .int za, .int zf, .long zo, .int zg, .int zm, .int zq, .int zx, .int zh, .long z0, .long z1, .long z2, .long z3])), (g1, .inl (kV, 320, .inl zv)), (g2, .inl (kL, 3, .inl zl)), (g3, .inl (kR, 16, .inl zr)), (g4, .inl (kQ, 16, .inl zd))] H → va_D A [(g0, .inr (5, [.int zt, .ref g1, .ref g2, .int zw, .ref g3, .ref g4, .int zi, .int zb, .int zp, .int zs, .int zc, .int ze, .int zy, .int zu, .int za, .int zf, .long zo, .int zg, .int zm, .int zq, .int zx, .int zh, .long z0, .long z1, .long z2, .long z3])), (g1, .inl (kV, 320, .inl zv)), (g2, .inl (kL, 3, .inl zl)), (g3, .inl (kR, 16, .inl zr)), (g4, .inl (kQ, 16, .inl zd))] → va_S A s.heap H locs → W p l e R s m args below meth c H locs cells slots Q (F0 m 12 ls []) := by
    intro n
    induction n with
    | zero =>
      intro k hk
      have hk : k = N := hk
      rw [← hk] at K hzw
      have hle : zw ≤ nI k := by rw [hzw]; exact nI_le (Nat.le_refl k) (by omega)
      exact tw_body (nI k) (lst zr zd rr k) rr hx hb hts hown hK (fun h => absurd hle h) (fun _ ls H locs hl hP hD hS => K ls H locs (by rw [hzw]; exact hl) hP hD hS) (fun h => absurd hle h)
    | succ n ih =>
      intro k hk
      have hlt : ¬ zw ≤ nI k := by rw [hzw]; exact nI_ge (by omega) (by omega)
      refine tw_body (nI k) (lst zr zd rr k) rr hx hb hts hown hK (fun _ => vp_in_nI (by omega) (by decide)) (fun h => absurd h hlt) (fun _ ls H locs hl hP hD hS => ih (k + 1) (by omega) ls H locs ?_ hP hD hS)
      have e1 : nI (k + 1) = nI k + 1 := nI_succ k
      have e2 : lst zr zd rr (k + 1) = (vZ_tw_0 zr (nI k) rr (lst zr zd rr k) zd) := by
        unfold vZ_tw_0
        rw [nI_clamp (by omega)]
        rfl
      rw [e1, e2]
      exact hl
  exact G N 0 (Nat.zero_add N)
set_option maxHeartbeats 4000000 in
set_option maxRecDepth 100000 in
theorem c_Z_takeWishes (l : Launch) (dC : Nat → ClassId) (dI : Nat → Nat → Nat) (g0 g1 g2 g3 g4 : Nat) (kV kL kR kQ : ClassId) (sz : Nat) (zt : Int32) (zw : Int32) (zi : Int32) (zb : Int32) (zp : Int32) (zs : Int32) (zc : Int32) (ze : Int32) (zy : Int32) (zu : Int32) (za : Int32) (zf : Int32) (zo : Int64) (zg : Int32) (zm : Int32) (zq : Int32) (zx : Int32) (zh : Int32) (z0 : Int64) (z1 : Int64) (z2 : Int64) (z3 : Int64) (zv : Nat → Int32) (zl : Nat → Int32) (zr : Nat → Int32) (zd : Nat → Int32) (hw : vp_in zw 17) : Met l y_Z_takeWishes w_Z_takeWishes { frames := 0, cells := 0, slots := 0, locals := 0 } (va_Pc [.ref g0] (pr_ (dC, dI) [(g0, .inr (5, [.int zt, .ref g1, .ref g2, .int zw, .ref g3, .ref g4, .int zi, .int zb, .int zp, .int zs, .int zc, .int ze, .int zy, .int zu, .int za, .int zf, .long zo, .int zg, .int zm, .int zq, .int zx, .int zh, .long z0, .long z1, .long z2, .long z3])), (g1, .inl (kV, 320, .inl zv)), (g2, .inl (kL, 3, .inl zl)), (g3, .inl (kR, 16, .inl zr)), (g4, .inl (kQ, 16, .inl zd))] [(kV, .int), (kL, .boolean), (kR, .int), (kQ, .int)] sz)) (va_Qv (fun (_ : Unit) => True) (fun _ t => at_ (dC, dI) (va_A [(g0, .inr (5, [.int zt, .ref g1, .ref g2, .int zw, .ref g3, .ref g4, .int zi, .int zb, .int zp, .int zs, .int zc, .int ze, .int zy, .int zu, .int za, .int zf, .long zo, .int zg, .int zm, .int zq, .int zx, .int zh, .long z0, .long z1, .long z2, .long z3])), (g1, .inl (kV, 320, .inl zv)), (g2, .inl (kL, 3, .inl zl)), (g3, .inl (kR, 16, .inl zr)), (g4, .inl (kQ, 16, .inl zd))] sz) [(g0, .inr (5, [.int zt, .ref g1, .ref g2, .int zw, .ref g3, .ref g4, .int zi, .int zb, .int zp, .int zs, .int zc, .int ze, .int zy, .int (vZ_takeWishes_4 zr zd zw zu), .int za, .int zf, .long zo, .int zg, .int zm, .int zq, .int zx, .int zh, .long z0, .long z1, .long z2, .long z3])), (g1, .inl (kV, 320, .inl zv)), (g2, .inl (kL, 3, .inl zl)), (g3, .inl (kR, 16, .inl zr)), (g4, .inl (kQ, 16, .inl zd))] [(kV, .int), (kL, .boolean), (kR, .int), (kQ, .int)] t) (va_A [(g0, .inr (5, [.int zt, .ref g1, .ref g2, .int zw, .ref g3, .ref g4, .int zi, .int zb, .int zp, .int zs, .int zc, .int ze, .int zy, .int zu, .int za, .int zf, .long zo, .int zg, .int zm, .int zq, .int zx, .int zh, .long z0, .long z1, .long z2, .long z3])), (g1, .inl (kV, 320, .inl zv)), (g2, .inl (kL, 3, .inl zl)), (g3, .inl (kR, 16, .inl zr)), (g4, .inl (kQ, 16, .inl zd))] sz)) 0 0 (va_A [(g0, .inr (5, [.int zt, .ref g1, .ref g2, .int zw, .ref g3, .ref g4, .int zi, .int zb, .int zp, .int zs, .int zc, .int ze, .int zy, .int zu, .int za, .int zf, .long zo, .int zg, .int zm, .int zq, .int zx, .int zh, .long z0, .long z1, .long z2, .long z3])), (g1, .inl (kV, 320, .inl zv)), (g2, .inl (kL, 3, .inl zl)), (g3, .inl (kR, 16, .inl zr)), (g4, .inl (kQ, 16, .inl zd))] sz) := by
  refine Met.ofW (cc := b_Z_takeWishes) (maxL := 4) (ret := none) (by decide) rfl ?_
  intro p e s m args below meth c s₁ B hml hv
  obtain ⟨rfl, hsz, hP, hK, hD0, hN⟩ := hv
  have hx := B.exec
  have hb := B.bytes
  have hr := B.returns
  have hts0 := atoms_spec (ws := w_Z_takeWishes) B.pre
  have hts : ∀ w ∈ wA_, w.before _ s = true := fun w h => hts0 w (List.mem_cons_of_mem _ h)
  have hown : s.vm.findClass R_Z = some m.cls := findClass_of_methodNamed B.named
  have hlocks := B.notSynchronized
  subst hsz
  have hD := hD0.self (sz := s.heap.size)
  generalize hAe : va_A [(g0, .inr (5, [.int zt, .ref g1, .ref g2, .int zw, .ref g3, .ref g4, .int zi, .int zb, .int zp, .int zs, .int zc, .int ze, .int zy, .int zu, .int za, .int zf, .long zo, .int zg, .int zm, .int zq, .int zx, .int zh, .long z0, .long z1, .long z2, .long z3])), (g1, .inl (kV, 320, .inl zv)), (g2, .inl (kL, 3, .inl zl)), (g3, .inl (kR, 16, .inl zr)), (g4, .inl (kQ, 16, .inl zd))] s.heap.size = A at hD ⊢
  have hA : ∀ q : Nat, s.heap.size ≤ q → A q := fun q h => by rw [← hAe]; exact Or.inr h
  have hS : va_S A s.heap s.heap [] := va_S.rf
  have hP : va_P (dC, dI) classes [(g0, .inr (5, [.int zt, .ref g1, .ref g2, .int zw, .ref g3, .ref g4, .int zi, .int zb, .int zp, .int zs, .int zc, .int ze, .int zy, .int zu, .int za, .int zf, .long zo, .int zg, .int zm, .int zq, .int zx, .int zh, .long z0, .long z1, .long z2, .long z3])), (g1, .inl (kV, 320, .inl zv)), (g2, .inl (kL, 3, .inl zl)), (g3, .inl (kR, 16, .inl zr)), (g4, .inl (kQ, 16, .inl zd))] s.heap := hP
  have hl := lv_entry ([.ref g0]) (n := 4) (Nat.le_of_ble_eq_true rfl)
  rw [lg_entry_eq]
  generalize (lg_sl ([.ref g0]) ++ List.replicate (4 - (lg_sl ([.ref g0])).length) Slot.unset).toArray = ls at hl ⊢
  have hl : lv_has ls 4 [(0, .ref g0)] := hl
  have hS : va_S A s.heap s.heap [] := hS
  refine st_ hP hS (fun H locs hP hS => ?_)
  refine lv_iconst (v := 1) hx hb d_Z_takeWishes_0 (by decide) ?_
  refine lv_istore_n (lv' := [(1, .int 1), (0, .ref g0)]) hx hb d_Z_takeWishes_1 rfl hl (by decide) rfl (fun ls hl => ?_)
  refine lv_iload_n hx hb d_Z_takeWishes_2 rfl (lv_at hl 0 rfl) ?_
  refine lv_bipush (v := 6) hx hb d_Z_takeWishes_3 (by decide) ?_
  refine lv_icmp_ge (tgt := 101) hx hb d_Z_takeWishes_5 (by decide) (fun c_1 => ?_) (fun c_1 => ?_)
  · exact absurd c_1 (by decide)
  · refine lv_iconst (v := (-1)) hx hb d_Z_takeWishes_8 (by decide) ?_
    refine lv_istore_n (lv' := [(2, .int (-1)), (1, .int 1), (0, .ref g0)]) hx hb d_Z_takeWishes_9 rfl hl (by decide) rfl (fun ls hl => ?_)
    refine lv_iconst (v := 0) hx hb d_Z_takeWishes_10 (by decide) ?_
    refine lv_istore_n (lv' := [(3, .int 0), (2, .int (-1)), (1, .int 1), (0, .ref g0)]) hx hb d_Z_takeWishes_11 rfl hl (by decide) rfl (fun ls hl => ?_)
    refine tw_loop 1 hx hb hts hown hK hw (fun ls H locs hl hP hD hS => ?_) ls H locs (lv_sub hl [0, 1, 2, 3] rfl) hP hD hS
    refine lv_iload_n hx hb d_Z_takeWishes_57 rfl (lv_at hl 1 rfl) ?_
    refine jn 4 [(3, .int zw), (2, .int (lst zr zd 1 zw.toNatClampNeg)), (1, .int 1), (0, .ref g0)] [(g0, .inr (5, [.int zt, .ref g1, .ref g2, .int zw, .ref g3, .ref g4, .int zi, .int zb, .int zp, .int zs, .int zc, .int ze, .int zy, .int (vZ_takeWishes_0 zr zd zw zu), .int za, .int zf, .long zo, .int zg, .int zm, .int zq, .int zx, .int zh, .long z0, .long z1, .long z2, .long z3])), (g1, .inl (kV, 320, .inl zv)), (g2, .inl (kL, 3, .inl zl)), (g3, .inl (kR, 16, .inl zr)), (g4, .inl (kQ, 16, .inl zd))] 95 [] (D := (dC, dI)) (A := A) (H0 := s.heap) (fun ls H locs hl hP hD hS => ?_) (fun J_5 => ?_)
    · refine lv_iinc (v := 2) (lv' := [(1, .int 2), (3, .int zw), (2, .int (lst zr zd 1 zw.toNatClampNeg)), (0, .ref g0)]) hx hb d_Z_takeWishes_95 hl (k := 2) rfl (by decide) (by decide) rfl (fun ls hl => ?_)
      refine lv_goto (tgt := 2) hx hb d_Z_takeWishes_98 (by decide) ?_
      refine lv_iload_n hx hb d_Z_takeWishes_2 rfl (lv_at hl 0 rfl) ?_
      refine lv_bipush (v := 6) hx hb d_Z_takeWishes_3 (by decide) ?_
      refine lv_icmp_ge (tgt := 101) hx hb d_Z_takeWishes_5 (by decide) (fun c_6 => ?_) (fun c_6 => ?_)
      · exact absurd c_6 (by decide)
      · refine lv_iconst (v := (-1)) hx hb d_Z_takeWishes_8 (by decide) ?_
        refine lv_istore_n (lv' := [(2, .int (-1)), (1, .int 2), (3, .int zw), (0, .ref g0)]) hx hb d_Z_takeWishes_9 rfl hl (by decide) rfl (fun ls hl => ?_)
        refine lv_iconst (v := 0) hx hb d_Z_takeWishes_10 (by decide) ?_
        refine lv_istore_n (lv' := [(3, .int 0), (2, .int (-1)), (1, .int 2), (0, .ref g0)]) hx hb d_Z_takeWishes_11 rfl hl (by decide) rfl (fun ls hl => ?_)
        refine tw_loop 2 hx hb hts hown hK hw (fun ls H locs hl hP hD hS => ?_) ls H locs (lv_sub hl [0, 1, 2, 3] rfl) hP hD hS
        refine lv_iload_n hx hb d_Z_takeWishes_57 rfl (lv_at hl 1 rfl) ?_
        refine jn 4 [(3, .int zw), (2, .int (lst zr zd 2 zw.toNatClampNeg)), (1, .int 2), (0, .ref g0)] [(g0, .inr (5, [.int zt, .ref g1, .ref g2, .int zw, .ref g3, .ref g4, .int zi, .int zb, .int zp, .int zs, .int zc, .int ze, .int zy, .int (vZ_takeWishes_1 zr zd zw zu), .int za, .int zf, .long zo, .int zg, .int zm, .int zq, .int zx, .int zh, .long z0, .long z1, .long z2, .long z3])), (g1, .inl (kV, 320, .inl zv)), (g2, .inl (kL, 3, .inl zl)), (g3, .inl (kR, 16, .inl zr)), (g4, .inl (kQ, 16, .inl zd))] 95 [] (D := (dC, dI)) (A := A) (H0 := s.heap) (fun ls H locs hl hP hD hS => ?_) (fun J_10 => ?_)
        · refine lv_iinc (v := 3) (lv' := [(1, .int 3), (3, .int zw), (2, .int (lst zr zd 2 zw.toNatClampNeg)), (0, .ref g0)]) hx hb d_Z_takeWishes_95 hl (k := 2) rfl (by decide) (by decide) rfl (fun ls hl => ?_)
          refine lv_goto (tgt := 2) hx hb d_Z_takeWishes_98 (by decide) ?_
          refine lv_iload_n hx hb d_Z_takeWishes_2 rfl (lv_at hl 0 rfl) ?_
          refine lv_bipush (v := 6) hx hb d_Z_takeWishes_3 (by decide) ?_
          refine lv_icmp_ge (tgt := 101) hx hb d_Z_takeWishes_5 (by decide) (fun c_11 => ?_) (fun c_11 => ?_)
          · exact absurd c_11 (by decide)
          · refine lv_iconst (v := (-1)) hx hb d_Z_takeWishes_8 (by decide) ?_
            refine lv_istore_n (lv' := [(2, .int (-1)), (1, .int 3), (3, .int zw), (0, .ref g0)]) hx hb d_Z_takeWishes_9 rfl hl (by decide) rfl (fun ls hl => ?_)
            refine lv_iconst (v := 0) hx hb d_Z_takeWishes_10 (by decide) ?_
            refine lv_istore_n (lv' := [(3, .int 0), (2, .int (-1)), (1, .int 3), (0, .ref g0)]) hx hb d_Z_takeWishes_11 rfl hl (by decide) rfl (fun ls hl => ?_)
            refine tw_loop 3 hx hb hts hown hK hw (fun ls H locs hl hP hD hS => ?_) ls H locs (lv_sub hl [0, 1, 2, 3] rfl) hP hD hS
            refine lv_iload_n hx hb d_Z_takeWishes_57 rfl (lv_at hl 1 rfl) ?_
            refine jn 4 [(3, .int zw), (2, .int (lst zr zd 3 zw.toNatClampNeg)), (1, .int 3), (0, .ref g0)] [(g0, .inr (5, [.int zt, .ref g1, .ref g2, .int zw, .ref g3, .ref g4, .int zi, .int zb, .int zp, .int zs, .int zc, .int ze, .int zy, .int (vZ_takeWishes_2 zr zd zw zu), .int za, .int zf, .long zo, .int zg, .int zm, .int zq, .int zx, .int zh, .long z0, .long z1, .long z2, .long z3])), (g1, .inl (kV, 320, .inl zv)), (g2, .inl (kL, 3, .inl zl)), (g3, .inl (kR, 16, .inl zr)), (g4, .inl (kQ, 16, .inl zd))] 95 [] (D := (dC, dI)) (A := A) (H0 := s.heap) (fun ls H locs hl hP hD hS => ?_) (fun J_15 => ?_)
            · refine lv_iinc (v := 4) (lv' := [(1, .int 4), (3, .int zw), (2, .int (lst zr zd 3 zw.toNatClampNeg)), (0, .ref g0)]) hx hb d_Z_takeWishes_95 hl (k := 2) rfl (by decide) (by decide) rfl (fun ls hl => ?_)
              refine lv_goto (tgt := 2) hx hb d_Z_takeWishes_98 (by decide) ?_
              refine lv_iload_n hx hb d_Z_takeWishes_2 rfl (lv_at hl 0 rfl) ?_
              refine lv_bipush (v := 6) hx hb d_Z_takeWishes_3 (by decide) ?_
              refine lv_icmp_ge (tgt := 101) hx hb d_Z_takeWishes_5 (by decide) (fun c_16 => ?_) (fun c_16 => ?_)
              · exact absurd c_16 (by decide)
              · refine lv_iconst (v := (-1)) hx hb d_Z_takeWishes_8 (by decide) ?_
                refine lv_istore_n (lv' := [(2, .int (-1)), (1, .int 4), (3, .int zw), (0, .ref g0)]) hx hb d_Z_takeWishes_9 rfl hl (by decide) rfl (fun ls hl => ?_)
                refine lv_iconst (v := 0) hx hb d_Z_takeWishes_10 (by decide) ?_
                refine lv_istore_n (lv' := [(3, .int 0), (2, .int (-1)), (1, .int 4), (0, .ref g0)]) hx hb d_Z_takeWishes_11 rfl hl (by decide) rfl (fun ls hl => ?_)
                refine tw_loop 4 hx hb hts hown hK hw (fun ls H locs hl hP hD hS => ?_) ls H locs (lv_sub hl [0, 1, 2, 3] rfl) hP hD hS
                refine lv_iload_n hx hb d_Z_takeWishes_57 rfl (lv_at hl 1 rfl) ?_
                refine jn 4 [(3, .int zw), (2, .int (lst zr zd 4 zw.toNatClampNeg)), (1, .int 4), (0, .ref g0)] [(g0, .inr (5, [.int zt, .ref g1, .ref g2, .int zw, .ref g3, .ref g4, .int zi, .int zb, .int zp, .int zs, .int zc, .int ze, .int zy, .int (vZ_takeWishes_3 zr zd zw zu), .int za, .int zf, .long zo, .int zg, .int zm, .int zq, .int zx, .int zh, .long z0, .long z1, .long z2, .long z3])), (g1, .inl (kV, 320, .inl zv)), (g2, .inl (kL, 3, .inl zl)), (g3, .inl (kR, 16, .inl zr)), (g4, .inl (kQ, 16, .inl zd))] 95 [] (D := (dC, dI)) (A := A) (H0 := s.heap) (fun ls H locs hl hP hD hS => ?_) (fun J_20 => ?_)
                · refine lv_iinc (v := 5) (lv' := [(1, .int 5), (3, .int zw), (2, .int (lst zr zd 4 zw.toNatClampNeg)), (0, .ref g0)]) hx hb d_Z_takeWishes_95 hl (k := 2) rfl (by decide) (by decide) rfl (fun ls hl => ?_)
                  refine lv_goto (tgt := 2) hx hb d_Z_takeWishes_98 (by decide) ?_
                  refine lv_iload_n hx hb d_Z_takeWishes_2 rfl (lv_at hl 0 rfl) ?_
                  refine lv_bipush (v := 6) hx hb d_Z_takeWishes_3 (by decide) ?_
                  refine lv_icmp_ge (tgt := 101) hx hb d_Z_takeWishes_5 (by decide) (fun c_21 => ?_) (fun c_21 => ?_)
                  · exact absurd c_21 (by decide)
                  · refine lv_iconst (v := (-1)) hx hb d_Z_takeWishes_8 (by decide) ?_
                    refine lv_istore_n (lv' := [(2, .int (-1)), (1, .int 5), (3, .int zw), (0, .ref g0)]) hx hb d_Z_takeWishes_9 rfl hl (by decide) rfl (fun ls hl => ?_)
                    refine lv_iconst (v := 0) hx hb d_Z_takeWishes_10 (by decide) ?_
                    refine lv_istore_n (lv' := [(3, .int 0), (2, .int (-1)), (1, .int 5), (0, .ref g0)]) hx hb d_Z_takeWishes_11 rfl hl (by decide) rfl (fun ls hl => ?_)
                    refine tw_loop 5 hx hb hts hown hK hw (fun ls H locs hl hP hD hS => ?_) ls H locs (lv_sub hl [0, 1, 2, 3] rfl) hP hD hS
                    refine lv_iload_n hx hb d_Z_takeWishes_57 rfl (lv_at hl 1 rfl) ?_
                    refine jn 4 [(3, .int zw), (2, .int (lst zr zd 5 zw.toNatClampNeg)), (1, .int 5), (0, .ref g0)] [(g0, .inr (5, [.int zt, .ref g1, .ref g2, .int zw, .ref g3, .ref g4, .int zi, .int zb, .int zp, .int zs, .int zc, .int ze, .int zy, .int (vZ_takeWishes_4 zr zd zw zu), .int za, .int zf, .long zo, .int zg, .int zm, .int zq, .int zx, .int zh, .long z0, .long z1, .long z2, .long z3])), (g1, .inl (kV, 320, .inl zv)), (g2, .inl (kL, 3, .inl zl)), (g3, .inl (kR, 16, .inl zr)), (g4, .inl (kQ, 16, .inl zd))] 95 [] (D := (dC, dI)) (A := A) (H0 := s.heap) (fun ls H locs hl hP hD hS => ?_) (fun J_25 => ?_)
                    · refine lv_iinc (v := 6) (lv' := [(1, .int 6), (3, .int zw), (2, .int (lst zr zd 5 zw.toNatClampNeg)), (0, .ref g0)]) hx hb d_Z_takeWishes_95 hl (k := 2) rfl (by decide) (by decide) rfl (fun ls hl => ?_)
                      refine lv_goto (tgt := 2) hx hb d_Z_takeWishes_98 (by decide) ?_
                      refine lv_iload_n hx hb d_Z_takeWishes_2 rfl (lv_at hl 0 rfl) ?_
                      refine lv_bipush (v := 6) hx hb d_Z_takeWishes_3 (by decide) ?_
                      refine lv_icmp_ge (tgt := 101) hx hb d_Z_takeWishes_5 (by decide) (fun c_26 => ?_) (fun c_26 => ?_)
                      · have h9 : va_P (dC, dI) classes [(g0, .inr (5, [.int zt, .ref g1, .ref g2, .int zw, .ref g3, .ref g4, .int zi, .int zb, .int zp, .int zs, .int zc, .int ze, .int zy, .int (vZ_takeWishes_4 zr zd zw zu), .int za, .int zf, .long zo, .int zg, .int zm, .int zq, .int zx, .int zh, .long z0, .long z1, .long z2, .long z3])), (g1, .inl (kV, 320, .inl zv)), (g2, .inl (kL, 3, .inl zl)), (g3, .inl (kR, 16, .inl zr)), (g4, .inl (kQ, 16, .inl zd))] H ∧ va_D A [(g0, .inr (5, [.int zt, .ref g1, .ref g2, .int zw, .ref g3, .ref g4, .int zi, .int zb, .int zp, .int zs, .int zc, .int ze, .int zy, .int (vZ_takeWishes_4 zr zd zw zu), .int za, .int zf, .long zo, .int zg, .int zm, .int zq, .int zx, .int zh, .long z0, .long z1, .long z2, .long z3])), (g1, .inl (kV, 320, .inl zv)), (g2, .inl (kL, 3, .inl zl)), (g3, .inl (kR, 16, .inl zr)), (g4, .inl (kQ, 16, .inl zd))] := ⟨hP, hD⟩
                        exact W.vret hx hb hr (fun t ht hW => ⟨⟨(), rfl, trivial, by rw [ht]; exact h9.1, va_K.moved hW.alike hK, h9.2⟩, hS.F ht⟩) hS.2.2 d_Z_takeWishes_101
                      · exact absurd (by decide) c_26
                    · refine lv_if_ge (tgt := 64) hx hb d_Z_takeWishes_58 (by decide) (fun c_22 => ?_) (fun c_22 => ?_)
                      · refine lv_iload_n hx hb d_Z_takeWishes_64 rfl (lv_at hl 2 rfl) ?_
                        refine lv_iconst (v := 2) hx hb d_Z_takeWishes_65 (by decide) ?_
                        refine lv_irem hx hb d_Z_takeWishes_66 (by decide) ?_
                        refine tpi (y := 1) (by decide) ?_
                        refine lv_iconst (v := 1) hx hb d_Z_takeWishes_67 (by decide) ?_
                        refine lv_icmp_ne (tgt := 82) hx hb d_Z_takeWishes_68 (by decide) (fun c_27 => ?_) (fun c_27 => ?_)
                        · exact absurd (by decide) c_27
                        · refine lv_aload_n hx hb d_Z_takeWishes_71 rfl (lv_at hl 3 rfl) ?_
                          refine va_get (D := (dC, dI)) (ci := 5) (v := .int (vZ_takeWishes_3 zr zd zw zu)) (C := R_Z) (T := F_Z) (N := 26) hx hb hts in_Z hown hK hP 0 rfl rfl 13 (by decide) (hts (.fieldLink R_Z 53 "TorqueRowsModel" "wanted" "I") mw_172) (fun _ h9 => h9) rfl d_Z_takeWishes_72 ?_
                          refine lv_iload_n hx hb d_Z_takeWishes_75 rfl (lv_at hl 1 rfl) ?_
                          refine lv_icmp_ge (tgt := 95) hx hb d_Z_takeWishes_76 (by decide) (fun c_28 => ?_) (fun c_28 => ?_)
                          · exact J_25 _ _ _ (lv_sub hl [0, 1, 2, 3] rfl) (by rw [show (vZ_takeWishes_4 zr zd zw zu) = (vZ_takeWishes_3 zr zd zw zu) from ((if_pos c_22).trans (if_pos c_28))]; exact hP) (by rw [show (vZ_takeWishes_4 zr zd zw zu) = (vZ_takeWishes_3 zr zd zw zu) from ((if_pos c_22).trans (if_pos c_28))]; exact hD) hS
                          · refine lv_goto (tgt := 90) hx hb d_Z_takeWishes_79 (by decide) ?_
                            refine lv_aload_n hx hb d_Z_takeWishes_90 rfl (lv_at hl 3 rfl) ?_
                            refine lv_iload_n hx hb d_Z_takeWishes_91 rfl (lv_at hl 1 rfl) ?_
                            refine va_put (D := (dC, dI)) (ci := 5) (v := .int (lst zr zd 5 zw.toNatClampNeg)) (ty := .int) (C := R_Z) (T := F_Z) (N := 26) hx hb hts in_Z t_Z t_Z_ok n_Z hown hK hP hD hS 0 rfl rfl 13 (by decide) (hts (.fieldLink R_Z 53 "TorqueRowsModel" "wanted" "I") mw_172) (fun _ h9 => h9) rfl (by decide +kernel) rfl rfl (Nat.le_of_ble_eq_true rfl) d_Z_takeWishes_92 (fun H locs hP hD hS => ?_)
                            have hP : va_P (dC, dI) classes [(g0, .inr (5, [.int zt, .ref g1, .ref g2, .int zw, .ref g3, .ref g4, .int zi, .int zb, .int zp, .int zs, .int zc, .int ze, .int zy, .int (lst zr zd 5 zw.toNatClampNeg), .int za, .int zf, .long zo, .int zg, .int zm, .int zq, .int zx, .int zh, .long z0, .long z1, .long z2, .long z3])), (g1, .inl (kV, 320, .inl zv)), (g2, .inl (kL, 3, .inl zl)), (g3, .inl (kR, 16, .inl zr)), (g4, .inl (kQ, 16, .inl zd))] H := hP
                            have hD : va_D A [(g0, .inr (5, [.int zt, .ref g1, .ref g2, .int zw, .ref g3, .ref g4, .int zi, .int zb, .int zp, .int zs, .int zc, .int ze, .int zy, .int (lst zr zd 5 zw.toNatClampNeg), .int za, .int zf, .long zo, .int zg, .int zm, .int zq, .int zx, .int zh, .long z0, .long z1, .long z2, .long z3])), (g1, .inl (kV, 320, .inl zv)), (g2, .inl (kL, 3, .inl zl)), (g3, .inl (kR, 16, .inl zr)), (g4, .inl (kQ, 16, .inl zd))] := hD
                            exact J_25 _ _ _ (lv_sub hl [0, 1, 2, 3] rfl) (by rw [show (vZ_takeWishes_4 zr zd zw zu) = (lst zr zd 5 zw.toNatClampNeg) from ((if_pos c_22).trans (if_neg c_28))]; exact hP) (by rw [show (vZ_takeWishes_4 zr zd zw zu) = (lst zr zd 5 zw.toNatClampNeg) from ((if_pos c_22).trans (if_neg c_28))]; exact hD) hS
                      · refine lv_goto (tgt := 95) hx hb d_Z_takeWishes_61 (by decide) ?_
                        exact J_25 _ _ _ (lv_sub hl [0, 1, 2, 3] rfl) (by rw [show (vZ_takeWishes_4 zr zd zw zu) = (vZ_takeWishes_3 zr zd zw zu) from (if_neg c_22)]; exact hP) (by rw [show (vZ_takeWishes_4 zr zd zw zu) = (vZ_takeWishes_3 zr zd zw zu) from (if_neg c_22)]; exact hD) hS
                · refine lv_if_ge (tgt := 64) hx hb d_Z_takeWishes_58 (by decide) (fun c_17 => ?_) (fun c_17 => ?_)
                  · refine lv_iload_n hx hb d_Z_takeWishes_64 rfl (lv_at hl 2 rfl) ?_
                    refine lv_iconst (v := 2) hx hb d_Z_takeWishes_65 (by decide) ?_
                    refine lv_irem hx hb d_Z_takeWishes_66 (by decide) ?_
                    refine tpi (y := 0) (by decide) ?_
                    refine lv_iconst (v := 1) hx hb d_Z_takeWishes_67 (by decide) ?_
                    refine lv_icmp_ne (tgt := 82) hx hb d_Z_takeWishes_68 (by decide) (fun c_29 => ?_) (fun c_29 => ?_)
                    · refine lv_aload_n hx hb d_Z_takeWishes_82 rfl (lv_at hl 3 rfl) ?_
                      refine va_get (D := (dC, dI)) (ci := 5) (v := .int (vZ_takeWishes_2 zr zd zw zu)) (C := R_Z) (T := F_Z) (N := 26) hx hb hts in_Z hown hK hP 0 rfl rfl 13 (by decide) (hts (.fieldLink R_Z 53 "TorqueRowsModel" "wanted" "I") mw_172) (fun _ h9 => h9) rfl d_Z_takeWishes_83 ?_
                      refine lv_iload_n hx hb d_Z_takeWishes_86 rfl (lv_at hl 1 rfl) ?_
                      refine lv_icmp_le (tgt := 95) hx hb d_Z_takeWishes_87 (by decide) (fun c_30 => ?_) (fun c_30 => ?_)
                      · exact J_20 _ _ _ (lv_sub hl [0, 1, 2, 3] rfl) (by rw [show (vZ_takeWishes_3 zr zd zw zu) = (vZ_takeWishes_2 zr zd zw zu) from ((if_pos c_17).trans (if_pos c_30))]; exact hP) (by rw [show (vZ_takeWishes_3 zr zd zw zu) = (vZ_takeWishes_2 zr zd zw zu) from ((if_pos c_17).trans (if_pos c_30))]; exact hD) hS
                      · refine lv_aload_n hx hb d_Z_takeWishes_90 rfl (lv_at hl 3 rfl) ?_
                        refine lv_iload_n hx hb d_Z_takeWishes_91 rfl (lv_at hl 1 rfl) ?_
                        refine va_put (D := (dC, dI)) (ci := 5) (v := .int (lst zr zd 4 zw.toNatClampNeg)) (ty := .int) (C := R_Z) (T := F_Z) (N := 26) hx hb hts in_Z t_Z t_Z_ok n_Z hown hK hP hD hS 0 rfl rfl 13 (by decide) (hts (.fieldLink R_Z 53 "TorqueRowsModel" "wanted" "I") mw_172) (fun _ h9 => h9) rfl (by decide +kernel) rfl rfl (Nat.le_of_ble_eq_true rfl) d_Z_takeWishes_92 (fun H locs hP hD hS => ?_)
                        have hP : va_P (dC, dI) classes [(g0, .inr (5, [.int zt, .ref g1, .ref g2, .int zw, .ref g3, .ref g4, .int zi, .int zb, .int zp, .int zs, .int zc, .int ze, .int zy, .int (lst zr zd 4 zw.toNatClampNeg), .int za, .int zf, .long zo, .int zg, .int zm, .int zq, .int zx, .int zh, .long z0, .long z1, .long z2, .long z3])), (g1, .inl (kV, 320, .inl zv)), (g2, .inl (kL, 3, .inl zl)), (g3, .inl (kR, 16, .inl zr)), (g4, .inl (kQ, 16, .inl zd))] H := hP
                        have hD : va_D A [(g0, .inr (5, [.int zt, .ref g1, .ref g2, .int zw, .ref g3, .ref g4, .int zi, .int zb, .int zp, .int zs, .int zc, .int ze, .int zy, .int (lst zr zd 4 zw.toNatClampNeg), .int za, .int zf, .long zo, .int zg, .int zm, .int zq, .int zx, .int zh, .long z0, .long z1, .long z2, .long z3])), (g1, .inl (kV, 320, .inl zv)), (g2, .inl (kL, 3, .inl zl)), (g3, .inl (kR, 16, .inl zr)), (g4, .inl (kQ, 16, .inl zd))] := hD
                        exact J_20 _ _ _ (lv_sub hl [0, 1, 2, 3] rfl) (by rw [show (vZ_takeWishes_3 zr zd zw zu) = (lst zr zd 4 zw.toNatClampNeg) from ((if_pos c_17).trans (if_neg c_30))]; exact hP) (by rw [show (vZ_takeWishes_3 zr zd zw zu) = (lst zr zd 4 zw.toNatClampNeg) from ((if_pos c_17).trans (if_neg c_30))]; exact hD) hS
                    · exact absurd c_29 (by decide)
                  · refine lv_goto (tgt := 95) hx hb d_Z_takeWishes_61 (by decide) ?_
                    exact J_20 _ _ _ (lv_sub hl [0, 1, 2, 3] rfl) (by rw [show (vZ_takeWishes_3 zr zd zw zu) = (vZ_takeWishes_2 zr zd zw zu) from (if_neg c_17)]; exact hP) (by rw [show (vZ_takeWishes_3 zr zd zw zu) = (vZ_takeWishes_2 zr zd zw zu) from (if_neg c_17)]; exact hD) hS
            · refine lv_if_ge (tgt := 64) hx hb d_Z_takeWishes_58 (by decide) (fun c_12 => ?_) (fun c_12 => ?_)
              · refine lv_iload_n hx hb d_Z_takeWishes_64 rfl (lv_at hl 2 rfl) ?_
                refine lv_iconst (v := 2) hx hb d_Z_takeWishes_65 (by decide) ?_
                refine lv_irem hx hb d_Z_takeWishes_66 (by decide) ?_
                refine tpi (y := 1) (by decide) ?_
                refine lv_iconst (v := 1) hx hb d_Z_takeWishes_67 (by decide) ?_
                refine lv_icmp_ne (tgt := 82) hx hb d_Z_takeWishes_68 (by decide) (fun c_31 => ?_) (fun c_31 => ?_)
                · exact absurd (by decide) c_31
                · refine lv_aload_n hx hb d_Z_takeWishes_71 rfl (lv_at hl 3 rfl) ?_
                  refine va_get (D := (dC, dI)) (ci := 5) (v := .int (vZ_takeWishes_1 zr zd zw zu)) (C := R_Z) (T := F_Z) (N := 26) hx hb hts in_Z hown hK hP 0 rfl rfl 13 (by decide) (hts (.fieldLink R_Z 53 "TorqueRowsModel" "wanted" "I") mw_172) (fun _ h9 => h9) rfl d_Z_takeWishes_72 ?_
                  refine lv_iload_n hx hb d_Z_takeWishes_75 rfl (lv_at hl 1 rfl) ?_
                  refine lv_icmp_ge (tgt := 95) hx hb d_Z_takeWishes_76 (by decide) (fun c_32 => ?_) (fun c_32 => ?_)
                  · exact J_15 _ _ _ (lv_sub hl [0, 1, 2, 3] rfl) (by rw [show (vZ_takeWishes_2 zr zd zw zu) = (vZ_takeWishes_1 zr zd zw zu) from ((if_pos c_12).trans (if_pos c_32))]; exact hP) (by rw [show (vZ_takeWishes_2 zr zd zw zu) = (vZ_takeWishes_1 zr zd zw zu) from ((if_pos c_12).trans (if_pos c_32))]; exact hD) hS
                  · refine lv_goto (tgt := 90) hx hb d_Z_takeWishes_79 (by decide) ?_
                    refine lv_aload_n hx hb d_Z_takeWishes_90 rfl (lv_at hl 3 rfl) ?_
                    refine lv_iload_n hx hb d_Z_takeWishes_91 rfl (lv_at hl 1 rfl) ?_
                    refine va_put (D := (dC, dI)) (ci := 5) (v := .int (lst zr zd 3 zw.toNatClampNeg)) (ty := .int) (C := R_Z) (T := F_Z) (N := 26) hx hb hts in_Z t_Z t_Z_ok n_Z hown hK hP hD hS 0 rfl rfl 13 (by decide) (hts (.fieldLink R_Z 53 "TorqueRowsModel" "wanted" "I") mw_172) (fun _ h9 => h9) rfl (by decide +kernel) rfl rfl (Nat.le_of_ble_eq_true rfl) d_Z_takeWishes_92 (fun H locs hP hD hS => ?_)
                    have hP : va_P (dC, dI) classes [(g0, .inr (5, [.int zt, .ref g1, .ref g2, .int zw, .ref g3, .ref g4, .int zi, .int zb, .int zp, .int zs, .int zc, .int ze, .int zy, .int (lst zr zd 3 zw.toNatClampNeg), .int za, .int zf, .long zo, .int zg, .int zm, .int zq, .int zx, .int zh, .long z0, .long z1, .long z2, .long z3])), (g1, .inl (kV, 320, .inl zv)), (g2, .inl (kL, 3, .inl zl)), (g3, .inl (kR, 16, .inl zr)), (g4, .inl (kQ, 16, .inl zd))] H := hP
                    have hD : va_D A [(g0, .inr (5, [.int zt, .ref g1, .ref g2, .int zw, .ref g3, .ref g4, .int zi, .int zb, .int zp, .int zs, .int zc, .int ze, .int zy, .int (lst zr zd 3 zw.toNatClampNeg), .int za, .int zf, .long zo, .int zg, .int zm, .int zq, .int zx, .int zh, .long z0, .long z1, .long z2, .long z3])), (g1, .inl (kV, 320, .inl zv)), (g2, .inl (kL, 3, .inl zl)), (g3, .inl (kR, 16, .inl zr)), (g4, .inl (kQ, 16, .inl zd))] := hD
                    exact J_15 _ _ _ (lv_sub hl [0, 1, 2, 3] rfl) (by rw [show (vZ_takeWishes_2 zr zd zw zu) = (lst zr zd 3 zw.toNatClampNeg) from ((if_pos c_12).trans (if_neg c_32))]; exact hP) (by rw [show (vZ_takeWishes_2 zr zd zw zu) = (lst zr zd 3 zw.toNatClampNeg) from ((if_pos c_12).trans (if_neg c_32))]; exact hD) hS
              · refine lv_goto (tgt := 95) hx hb d_Z_takeWishes_61 (by decide) ?_
                exact J_15 _ _ _ (lv_sub hl [0, 1, 2, 3] rfl) (by rw [show (vZ_takeWishes_2 zr zd zw zu) = (vZ_takeWishes_1 zr zd zw zu) from (if_neg c_12)]; exact hP) (by rw [show (vZ_takeWishes_2 zr zd zw zu) = (vZ_takeWishes_1 zr zd zw zu) from (if_neg c_12)]; exact hD) hS
        · refine lv_if_ge (tgt := 64) hx hb d_Z_takeWishes_58 (by decide) (fun c_7 => ?_) (fun c_7 => ?_)
          · refine lv_iload_n hx hb d_Z_takeWishes_64 rfl (lv_at hl 2 rfl) ?_
            refine lv_iconst (v := 2) hx hb d_Z_takeWishes_65 (by decide) ?_
            refine lv_irem hx hb d_Z_takeWishes_66 (by decide) ?_
            refine tpi (y := 0) (by decide) ?_
            refine lv_iconst (v := 1) hx hb d_Z_takeWishes_67 (by decide) ?_
            refine lv_icmp_ne (tgt := 82) hx hb d_Z_takeWishes_68 (by decide) (fun c_33 => ?_) (fun c_33 => ?_)
            · refine lv_aload_n hx hb d_Z_takeWishes_82 rfl (lv_at hl 3 rfl) ?_
              refine va_get (D := (dC, dI)) (ci := 5) (v := .int (vZ_takeWishes_0 zr zd zw zu)) (C := R_Z) (T := F_Z) (N := 26) hx hb hts in_Z hown hK hP 0 rfl rfl 13 (by decide) (hts (.fieldLink R_Z 53 "TorqueRowsModel" "wanted" "I") mw_172) (fun _ h9 => h9) rfl d_Z_takeWishes_83 ?_
              refine lv_iload_n hx hb d_Z_takeWishes_86 rfl (lv_at hl 1 rfl) ?_
              refine lv_icmp_le (tgt := 95) hx hb d_Z_takeWishes_87 (by decide) (fun c_34 => ?_) (fun c_34 => ?_)
              · exact J_10 _ _ _ (lv_sub hl [0, 1, 2, 3] rfl) (by rw [show (vZ_takeWishes_1 zr zd zw zu) = (vZ_takeWishes_0 zr zd zw zu) from ((if_pos c_7).trans (if_pos c_34))]; exact hP) (by rw [show (vZ_takeWishes_1 zr zd zw zu) = (vZ_takeWishes_0 zr zd zw zu) from ((if_pos c_7).trans (if_pos c_34))]; exact hD) hS
              · refine lv_aload_n hx hb d_Z_takeWishes_90 rfl (lv_at hl 3 rfl) ?_
                refine lv_iload_n hx hb d_Z_takeWishes_91 rfl (lv_at hl 1 rfl) ?_
                refine va_put (D := (dC, dI)) (ci := 5) (v := .int (lst zr zd 2 zw.toNatClampNeg)) (ty := .int) (C := R_Z) (T := F_Z) (N := 26) hx hb hts in_Z t_Z t_Z_ok n_Z hown hK hP hD hS 0 rfl rfl 13 (by decide) (hts (.fieldLink R_Z 53 "TorqueRowsModel" "wanted" "I") mw_172) (fun _ h9 => h9) rfl (by decide +kernel) rfl rfl (Nat.le_of_ble_eq_true rfl) d_Z_takeWishes_92 (fun H locs hP hD hS => ?_)
                have hP : va_P (dC, dI) classes [(g0, .inr (5, [.int zt, .ref g1, .ref g2, .int zw, .ref g3, .ref g4, .int zi, .int zb, .int zp, .int zs, .int zc, .int ze, .int zy, .int (lst zr zd 2 zw.toNatClampNeg), .int za, .int zf, .long zo, .int zg, .int zm, .int zq, .int zx, .int zh, .long z0, .long z1, .long z2, .long z3])), (g1, .inl (kV, 320, .inl zv)), (g2, .inl (kL, 3, .inl zl)), (g3, .inl (kR, 16, .inl zr)), (g4, .inl (kQ, 16, .inl zd))] H := hP
                have hD : va_D A [(g0, .inr (5, [.int zt, .ref g1, .ref g2, .int zw, .ref g3, .ref g4, .int zi, .int zb, .int zp, .int zs, .int zc, .int ze, .int zy, .int (lst zr zd 2 zw.toNatClampNeg), .int za, .int zf, .long zo, .int zg, .int zm, .int zq, .int zx, .int zh, .long z0, .long z1, .long z2, .long z3])), (g1, .inl (kV, 320, .inl zv)), (g2, .inl (kL, 3, .inl zl)), (g3, .inl (kR, 16, .inl zr)), (g4, .inl (kQ, 16, .inl zd))] := hD
                exact J_10 _ _ _ (lv_sub hl [0, 1, 2, 3] rfl) (by rw [show (vZ_takeWishes_1 zr zd zw zu) = (lst zr zd 2 zw.toNatClampNeg) from ((if_pos c_7).trans (if_neg c_34))]; exact hP) (by rw [show (vZ_takeWishes_1 zr zd zw zu) = (lst zr zd 2 zw.toNatClampNeg) from ((if_pos c_7).trans (if_neg c_34))]; exact hD) hS
            · exact absurd c_33 (by decide)
          · refine lv_goto (tgt := 95) hx hb d_Z_takeWishes_61 (by decide) ?_
            exact J_10 _ _ _ (lv_sub hl [0, 1, 2, 3] rfl) (by rw [show (vZ_takeWishes_1 zr zd zw zu) = (vZ_takeWishes_0 zr zd zw zu) from (if_neg c_7)]; exact hP) (by rw [show (vZ_takeWishes_1 zr zd zw zu) = (vZ_takeWishes_0 zr zd zw zu) from (if_neg c_7)]; exact hD) hS
    · refine lv_if_ge (tgt := 64) hx hb d_Z_takeWishes_58 (by decide) (fun c_2 => ?_) (fun c_2 => ?_)
      · refine lv_iload_n hx hb d_Z_takeWishes_64 rfl (lv_at hl 2 rfl) ?_
        refine lv_iconst (v := 2) hx hb d_Z_takeWishes_65 (by decide) ?_
        refine lv_irem hx hb d_Z_takeWishes_66 (by decide) ?_
        refine tpi (y := 1) (by decide) ?_
        refine lv_iconst (v := 1) hx hb d_Z_takeWishes_67 (by decide) ?_
        refine lv_icmp_ne (tgt := 82) hx hb d_Z_takeWishes_68 (by decide) (fun c_35 => ?_) (fun c_35 => ?_)
        · exact absurd (by decide) c_35
        · refine lv_aload_n hx hb d_Z_takeWishes_71 rfl (lv_at hl 3 rfl) ?_
          refine va_get (D := (dC, dI)) (ci := 5) (v := .int zu) (C := R_Z) (T := F_Z) (N := 26) hx hb hts in_Z hown hK hP 0 rfl rfl 13 (by decide) (hts (.fieldLink R_Z 53 "TorqueRowsModel" "wanted" "I") mw_172) (fun _ h9 => h9) rfl d_Z_takeWishes_72 ?_
          refine lv_iload_n hx hb d_Z_takeWishes_75 rfl (lv_at hl 1 rfl) ?_
          refine lv_icmp_ge (tgt := 95) hx hb d_Z_takeWishes_76 (by decide) (fun c_36 => ?_) (fun c_36 => ?_)
          · exact J_5 _ _ _ (lv_sub hl [0, 1, 2, 3] rfl) (by rw [show (vZ_takeWishes_0 zr zd zw zu) = zu from ((if_pos c_2).trans (if_pos c_36))]; exact hP) (by rw [show (vZ_takeWishes_0 zr zd zw zu) = zu from ((if_pos c_2).trans (if_pos c_36))]; exact hD) hS
          · refine lv_goto (tgt := 90) hx hb d_Z_takeWishes_79 (by decide) ?_
            refine lv_aload_n hx hb d_Z_takeWishes_90 rfl (lv_at hl 3 rfl) ?_
            refine lv_iload_n hx hb d_Z_takeWishes_91 rfl (lv_at hl 1 rfl) ?_
            refine va_put (D := (dC, dI)) (ci := 5) (v := .int (lst zr zd 1 zw.toNatClampNeg)) (ty := .int) (C := R_Z) (T := F_Z) (N := 26) hx hb hts in_Z t_Z t_Z_ok n_Z hown hK hP hD hS 0 rfl rfl 13 (by decide) (hts (.fieldLink R_Z 53 "TorqueRowsModel" "wanted" "I") mw_172) (fun _ h9 => h9) rfl (by decide +kernel) rfl rfl (Nat.le_of_ble_eq_true rfl) d_Z_takeWishes_92 (fun H locs hP hD hS => ?_)
            have hP : va_P (dC, dI) classes [(g0, .inr (5, [.int zt, .ref g1, .ref g2, .int zw, .ref g3, .ref g4, .int zi, .int zb, .int zp, .int zs, .int zc, .int ze, .int zy, .int (lst zr zd 1 zw.toNatClampNeg), .int za, .int zf, .long zo, .int zg, .int zm, .int zq, .int zx, .int zh, .long z0, .long z1, .long z2, .long z3])), (g1, .inl (kV, 320, .inl zv)), (g2, .inl (kL, 3, .inl zl)), (g3, .inl (kR, 16, .inl zr)), (g4, .inl (kQ, 16, .inl zd))] H := hP
            have hD : va_D A [(g0, .inr (5, [.int zt, .ref g1, .ref g2, .int zw, .ref g3, .ref g4, .int zi, .int zb, .int zp, .int zs, .int zc, .int ze, .int zy, .int (lst zr zd 1 zw.toNatClampNeg), .int za, .int zf, .long zo, .int zg, .int zm, .int zq, .int zx, .int zh, .long z0, .long z1, .long z2, .long z3])), (g1, .inl (kV, 320, .inl zv)), (g2, .inl (kL, 3, .inl zl)), (g3, .inl (kR, 16, .inl zr)), (g4, .inl (kQ, 16, .inl zd))] := hD
            exact J_5 _ _ _ (lv_sub hl [0, 1, 2, 3] rfl) (by rw [show (vZ_takeWishes_0 zr zd zw zu) = (lst zr zd 1 zw.toNatClampNeg) from ((if_pos c_2).trans (if_neg c_36))]; exact hP) (by rw [show (vZ_takeWishes_0 zr zd zw zu) = (lst zr zd 1 zw.toNatClampNeg) from ((if_pos c_2).trans (if_neg c_36))]; exact hD) hS
      · refine lv_goto (tgt := 95) hx hb d_Z_takeWishes_61 (by decide) ?_
        exact J_5 _ _ _ (lv_sub hl [0, 1, 2, 3] rfl) (by rw [show (vZ_takeWishes_0 zr zd zw zu) = zu from (if_neg c_2)]; exact hP) (by rw [show (vZ_takeWishes_0 zr zd zw zu) = zu from (if_neg c_2)]; exact hD) hS
set_option maxHeartbeats 4000000 in
set_option maxRecDepth 100000 in
theorem c_Z_idles (l : Launch) (dC : Nat → ClassId) (dI : Nat → Nat → Nat) (g0 g1 g2 g3 g4 : Nat) (kV kL kR kQ : ClassId) (sz : Nat) (zt : Int32) (zw : Int32) (zi : Int32) (zb : Int32) (zp : Int32) (zs : Int32) (zc : Int32) (ze : Int32) (zy : Int32) (zu : Int32) (za : Int32) (zf : Int32) (zo : Int64) (zg : Int32) (zm : Int32) (zq : Int32) (zx : Int32) (zh : Int32) (z0 : Int64) (z1 : Int64) (z2 : Int64) (z3 : Int64) (zv : Nat → Int32) (zl : Nat → Int32) (zr : Nat → Int32) (zd : Nat → Int32) : Met l y_Z_idles w_Z_idles { frames := 1, cells := 0, slots := 0, locals := 25 } (va_Pc [.ref g0] (pr_ (dC, dI) [(g0, .inr (5, [.int zt, .ref g1, .ref g2, .int zw, .ref g3, .ref g4, .int zi, .int zb, .int zp, .int zs, .int zc, .int ze, .int zy, .int zu, .int za, .int zf, .long zo, .int zg, .int zm, .int zq, .int zx, .int zh, .long z0, .long z1, .long z2, .long z3])), (g1, .inl (kV, 320, .inl zv)), (g2, .inl (kL, 3, .inl zl)), (g3, .inl (kR, 16, .inl zr)), (g4, .inl (kQ, 16, .inl zd))] [(kV, .int), (kL, .boolean), (kR, .int), (kQ, .int)] sz)) (va_Qv (fun (_ : Unit) => True) (fun _ t => at_ (dC, dI) (va_A [(g0, .inr (5, [.int zt, .ref g1, .ref g2, .int zw, .ref g3, .ref g4, .int zi, .int zb, .int zp, .int zs, .int zc, .int ze, .int zy, .int zu, .int za, .int zf, .long zo, .int zg, .int zm, .int zq, .int zx, .int zh, .long z0, .long z1, .long z2, .long z3])), (g1, .inl (kV, 320, .inl zv)), (g2, .inl (kL, 3, .inl zl)), (g3, .inl (kR, 16, .inl zr)), (g4, .inl (kQ, 16, .inl zd))] sz) [(g0, .inr (5, [.int zt, .ref g1, .ref g2, .int zw, .ref g3, .ref g4, .int zi, .int zb, .int zp, .int zs, .int zc, .int ze, .int zy, .int (vZ_idles_2 zi zy zo zu), .int za, .int zf, .long (vZ_idles_0 zi zy zo), .int zg, .int zm, .int zq, .int zx, .int zh, .long z0, .long z1, .long z2, .long z3])), (g1, .inl (kV, 320, .inl zv)), (g2, .inl (kL, 3, .inl zl)), (g3, .inl (kR, 16, .inl zr)), (g4, .inl (kQ, 16, .inl zd))] [(kV, .int), (kL, .boolean), (kR, .int), (kQ, .int)] t) (va_A [(g0, .inr (5, [.int zt, .ref g1, .ref g2, .int zw, .ref g3, .ref g4, .int zi, .int zb, .int zp, .int zs, .int zc, .int ze, .int zy, .int zu, .int za, .int zf, .long zo, .int zg, .int zm, .int zq, .int zx, .int zh, .long z0, .long z1, .long z2, .long z3])), (g1, .inl (kV, 320, .inl zv)), (g2, .inl (kL, 3, .inl zl)), (g3, .inl (kR, 16, .inl zr)), (g4, .inl (kQ, 16, .inl zd))] sz)) 0 0 (va_A [(g0, .inr (5, [.int zt, .ref g1, .ref g2, .int zw, .ref g3, .ref g4, .int zi, .int zb, .int zp, .int zs, .int zc, .int ze, .int zy, .int zu, .int za, .int zf, .long zo, .int zg, .int zm, .int zq, .int zx, .int zh, .long z0, .long z1, .long z2, .long z3])), (g1, .inl (kV, 320, .inl zv)), (g2, .inl (kL, 3, .inl zl)), (g3, .inl (kR, 16, .inl zr)), (g4, .inl (kQ, 16, .inl zd))] sz) := by
  refine Met.ofW (cc := b_Z_idles) (maxL := 6) (ret := none) (by decide) rfl ?_
  intro p e s m args below meth c s₁ B hml hv
  obtain ⟨rfl, hsz, hP, hK, hD0, hN⟩ := hv
  have hx := B.exec
  have hb := B.bytes
  have hr := B.returns
  have hts0 := atoms_spec (ws := w_Z_idles) B.pre
  have hts : ∀ w ∈ wA_, w.before _ s = true := fun w h => hts0 w (List.mem_cons_of_mem _ h)
  have hown : s.vm.findClass R_Z = some m.cls := findClass_of_methodNamed B.named
  have hlocks := B.notSynchronized
  subst hsz
  have hD := hD0.self (sz := s.heap.size)
  generalize hAe : va_A [(g0, .inr (5, [.int zt, .ref g1, .ref g2, .int zw, .ref g3, .ref g4, .int zi, .int zb, .int zp, .int zs, .int zc, .int ze, .int zy, .int zu, .int za, .int zf, .long zo, .int zg, .int zm, .int zq, .int zx, .int zh, .long z0, .long z1, .long z2, .long z3])), (g1, .inl (kV, 320, .inl zv)), (g2, .inl (kL, 3, .inl zl)), (g3, .inl (kR, 16, .inl zr)), (g4, .inl (kQ, 16, .inl zd))] s.heap.size = A at hD ⊢
  have hA : ∀ q : Nat, s.heap.size ≤ q → A q := fun q h => by rw [← hAe]; exact Or.inr h
  have hS : va_S A s.heap s.heap [] := va_S.rf
  have hP : va_P (dC, dI) classes [(g0, .inr (5, [.int zt, .ref g1, .ref g2, .int zw, .ref g3, .ref g4, .int zi, .int zb, .int zp, .int zs, .int zc, .int ze, .int zy, .int zu, .int za, .int zf, .long zo, .int zg, .int zm, .int zq, .int zx, .int zh, .long z0, .long z1, .long z2, .long z3])), (g1, .inl (kV, 320, .inl zv)), (g2, .inl (kL, 3, .inl zl)), (g3, .inl (kR, 16, .inl zr)), (g4, .inl (kQ, 16, .inl zd))] s.heap := hP
  have hl := lv_entry ([.ref g0]) (n := 6) (Nat.le_of_ble_eq_true rfl)
  rw [lg_entry_eq]
  generalize (lg_sl ([.ref g0]) ++ List.replicate (6 - (lg_sl ([.ref g0])).length) Slot.unset).toArray = ls at hl ⊢
  have hl : lv_has ls 6 [(0, .ref g0)] := hl
  have hS : va_S A s.heap s.heap [] := hS
  refine st_ hP hS (fun H locs hP hS => ?_)
  refine lv_aload_n hx hb d_Z_idles_0 rfl (lv_at hl 0 rfl) ?_
  refine va_get (D := (dC, dI)) (ci := 5) (v := .int zi) (C := R_Z) (T := F_Z) (N := 26) hx hb hts in_Z hown hK hP 0 rfl rfl 6 (by decide) (hts (.fieldLink R_Z 23 "TorqueRowsModel" "idle" "I") mw_173) (fun _ h9 => h9) rfl d_Z_idles_1 ?_
  refine lv_aload_n hx hb d_Z_idles_4 rfl (lv_at hl 0 rfl) ?_
  refine va_get (D := (dC, dI)) (ci := 5) (v := .int zy) (C := R_Z) (T := F_Z) (N := 26) hx hb hts in_Z hown hK hP 0 rfl rfl 12 (by decide) (hts (.fieldLink R_Z 56 "TorqueRowsModel" "speed" "I") mw_174) (fun _ h9 => h9) rfl d_Z_idles_5 ?_
  refine lv_isub hx hb d_Z_idles_8 ?_
  refine lv_i2l (v := ((zi - zy).toInt64)) hx hb d_Z_idles_9 rfl ?_
  refine lv_lstore_n (lv' := [(1, .long ((zi - zy).toInt64)), (0, .ref g0)]) hx hb d_Z_idles_10 rfl hl (by decide) rfl (fun ls hl => ?_)
  refine lv_ldc2 (v := 4) hx hb hown (hts (.constantLong R_Z 59 4) mw_175) d_Z_idles_11 ?_
  refine lv_lload_n hx hb d_Z_idles_14 rfl (lv_at hl 0 rfl) ?_
  refine lv_lmul hx hb d_Z_idles_15 ?_
  refine lv_aload_n hx hb d_Z_idles_16 rfl (lv_at hl 1 rfl) ?_
  refine va_get (D := (dC, dI)) (ci := 5) (v := .long zo) (C := R_Z) (T := F_Z) (N := 26) hx hb hts in_Z hown hK hP 0 rfl rfl 16 (by decide) (hts (.fieldLink R_Z 61 "TorqueRowsModel" "stored" "J") mw_176) (fun _ h9 => h9) rfl d_Z_idles_17 ?_
  refine lv_ladd hx hb d_Z_idles_20 ?_
  refine lv_ldc2 (v := 16) hx hb hown (hts (.constantLong R_Z 65 16) mw_177) d_Z_idles_21 ?_
  have hPc := hP.sub (ws' := []) [] rfl
  have hDc := hD.sub (ws' := []) [] (by decide) rfl
  have hKc := hK.sub (tys' := []) [] rfl
  have hFc := va_free (wc := []) hD hS hA [] rfl
  refine ca_l (va_runS (As := [.long ((4 * ((zi - zy).toInt64)) + zo), .long 16]) (rest := []) ⟨hx, hb, hml, hown, hts⟩ (c_Z_down l dC dI H.size ((4 * ((zi - zy).toInt64)) + zo) 16 (by decide)) (va_cwS 2 hts (gS_ mw_181 mw_180 mw_168 mw_179) rfl rfl rfl (by decide +kernel) ⟨Nat.le_of_ble_eq_true rfl, Nat.le_of_ble_eq_true rfl⟩) ⟨fb_, pu_ hPc hKc hDc hN⟩ rfl rfl hl.1 rfl (lv_room (Nat.le_of_ble_eq_true rfl)) d_Z_idles_24 ⟨Nat.le_of_ble_eq_true rfl, Nat.le_of_ble_eq_true rfl⟩) hS (fun q _ h => hFc q h) hFc (fun t H locs ht hvm hB hz1 hk1 hS => ?_)
  obtain ⟨hP, hD⟩ := aft_ (wr := [(g0, .inr (5, [.int zt, .ref g1, .ref g2, .int zw, .ref g3, .ref g4, .int zi, .int zb, .int zp, .int zs, .int zc, .int ze, .int zy, .int zu, .int za, .int zf, .long zo, .int zg, .int zm, .int zq, .int zx, .int zh, .long z0, .long z1, .long z2, .long z3])), (g1, .inl (kV, 320, .inl zv)), (g2, .inl (kL, 3, .inl zl)), (g3, .inl (kR, 16, .inl zr)), (g4, .inl (kQ, 16, .inl zd))]) (w1 := []) (w2 := [(g0, .inr (5, [.int zt, .ref g1, .ref g2, .int zw, .ref g3, .ref g4, .int zi, .int zb, .int zp, .int zs, .int zc, .int ze, .int zy, .int zu, .int za, .int zf, .long zo, .int zg, .int zm, .int zq, .int zx, .int zh, .long z0, .long z1, .long z2, .long z3])), (g1, .inl (kV, 320, .inl zv)), (g2, .inl (kL, 3, .inl zl)), (g3, .inl (kR, 16, .inl zr)), (g4, .inl (kQ, 16, .inl zd))]) hP hD [] [0, 1, 2, 3, 4] [0, 1, 2, 3, 4] rfl rfl (by decide) (by decide) hk1 hFc hB ht rfl (by decide)
  refine lv_lstore_n (lv' := [(3, .long (fZ_down ((4 * ((zi - zy).toInt64)) + zo) 16)), (1, .long ((zi - zy).toInt64)), (0, .ref g0)]) hx hb d_Z_idles_27 rfl hl (by decide) rfl (fun ls hl => ?_)
  refine lv_lload_n hx hb d_Z_idles_28 rfl (lv_at hl 0 rfl) ?_
  refine lv_ldc2 (v := 200) hx hb hown (hts (.constantLong R_Z 71 200) mw_178) d_Z_idles_29 ?_
  refine W.lcmp hx hb d_Z_idles_32 ?_
  refine jn 6 [(3, .long (fZ_down ((4 * ((zi - zy).toInt64)) + zo) 16)), (1, .long ((zi - zy).toInt64)), (0, .ref g0)] [(g0, .inr (5, [.int zt, .ref g1, .ref g2, .int zw, .ref g3, .ref g4, .int zi, .int zb, .int zp, .int zs, .int zc, .int ze, .int zy, .int zu, .int za, .int zf, .long (vZ_idles_0 zi zy zo), .int zg, .int zm, .int zq, .int zx, .int zh, .long z0, .long z1, .long z2, .long z3])), (g1, .inl (kV, 320, .inl zv)), (g2, .inl (kL, 3, .inl zl)), (g3, .inl (kR, 16, .inl zr)), (g4, .inl (kQ, 16, .inl zd))] 64 [] (D := (dC, dI)) (A := A) (H0 := s.heap) (fun ls H locs hl hP hD hS => ?_) (fun J_7 => ?_)
  · refine lv_lload_n hx hb d_Z_idles_64 rfl (lv_at hl 0 rfl) ?_
    refine lv_lconst (v := 0) hx hb d_Z_idles_65 (by decide) ?_
    refine W.lcmp hx hb d_Z_idles_66 ?_
    refine jn 6 [(3, .long (fZ_down ((4 * ((zi - zy).toInt64)) + zo) 16)), (1, .long ((zi - zy).toInt64)), (0, .ref g0)] [(g0, .inr (5, [.int zt, .ref g1, .ref g2, .int zw, .ref g3, .ref g4, .int zi, .int zb, .int zp, .int zs, .int zc, .int ze, .int zy, .int zu, .int za, .int zf, .long (vZ_idles_0 zi zy zo), .int zg, .int zm, .int zq, .int zx, .int zh, .long z0, .long z1, .long z2, .long z3])), (g1, .inl (kV, 320, .inl zv)), (g2, .inl (kL, 3, .inl zl)), (g3, .inl (kR, 16, .inl zr)), (g4, .inl (kQ, 16, .inl zd))] 90 [.int (vZ_idles_1 zi zy zo)] (D := (dC, dI)) (A := A) (H0 := s.heap) (fun ls H locs hl hP hD hS => ?_) (fun J_10 => ?_)
    · refine lv_istore (lv' := [(5, .int (vZ_idles_1 zi zy zo)), (3, .long (fZ_down ((4 * ((zi - zy).toInt64)) + zo) 16)), (1, .long ((zi - zy).toInt64)), (0, .ref g0)]) hx hb d_Z_idles_90 hl (by decide) rfl (fun ls hl => ?_)
      refine lv_aload_n hx hb d_Z_idles_92 rfl (lv_at hl 3 rfl) ?_
      refine lv_aload_n hx hb d_Z_idles_93 rfl (lv_at hl 3 rfl) ?_
      refine va_get (D := (dC, dI)) (ci := 5) (v := .int zu) (C := R_Z) (T := F_Z) (N := 26) hx hb hts in_Z hown hK hP 0 rfl rfl 13 (by decide) (hts (.fieldLink R_Z 53 "TorqueRowsModel" "wanted" "I") mw_172) (fun _ h9 => h9) rfl d_Z_idles_94 ?_
      refine lv_iload hx hb d_Z_idles_97 (lv_at hl 0 rfl) ?_
      refine jn 6 [(5, .int (vZ_idles_1 zi zy zo)), (3, .long (fZ_down ((4 * ((zi - zy).toInt64)) + zo) 16)), (1, .long ((zi - zy).toInt64)), (0, .ref g0)] [(g0, .inr (5, [.int zt, .ref g1, .ref g2, .int zw, .ref g3, .ref g4, .int zi, .int zb, .int zp, .int zs, .int zc, .int ze, .int zy, .int zu, .int za, .int zf, .long (vZ_idles_0 zi zy zo), .int zg, .int zm, .int zq, .int zx, .int zh, .long z0, .long z1, .long z2, .long z3])), (g1, .inl (kV, 320, .inl zv)), (g2, .inl (kL, 3, .inl zl)), (g3, .inl (kR, 16, .inl zr)), (g4, .inl (kQ, 16, .inl zd))] 111 [.int (vZ_idles_2 zi zy zo zu), .ref g0] (D := (dC, dI)) (A := A) (H0 := s.heap) (fun ls H locs hl hP hD hS => ?_) (fun J_12 => ?_)
      · refine va_put (D := (dC, dI)) (ci := 5) (v := .int (vZ_idles_2 zi zy zo zu)) (ty := .int) (C := R_Z) (T := F_Z) (N := 26) hx hb hts in_Z t_Z t_Z_ok n_Z hown hK hP hD hS 0 rfl rfl 13 (by decide) (hts (.fieldLink R_Z 53 "TorqueRowsModel" "wanted" "I") mw_172) (fun _ h9 => h9) rfl (by decide +kernel) rfl rfl (Nat.le_of_ble_eq_true rfl) d_Z_idles_111 (fun H locs hP hD hS => ?_)
        have hP : va_P (dC, dI) classes [(g0, .inr (5, [.int zt, .ref g1, .ref g2, .int zw, .ref g3, .ref g4, .int zi, .int zb, .int zp, .int zs, .int zc, .int ze, .int zy, .int (vZ_idles_2 zi zy zo zu), .int za, .int zf, .long (vZ_idles_0 zi zy zo), .int zg, .int zm, .int zq, .int zx, .int zh, .long z0, .long z1, .long z2, .long z3])), (g1, .inl (kV, 320, .inl zv)), (g2, .inl (kL, 3, .inl zl)), (g3, .inl (kR, 16, .inl zr)), (g4, .inl (kQ, 16, .inl zd))] H := hP
        have hD : va_D A [(g0, .inr (5, [.int zt, .ref g1, .ref g2, .int zw, .ref g3, .ref g4, .int zi, .int zb, .int zp, .int zs, .int zc, .int ze, .int zy, .int (vZ_idles_2 zi zy zo zu), .int za, .int zf, .long (vZ_idles_0 zi zy zo), .int zg, .int zm, .int zq, .int zx, .int zh, .long z0, .long z1, .long z2, .long z3])), (g1, .inl (kV, 320, .inl zv)), (g2, .inl (kL, 3, .inl zl)), (g3, .inl (kR, 16, .inl zr)), (g4, .inl (kQ, 16, .inl zd))] := hD
        have h9 : va_P (dC, dI) classes [(g0, .inr (5, [.int zt, .ref g1, .ref g2, .int zw, .ref g3, .ref g4, .int zi, .int zb, .int zp, .int zs, .int zc, .int ze, .int zy, .int (vZ_idles_2 zi zy zo zu), .int za, .int zf, .long (vZ_idles_0 zi zy zo), .int zg, .int zm, .int zq, .int zx, .int zh, .long z0, .long z1, .long z2, .long z3])), (g1, .inl (kV, 320, .inl zv)), (g2, .inl (kL, 3, .inl zl)), (g3, .inl (kR, 16, .inl zr)), (g4, .inl (kQ, 16, .inl zd))] H ∧ va_D A [(g0, .inr (5, [.int zt, .ref g1, .ref g2, .int zw, .ref g3, .ref g4, .int zi, .int zb, .int zp, .int zs, .int zc, .int ze, .int zy, .int (vZ_idles_2 zi zy zo zu), .int za, .int zf, .long (vZ_idles_0 zi zy zo), .int zg, .int zm, .int zq, .int zx, .int zh, .long z0, .long z1, .long z2, .long z3])), (g1, .inl (kV, 320, .inl zv)), (g2, .inl (kL, 3, .inl zl)), (g3, .inl (kR, 16, .inl zr)), (g4, .inl (kQ, 16, .inl zd))] := ⟨hP, hD⟩
        exact W.vret hx hb hr (fun t ht hW => ⟨⟨(), rfl, trivial, by rw [ht]; exact h9.1, va_K.moved hW.alike hK, h9.2⟩, hS.F ht⟩) hS.2.2 d_Z_idles_114
      · refine lv_icmp_ge (tgt := 107) hx hb d_Z_idles_99 (by decide) (fun c_11 => ?_) (fun c_11 => ?_)
        · refine lv_aload_n hx hb d_Z_idles_107 rfl (lv_at hl 3 rfl) ?_
          refine va_get (D := (dC, dI)) (ci := 5) (v := .int zu) (C := R_Z) (T := F_Z) (N := 26) hx hb hts in_Z hown hK hP 0 rfl rfl 13 (by decide) (hts (.fieldLink R_Z 53 "TorqueRowsModel" "wanted" "I") mw_172) (fun _ h9 => h9) rfl d_Z_idles_108 ?_
          refine W.eq (g2 := F0 m 111 ls [.int (vZ_idles_2 zi zy zo zu), .ref g0]) (by rw [show (vZ_idles_2 zi zy zo zu) = zu from (if_pos c_11)]) ?_
          exact J_12 _ _ _ (lv_sub hl [0, 1, 2, 3] rfl) hP hD hS
        · refine lv_iload hx hb d_Z_idles_102 (lv_at hl 0 rfl) ?_
          refine lv_goto (tgt := 111) hx hb d_Z_idles_104 (by decide) ?_
          refine W.eq (g2 := F0 m 111 ls [.int (vZ_idles_2 zi zy zo zu), .ref g0]) (by rw [show (vZ_idles_2 zi zy zo zu) = (vZ_idles_1 zi zy zo) from (if_neg c_11)]) ?_
          exact J_12 _ _ _ (lv_sub hl [0, 1, 2, 3] rfl) hP hD hS
    · refine lv_if_ge (tgt := 74) hx hb d_Z_idles_67 (by decide) (fun c_8 => ?_) (fun c_8 => ?_)
      · refine lv_lload_n hx hb d_Z_idles_74 rfl (lv_at hl 0 rfl) ?_
        refine lv_ldc2 (v := 200) hx hb hown (hts (.constantLong R_Z 71 200) mw_178) d_Z_idles_75 ?_
        refine W.lcmp hx hb d_Z_idles_78 ?_
        refine lv_if_le (tgt := 88) hx hb d_Z_idles_79 (by decide) (fun c_13 => ?_) (fun c_13 => ?_)
        · refine lv_lload_n hx hb d_Z_idles_88 rfl (lv_at hl 0 rfl) ?_
          refine lv_l2i (v := ((fZ_down ((4 * ((zi - zy).toInt64)) + zo) 16).toInt32)) hx hb d_Z_idles_89 rfl ?_
          refine W.eq (g2 := F0 m 90 ls [.int (vZ_idles_1 zi zy zo)]) (by rw [show (vZ_idles_1 zi zy zo) = ((fZ_down ((4 * ((zi - zy).toInt64)) + zo) 16).toInt32) from ((if_pos c_8).trans (if_pos c_13))]) ?_
          exact J_10 _ _ _ (lv_sub hl [0, 1, 2] rfl) hP hD hS
        · refine lv_sipush (v := 200) hx hb d_Z_idles_82 (by decide) ?_
          refine lv_goto (tgt := 90) hx hb d_Z_idles_85 (by decide) ?_
          refine W.eq (g2 := F0 m 90 ls [.int (vZ_idles_1 zi zy zo)]) (by rw [show (vZ_idles_1 zi zy zo) = 200 from ((if_pos c_8).trans (if_neg c_13))]) ?_
          exact J_10 _ _ _ (lv_sub hl [0, 1, 2] rfl) hP hD hS
      · refine lv_iconst (v := 0) hx hb d_Z_idles_70 (by decide) ?_
        refine lv_goto (tgt := 90) hx hb d_Z_idles_71 (by decide) ?_
        refine W.eq (g2 := F0 m 90 ls [.int (vZ_idles_1 zi zy zo)]) (by rw [show (vZ_idles_1 zi zy zo) = 0 from (if_neg c_8)]) ?_
        exact J_10 _ _ _ (lv_sub hl [0, 1, 2] rfl) hP hD hS
  · refine lv_if_le (tgt := 42) hx hb d_Z_idles_33 (by decide) (fun c_1 => ?_) (fun c_1 => ?_)
    · refine lv_lload_n hx hb d_Z_idles_42 rfl (lv_at hl 0 rfl) ?_
      refine lv_lconst (v := 0) hx hb d_Z_idles_43 (by decide) ?_
      refine W.lcmp hx hb d_Z_idles_44 ?_
      refine lv_if_ge (tgt := 54) hx hb d_Z_idles_45 (by decide) (fun c_14 => ?_) (fun c_14 => ?_)
      · refine lv_aload_n hx hb d_Z_idles_54 rfl (lv_at hl 2 rfl) ?_
        refine lv_dup hx hb d_Z_idles_55 rfl ?_
        refine va_get (D := (dC, dI)) (ci := 5) (v := .long zo) (C := R_Z) (T := F_Z) (N := 26) hx hb hts in_Z hown hK hP 0 rfl rfl 16 (by decide) (hts (.fieldLink R_Z 61 "TorqueRowsModel" "stored" "J") mw_176) (fun _ h9 => h9) rfl d_Z_idles_56 ?_
        refine lv_lload_n hx hb d_Z_idles_59 rfl (lv_at hl 1 rfl) ?_
        refine lv_ladd hx hb d_Z_idles_60 ?_
        refine va_put (D := (dC, dI)) (ci := 5) (v := .long (zo + ((zi - zy).toInt64))) (ty := .long) (C := R_Z) (T := F_Z) (N := 26) hx hb hts in_Z t_Z t_Z_ok n_Z hown hK hP hD hS 0 rfl rfl 16 (by decide) (hts (.fieldLink R_Z 61 "TorqueRowsModel" "stored" "J") mw_176) (fun _ h9 => h9) rfl (by decide +kernel) rfl rfl (Nat.le_of_ble_eq_true rfl) d_Z_idles_61 (fun H locs hP hD hS => ?_)
        have hP : va_P (dC, dI) classes [(g0, .inr (5, [.int zt, .ref g1, .ref g2, .int zw, .ref g3, .ref g4, .int zi, .int zb, .int zp, .int zs, .int zc, .int ze, .int zy, .int zu, .int za, .int zf, .long (zo + ((zi - zy).toInt64)), .int zg, .int zm, .int zq, .int zx, .int zh, .long z0, .long z1, .long z2, .long z3])), (g1, .inl (kV, 320, .inl zv)), (g2, .inl (kL, 3, .inl zl)), (g3, .inl (kR, 16, .inl zr)), (g4, .inl (kQ, 16, .inl zd))] H := hP
        have hD : va_D A [(g0, .inr (5, [.int zt, .ref g1, .ref g2, .int zw, .ref g3, .ref g4, .int zi, .int zb, .int zp, .int zs, .int zc, .int ze, .int zy, .int zu, .int za, .int zf, .long (zo + ((zi - zy).toInt64)), .int zg, .int zm, .int zq, .int zx, .int zh, .long z0, .long z1, .long z2, .long z3])), (g1, .inl (kV, 320, .inl zv)), (g2, .inl (kL, 3, .inl zl)), (g3, .inl (kR, 16, .inl zr)), (g4, .inl (kQ, 16, .inl zd))] := hD
        exact J_7 _ _ _ (lv_sub hl [0, 1, 2] rfl) (by rw [show (vZ_idles_0 zi zy zo) = (zo + ((zi - zy).toInt64)) from ((if_pos c_1).trans (if_pos c_14))]; exact hP) (by rw [show (vZ_idles_0 zi zy zo) = (zo + ((zi - zy).toInt64)) from ((if_pos c_1).trans (if_pos c_14))]; exact hD) hS
      · refine lv_lload_n hx hb d_Z_idles_48 rfl (lv_at hl 1 rfl) ?_
        refine lv_lconst (v := 0) hx hb d_Z_idles_49 (by decide) ?_
        refine W.lcmp hx hb d_Z_idles_50 ?_
        refine lv_if_lt (tgt := 64) hx hb d_Z_idles_51 (by decide) (fun c_15 => ?_) (fun c_15 => ?_)
        · exact J_7 _ _ _ (lv_sub hl [0, 1, 2] rfl) (by rw [show (vZ_idles_0 zi zy zo) = zo from ((if_pos c_1).trans ((if_neg c_14).trans (if_pos c_15)))]; exact hP) (by rw [show (vZ_idles_0 zi zy zo) = zo from ((if_pos c_1).trans ((if_neg c_14).trans (if_pos c_15)))]; exact hD) hS
        · refine lv_aload_n hx hb d_Z_idles_54 rfl (lv_at hl 2 rfl) ?_
          refine lv_dup hx hb d_Z_idles_55 rfl ?_
          refine va_get (D := (dC, dI)) (ci := 5) (v := .long zo) (C := R_Z) (T := F_Z) (N := 26) hx hb hts in_Z hown hK hP 0 rfl rfl 16 (by decide) (hts (.fieldLink R_Z 61 "TorqueRowsModel" "stored" "J") mw_176) (fun _ h9 => h9) rfl d_Z_idles_56 ?_
          refine lv_lload_n hx hb d_Z_idles_59 rfl (lv_at hl 1 rfl) ?_
          refine lv_ladd hx hb d_Z_idles_60 ?_
          refine va_put (D := (dC, dI)) (ci := 5) (v := .long (zo + ((zi - zy).toInt64))) (ty := .long) (C := R_Z) (T := F_Z) (N := 26) hx hb hts in_Z t_Z t_Z_ok n_Z hown hK hP hD hS 0 rfl rfl 16 (by decide) (hts (.fieldLink R_Z 61 "TorqueRowsModel" "stored" "J") mw_176) (fun _ h9 => h9) rfl (by decide +kernel) rfl rfl (Nat.le_of_ble_eq_true rfl) d_Z_idles_61 (fun H locs hP hD hS => ?_)
          have hP : va_P (dC, dI) classes [(g0, .inr (5, [.int zt, .ref g1, .ref g2, .int zw, .ref g3, .ref g4, .int zi, .int zb, .int zp, .int zs, .int zc, .int ze, .int zy, .int zu, .int za, .int zf, .long (zo + ((zi - zy).toInt64)), .int zg, .int zm, .int zq, .int zx, .int zh, .long z0, .long z1, .long z2, .long z3])), (g1, .inl (kV, 320, .inl zv)), (g2, .inl (kL, 3, .inl zl)), (g3, .inl (kR, 16, .inl zr)), (g4, .inl (kQ, 16, .inl zd))] H := hP
          have hD : va_D A [(g0, .inr (5, [.int zt, .ref g1, .ref g2, .int zw, .ref g3, .ref g4, .int zi, .int zb, .int zp, .int zs, .int zc, .int ze, .int zy, .int zu, .int za, .int zf, .long (zo + ((zi - zy).toInt64)), .int zg, .int zm, .int zq, .int zx, .int zh, .long z0, .long z1, .long z2, .long z3])), (g1, .inl (kV, 320, .inl zv)), (g2, .inl (kL, 3, .inl zl)), (g3, .inl (kR, 16, .inl zr)), (g4, .inl (kQ, 16, .inl zd))] := hD
          exact J_7 _ _ _ (lv_sub hl [0, 1, 2] rfl) (by rw [show (vZ_idles_0 zi zy zo) = (zo + ((zi - zy).toInt64)) from ((if_pos c_1).trans ((if_neg c_14).trans (if_neg c_15)))]; exact hP) (by rw [show (vZ_idles_0 zi zy zo) = (zo + ((zi - zy).toInt64)) from ((if_pos c_1).trans ((if_neg c_14).trans (if_neg c_15)))]; exact hD) hS
    · refine lv_lload_n hx hb d_Z_idles_36 rfl (lv_at hl 1 rfl) ?_
      refine lv_lconst (v := 0) hx hb d_Z_idles_37 (by decide) ?_
      refine W.lcmp hx hb d_Z_idles_38 ?_
      refine lv_if_gt (tgt := 64) hx hb d_Z_idles_39 (by decide) (fun c_16 => ?_) (fun c_16 => ?_)
      · exact J_7 _ _ _ (lv_sub hl [0, 1, 2] rfl) (by rw [show (vZ_idles_0 zi zy zo) = zo from ((if_neg c_1).trans (if_pos c_16))]; exact hP) (by rw [show (vZ_idles_0 zi zy zo) = zo from ((if_neg c_1).trans (if_pos c_16))]; exact hD) hS
      · refine lv_lload_n hx hb d_Z_idles_42 rfl (lv_at hl 0 rfl) ?_
        refine lv_lconst (v := 0) hx hb d_Z_idles_43 (by decide) ?_
        refine W.lcmp hx hb d_Z_idles_44 ?_
        refine lv_if_ge (tgt := 54) hx hb d_Z_idles_45 (by decide) (fun c_17 => ?_) (fun c_17 => ?_)
        · refine lv_aload_n hx hb d_Z_idles_54 rfl (lv_at hl 2 rfl) ?_
          refine lv_dup hx hb d_Z_idles_55 rfl ?_
          refine va_get (D := (dC, dI)) (ci := 5) (v := .long zo) (C := R_Z) (T := F_Z) (N := 26) hx hb hts in_Z hown hK hP 0 rfl rfl 16 (by decide) (hts (.fieldLink R_Z 61 "TorqueRowsModel" "stored" "J") mw_176) (fun _ h9 => h9) rfl d_Z_idles_56 ?_
          refine lv_lload_n hx hb d_Z_idles_59 rfl (lv_at hl 1 rfl) ?_
          refine lv_ladd hx hb d_Z_idles_60 ?_
          refine va_put (D := (dC, dI)) (ci := 5) (v := .long (zo + ((zi - zy).toInt64))) (ty := .long) (C := R_Z) (T := F_Z) (N := 26) hx hb hts in_Z t_Z t_Z_ok n_Z hown hK hP hD hS 0 rfl rfl 16 (by decide) (hts (.fieldLink R_Z 61 "TorqueRowsModel" "stored" "J") mw_176) (fun _ h9 => h9) rfl (by decide +kernel) rfl rfl (Nat.le_of_ble_eq_true rfl) d_Z_idles_61 (fun H locs hP hD hS => ?_)
          have hP : va_P (dC, dI) classes [(g0, .inr (5, [.int zt, .ref g1, .ref g2, .int zw, .ref g3, .ref g4, .int zi, .int zb, .int zp, .int zs, .int zc, .int ze, .int zy, .int zu, .int za, .int zf, .long (zo + ((zi - zy).toInt64)), .int zg, .int zm, .int zq, .int zx, .int zh, .long z0, .long z1, .long z2, .long z3])), (g1, .inl (kV, 320, .inl zv)), (g2, .inl (kL, 3, .inl zl)), (g3, .inl (kR, 16, .inl zr)), (g4, .inl (kQ, 16, .inl zd))] H := hP
          have hD : va_D A [(g0, .inr (5, [.int zt, .ref g1, .ref g2, .int zw, .ref g3, .ref g4, .int zi, .int zb, .int zp, .int zs, .int zc, .int ze, .int zy, .int zu, .int za, .int zf, .long (zo + ((zi - zy).toInt64)), .int zg, .int zm, .int zq, .int zx, .int zh, .long z0, .long z1, .long z2, .long z3])), (g1, .inl (kV, 320, .inl zv)), (g2, .inl (kL, 3, .inl zl)), (g3, .inl (kR, 16, .inl zr)), (g4, .inl (kQ, 16, .inl zd))] := hD
          exact J_7 _ _ _ (lv_sub hl [0, 1, 2] rfl) (by rw [show (vZ_idles_0 zi zy zo) = (zo + ((zi - zy).toInt64)) from ((if_neg c_1).trans ((if_neg c_16).trans (if_pos c_17)))]; exact hP) (by rw [show (vZ_idles_0 zi zy zo) = (zo + ((zi - zy).toInt64)) from ((if_neg c_1).trans ((if_neg c_16).trans (if_pos c_17)))]; exact hD) hS
        · refine lv_lload_n hx hb d_Z_idles_48 rfl (lv_at hl 1 rfl) ?_
          refine lv_lconst (v := 0) hx hb d_Z_idles_49 (by decide) ?_
          refine W.lcmp hx hb d_Z_idles_50 ?_
          refine lv_if_lt (tgt := 64) hx hb d_Z_idles_51 (by decide) (fun c_18 => ?_) (fun c_18 => ?_)
          · exact J_7 _ _ _ (lv_sub hl [0, 1, 2] rfl) (by rw [show (vZ_idles_0 zi zy zo) = zo from ((if_neg c_1).trans ((if_neg c_16).trans ((if_neg c_17).trans (if_pos c_18))))]; exact hP) (by rw [show (vZ_idles_0 zi zy zo) = zo from ((if_neg c_1).trans ((if_neg c_16).trans ((if_neg c_17).trans (if_pos c_18))))]; exact hD) hS
          · refine lv_aload_n hx hb d_Z_idles_54 rfl (lv_at hl 2 rfl) ?_
            refine lv_dup hx hb d_Z_idles_55 rfl ?_
            refine va_get (D := (dC, dI)) (ci := 5) (v := .long zo) (C := R_Z) (T := F_Z) (N := 26) hx hb hts in_Z hown hK hP 0 rfl rfl 16 (by decide) (hts (.fieldLink R_Z 61 "TorqueRowsModel" "stored" "J") mw_176) (fun _ h9 => h9) rfl d_Z_idles_56 ?_
            refine lv_lload_n hx hb d_Z_idles_59 rfl (lv_at hl 1 rfl) ?_
            refine lv_ladd hx hb d_Z_idles_60 ?_
            refine va_put (D := (dC, dI)) (ci := 5) (v := .long (zo + ((zi - zy).toInt64))) (ty := .long) (C := R_Z) (T := F_Z) (N := 26) hx hb hts in_Z t_Z t_Z_ok n_Z hown hK hP hD hS 0 rfl rfl 16 (by decide) (hts (.fieldLink R_Z 61 "TorqueRowsModel" "stored" "J") mw_176) (fun _ h9 => h9) rfl (by decide +kernel) rfl rfl (Nat.le_of_ble_eq_true rfl) d_Z_idles_61 (fun H locs hP hD hS => ?_)
            have hP : va_P (dC, dI) classes [(g0, .inr (5, [.int zt, .ref g1, .ref g2, .int zw, .ref g3, .ref g4, .int zi, .int zb, .int zp, .int zs, .int zc, .int ze, .int zy, .int zu, .int za, .int zf, .long (zo + ((zi - zy).toInt64)), .int zg, .int zm, .int zq, .int zx, .int zh, .long z0, .long z1, .long z2, .long z3])), (g1, .inl (kV, 320, .inl zv)), (g2, .inl (kL, 3, .inl zl)), (g3, .inl (kR, 16, .inl zr)), (g4, .inl (kQ, 16, .inl zd))] H := hP
            have hD : va_D A [(g0, .inr (5, [.int zt, .ref g1, .ref g2, .int zw, .ref g3, .ref g4, .int zi, .int zb, .int zp, .int zs, .int zc, .int ze, .int zy, .int zu, .int za, .int zf, .long (zo + ((zi - zy).toInt64)), .int zg, .int zm, .int zq, .int zx, .int zh, .long z0, .long z1, .long z2, .long z3])), (g1, .inl (kV, 320, .inl zv)), (g2, .inl (kL, 3, .inl zl)), (g3, .inl (kR, 16, .inl zr)), (g4, .inl (kQ, 16, .inl zd))] := hD
            exact J_7 _ _ _ (lv_sub hl [0, 1, 2] rfl) (by rw [show (vZ_idles_0 zi zy zo) = (zo + ((zi - zy).toInt64)) from ((if_neg c_1).trans ((if_neg c_16).trans ((if_neg c_17).trans (if_neg c_18))))]; exact hP) (by rw [show (vZ_idles_0 zi zy zo) = (zo + ((zi - zy).toInt64)) from ((if_neg c_1).trans ((if_neg c_16).trans ((if_neg c_17).trans (if_neg c_18))))]; exact hD) hS
set_option maxHeartbeats 4000000 in
set_option maxRecDepth 100000 in
theorem c_Z_value (l : Launch) (dC : Nat → ClassId) (dI : Nat → Nat → Nat) (g0 g1 g2 g3 g4 : Nat) (kV kL kR kQ : ClassId) (sz : Nat) (zt : Int32) (zw : Int32) (zi : Int32) (zb : Int32) (zp : Int32) (zs : Int32) (zc : Int32) (ze : Int32) (zy : Int32) (zu : Int32) (za : Int32) (zf : Int32) (zo : Int64) (zg : Int32) (zm : Int32) (zq : Int32) (zx : Int32) (zh : Int32) (z0 : Int64) (z1 : Int64) (z2 : Int64) (z3 : Int64) (zv : Nat → Int32) (zl : Nat → Int32) (zr : Nat → Int32) (zd : Nat → Int32) (p0 : Int32) : Met l y_Z_value w_Z_value { frames := 0, cells := 0, slots := 0, locals := 0 } (va_Pc [.ref g0, .int p0] (pr_ (dC, dI) [(g0, .inr (5, [.int zt, .ref g1, .ref g2, .int zw, .ref g3, .ref g4, .int zi, .int zb, .int zp, .int zs, .int zc, .int ze, .int zy, .int zu, .int za, .int zf, .long zo, .int zg, .int zm, .int zq, .int zx, .int zh, .long z0, .long z1, .long z2, .long z3])), (g1, .inl (kV, 320, .inl zv)), (g2, .inl (kL, 3, .inl zl)), (g3, .inl (kR, 16, .inl zr)), (g4, .inl (kQ, 16, .inl zd))] [(kV, .int), (kL, .boolean), (kR, .int), (kQ, .int)] sz)) (va_Ql (fun r (_ : Unit) => r = (fZ_value p0 ze zu za zf zo zg zm zy)) (fun _ t => at_ (dC, dI) (va_A [(g0, .inr (5, [.int zt, .ref g1, .ref g2, .int zw, .ref g3, .ref g4, .int zi, .int zb, .int zp, .int zs, .int zc, .int ze, .int zy, .int zu, .int za, .int zf, .long zo, .int zg, .int zm, .int zq, .int zx, .int zh, .long z0, .long z1, .long z2, .long z3])), (g1, .inl (kV, 320, .inl zv)), (g2, .inl (kL, 3, .inl zl)), (g3, .inl (kR, 16, .inl zr)), (g4, .inl (kQ, 16, .inl zd))] sz) [(g0, .inr (5, [.int 0, .ref g1, .ref g2, .int zw, .ref g3, .ref g4, .int zi, .int zb, .int zp, .int zs, .int zc, .int ze, .int zy, .int zu, .int za, .int zf, .long zo, .int zg, .int zm, .int zq, .int zx, .int zh, .long z0, .long z1, .long z2, .long z3])), (g1, .inl (kV, 320, .inl zv)), (g2, .inl (kL, 3, .inl zl)), (g3, .inl (kR, 16, .inl zr)), (g4, .inl (kQ, 16, .inl zd))] [(kV, .int), (kL, .boolean), (kR, .int), (kQ, .int)] t) (va_A [(g0, .inr (5, [.int zt, .ref g1, .ref g2, .int zw, .ref g3, .ref g4, .int zi, .int zb, .int zp, .int zs, .int zc, .int ze, .int zy, .int zu, .int za, .int zf, .long zo, .int zg, .int zm, .int zq, .int zx, .int zh, .long z0, .long z1, .long z2, .long z3])), (g1, .inl (kV, 320, .inl zv)), (g2, .inl (kL, 3, .inl zl)), (g3, .inl (kR, 16, .inl zr)), (g4, .inl (kQ, 16, .inl zd))] sz)) 0 0 (va_A [(g0, .inr (5, [.int zt, .ref g1, .ref g2, .int zw, .ref g3, .ref g4, .int zi, .int zb, .int zp, .int zs, .int zc, .int ze, .int zy, .int zu, .int za, .int zf, .long zo, .int zg, .int zm, .int zq, .int zx, .int zh, .long z0, .long z1, .long z2, .long z3])), (g1, .inl (kV, 320, .inl zv)), (g2, .inl (kL, 3, .inl zl)), (g3, .inl (kR, 16, .inl zr)), (g4, .inl (kQ, 16, .inl zd))] sz) := by
  refine Met.ofW (cc := b_Z_value) (maxL := 2) (ret := (some .long)) (by decide) rfl ?_
  intro p e s m args below meth c s₁ B hml hv
  obtain ⟨rfl, hsz, hP, hK, hD0, hN⟩ := hv
  have hx := B.exec
  have hb := B.bytes
  have hr := B.returns
  have hts0 := atoms_spec (ws := w_Z_value) B.pre
  have hts : ∀ w ∈ wA_, w.before _ s = true := fun w h => hts0 w (List.mem_cons_of_mem _ h)
  have hown : s.vm.findClass R_Z = some m.cls := findClass_of_methodNamed B.named
  have hlocks := B.notSynchronized
  subst hsz
  have hD := hD0.self (sz := s.heap.size)
  generalize hAe : va_A [(g0, .inr (5, [.int zt, .ref g1, .ref g2, .int zw, .ref g3, .ref g4, .int zi, .int zb, .int zp, .int zs, .int zc, .int ze, .int zy, .int zu, .int za, .int zf, .long zo, .int zg, .int zm, .int zq, .int zx, .int zh, .long z0, .long z1, .long z2, .long z3])), (g1, .inl (kV, 320, .inl zv)), (g2, .inl (kL, 3, .inl zl)), (g3, .inl (kR, 16, .inl zr)), (g4, .inl (kQ, 16, .inl zd))] s.heap.size = A at hD ⊢
  have hA : ∀ q : Nat, s.heap.size ≤ q → A q := fun q h => by rw [← hAe]; exact Or.inr h
  have hS : va_S A s.heap s.heap [] := va_S.rf
  have hP : va_P (dC, dI) classes [(g0, .inr (5, [.int zt, .ref g1, .ref g2, .int zw, .ref g3, .ref g4, .int zi, .int zb, .int zp, .int zs, .int zc, .int ze, .int zy, .int zu, .int za, .int zf, .long zo, .int zg, .int zm, .int zq, .int zx, .int zh, .long z0, .long z1, .long z2, .long z3])), (g1, .inl (kV, 320, .inl zv)), (g2, .inl (kL, 3, .inl zl)), (g3, .inl (kR, 16, .inl zr)), (g4, .inl (kQ, 16, .inl zd))] s.heap := hP
  have hl := lv_entry ([.ref g0, .int p0]) (n := 2) (Nat.le_of_ble_eq_true rfl)
  rw [lg_entry_eq]
  generalize (lg_sl ([.ref g0, .int p0]) ++ List.replicate (2 - (lg_sl ([.ref g0, .int p0])).length) Slot.unset).toArray = ls at hl ⊢
  have hl : lv_has ls 2 [(0, .ref g0), (1, .int p0)] := hl
  have hS : va_S A s.heap s.heap [] := hS
  refine st_ hP hS (fun H locs hP hS => ?_)
  refine lv_aload_n hx hb d_Z_value_0 rfl (lv_at hl 0 rfl) ?_
  refine lv_iconst (v := 0) hx hb d_Z_value_1 (by decide) ?_
  refine va_put (D := (dC, dI)) (ci := 5) (v := .int 0) (ty := .int) (C := R_Z) (T := F_Z) (N := 26) hx hb hts in_Z t_Z t_Z_ok n_Z hown hK hP hD hS 0 rfl rfl 0 (by decide) (hts (.fieldLink R_Z 33 "TorqueRowsModel" "thrown" "I") mw_182) (fun _ h9 => h9) rfl (by decide +kernel) rfl rfl (Nat.le_of_ble_eq_true rfl) d_Z_value_2 (fun H locs hP hD hS => ?_)
  have hP : va_P (dC, dI) classes [(g0, .inr (5, [.int 0, .ref g1, .ref g2, .int zw, .ref g3, .ref g4, .int zi, .int zb, .int zp, .int zs, .int zc, .int ze, .int zy, .int zu, .int za, .int zf, .long zo, .int zg, .int zm, .int zq, .int zx, .int zh, .long z0, .long z1, .long z2, .long z3])), (g1, .inl (kV, 320, .inl zv)), (g2, .inl (kL, 3, .inl zl)), (g3, .inl (kR, 16, .inl zr)), (g4, .inl (kQ, 16, .inl zd))] H := hP
  have hD : va_D A [(g0, .inr (5, [.int 0, .ref g1, .ref g2, .int zw, .ref g3, .ref g4, .int zi, .int zb, .int zp, .int zs, .int zc, .int ze, .int zy, .int zu, .int za, .int zf, .long zo, .int zg, .int zm, .int zq, .int zx, .int zh, .long z0, .long z1, .long z2, .long z3])), (g1, .inl (kV, 320, .inl zv)), (g2, .inl (kL, 3, .inl zl)), (g3, .inl (kR, 16, .inl zr)), (g4, .inl (kQ, 16, .inl zd))] := hD
  refine lv_iload_n hx hb d_Z_value_5 rfl (lv_at hl 1 rfl) ?_
  by_cases c_1 : p0 = 0
  · refine lv_tableIn (tgt := 52) hx hb d_Z_value_6 (by rw [c_1]; decide) (by rw [c_1]; decide) (by rw [c_1]; rfl) (by decide) ?_
    refine lv_aload_n hx hb d_Z_value_52 rfl (lv_at hl 0 rfl) ?_
    refine va_get (D := (dC, dI)) (ci := 5) (v := .int ze) (C := R_Z) (T := F_Z) (N := 26) hx hb hts in_Z hown hK hP 0 rfl rfl 11 (by decide) (hts (.fieldLink R_Z 82 "TorqueRowsModel" "pedal" "I") mw_187) (fun _ h9 => h9) rfl d_Z_value_53 ?_
    refine lv_i2l (v := (ze.toInt64)) hx hb d_Z_value_56 rfl ?_
    have h9 : va_P (dC, dI) classes [(g0, .inr (5, [.int 0, .ref g1, .ref g2, .int zw, .ref g3, .ref g4, .int zi, .int zb, .int zp, .int zs, .int zc, .int ze, .int zy, .int zu, .int za, .int zf, .long zo, .int zg, .int zm, .int zq, .int zx, .int zh, .long z0, .long z1, .long z2, .long z3])), (g1, .inl (kV, 320, .inl zv)), (g2, .inl (kL, 3, .inl zl)), (g3, .inl (kR, 16, .inl zr)), (g4, .inl (kQ, 16, .inl zd))] H ∧ va_D A [(g0, .inr (5, [.int 0, .ref g1, .ref g2, .int zw, .ref g3, .ref g4, .int zi, .int zb, .int zp, .int zs, .int zc, .int ze, .int zy, .int zu, .int za, .int zf, .long zo, .int zg, .int zm, .int zq, .int zx, .int zh, .long z0, .long z1, .long z2, .long z3])), (g1, .inl (kV, 320, .inl zv)), (g2, .inl (kL, 3, .inl zl)), (g3, .inl (kR, 16, .inl zr)), (g4, .inl (kQ, 16, .inl zd))] := ⟨hP, hD⟩
    exact W.lret (v := (ze.toInt64)) hx hb hr (fun t ht hW => ⟨⟨(ze.toInt64), (), rfl, ((if_pos c_1)).symm, by rw [ht]; exact h9.1, va_K.moved hW.alike hK, h9.2⟩, hS.F ht⟩) hS.2.2 d_Z_value_57
  · by_cases c_2 : p0 = 1
    · refine lv_tableIn (tgt := 58) hx hb d_Z_value_6 (by rw [c_2]; decide) (by rw [c_2]; decide) (by rw [c_2]; rfl) (by decide) ?_
      refine lv_aload_n hx hb d_Z_value_58 rfl (lv_at hl 0 rfl) ?_
      refine va_get (D := (dC, dI)) (ci := 5) (v := .int zu) (C := R_Z) (T := F_Z) (N := 26) hx hb hts in_Z hown hK hP 0 rfl rfl 13 (by decide) (hts (.fieldLink R_Z 53 "TorqueRowsModel" "wanted" "I") mw_172) (fun _ h9 => h9) rfl d_Z_value_59 ?_
      refine lv_i2l (v := (zu.toInt64)) hx hb d_Z_value_62 rfl ?_
      have h9 : va_P (dC, dI) classes [(g0, .inr (5, [.int 0, .ref g1, .ref g2, .int zw, .ref g3, .ref g4, .int zi, .int zb, .int zp, .int zs, .int zc, .int ze, .int zy, .int zu, .int za, .int zf, .long zo, .int zg, .int zm, .int zq, .int zx, .int zh, .long z0, .long z1, .long z2, .long z3])), (g1, .inl (kV, 320, .inl zv)), (g2, .inl (kL, 3, .inl zl)), (g3, .inl (kR, 16, .inl zr)), (g4, .inl (kQ, 16, .inl zd))] H ∧ va_D A [(g0, .inr (5, [.int 0, .ref g1, .ref g2, .int zw, .ref g3, .ref g4, .int zi, .int zb, .int zp, .int zs, .int zc, .int ze, .int zy, .int zu, .int za, .int zf, .long zo, .int zg, .int zm, .int zq, .int zx, .int zh, .long z0, .long z1, .long z2, .long z3])), (g1, .inl (kV, 320, .inl zv)), (g2, .inl (kL, 3, .inl zl)), (g3, .inl (kR, 16, .inl zr)), (g4, .inl (kQ, 16, .inl zd))] := ⟨hP, hD⟩
      exact W.lret (v := (zu.toInt64)) hx hb hr (fun t ht hW => ⟨⟨(zu.toInt64), (), rfl, (((if_neg c_1).trans (if_pos c_2))).symm, by rw [ht]; exact h9.1, va_K.moved hW.alike hK, h9.2⟩, hS.F ht⟩) hS.2.2 d_Z_value_63
    · by_cases c_3 : p0 = 2
      · refine lv_tableIn (tgt := 64) hx hb d_Z_value_6 (by rw [c_3]; decide) (by rw [c_3]; decide) (by rw [c_3]; rfl) (by decide) ?_
        refine lv_aload_n hx hb d_Z_value_64 rfl (lv_at hl 0 rfl) ?_
        refine va_get (D := (dC, dI)) (ci := 5) (v := .int za) (C := R_Z) (T := F_Z) (N := 26) hx hb hts in_Z hown hK hP 0 rfl rfl 14 (by decide) (hts (.fieldLink R_Z 107 "TorqueRowsModel" "air" "I") mw_194) (fun _ h9 => h9) rfl d_Z_value_65 ?_
        refine lv_i2l (v := (za.toInt64)) hx hb d_Z_value_68 rfl ?_
        have h9 : va_P (dC, dI) classes [(g0, .inr (5, [.int 0, .ref g1, .ref g2, .int zw, .ref g3, .ref g4, .int zi, .int zb, .int zp, .int zs, .int zc, .int ze, .int zy, .int zu, .int za, .int zf, .long zo, .int zg, .int zm, .int zq, .int zx, .int zh, .long z0, .long z1, .long z2, .long z3])), (g1, .inl (kV, 320, .inl zv)), (g2, .inl (kL, 3, .inl zl)), (g3, .inl (kR, 16, .inl zr)), (g4, .inl (kQ, 16, .inl zd))] H ∧ va_D A [(g0, .inr (5, [.int 0, .ref g1, .ref g2, .int zw, .ref g3, .ref g4, .int zi, .int zb, .int zp, .int zs, .int zc, .int ze, .int zy, .int zu, .int za, .int zf, .long zo, .int zg, .int zm, .int zq, .int zx, .int zh, .long z0, .long z1, .long z2, .long z3])), (g1, .inl (kV, 320, .inl zv)), (g2, .inl (kL, 3, .inl zl)), (g3, .inl (kR, 16, .inl zr)), (g4, .inl (kQ, 16, .inl zd))] := ⟨hP, hD⟩
        exact W.lret (v := (za.toInt64)) hx hb hr (fun t ht hW => ⟨⟨(za.toInt64), (), rfl, (((if_neg c_1).trans ((if_neg c_2).trans (if_pos c_3)))).symm, by rw [ht]; exact h9.1, va_K.moved hW.alike hK, h9.2⟩, hS.F ht⟩) hS.2.2 d_Z_value_69
      · by_cases c_4 : p0 = 3
        · refine lv_tableIn (tgt := 70) hx hb d_Z_value_6 (by rw [c_4]; decide) (by rw [c_4]; decide) (by rw [c_4]; rfl) (by decide) ?_
          refine lv_aload_n hx hb d_Z_value_70 rfl (lv_at hl 0 rfl) ?_
          refine va_get (D := (dC, dI)) (ci := 5) (v := .int zf) (C := R_Z) (T := F_Z) (N := 26) hx hb hts in_Z hown hK hP 0 rfl rfl 15 (by decide) (hts (.fieldLink R_Z 110 "TorqueRowsModel" "fuel" "I") mw_195) (fun _ h9 => h9) rfl d_Z_value_71 ?_
          refine lv_i2l (v := (zf.toInt64)) hx hb d_Z_value_74 rfl ?_
          have h9 : va_P (dC, dI) classes [(g0, .inr (5, [.int 0, .ref g1, .ref g2, .int zw, .ref g3, .ref g4, .int zi, .int zb, .int zp, .int zs, .int zc, .int ze, .int zy, .int zu, .int za, .int zf, .long zo, .int zg, .int zm, .int zq, .int zx, .int zh, .long z0, .long z1, .long z2, .long z3])), (g1, .inl (kV, 320, .inl zv)), (g2, .inl (kL, 3, .inl zl)), (g3, .inl (kR, 16, .inl zr)), (g4, .inl (kQ, 16, .inl zd))] H ∧ va_D A [(g0, .inr (5, [.int 0, .ref g1, .ref g2, .int zw, .ref g3, .ref g4, .int zi, .int zb, .int zp, .int zs, .int zc, .int ze, .int zy, .int zu, .int za, .int zf, .long zo, .int zg, .int zm, .int zq, .int zx, .int zh, .long z0, .long z1, .long z2, .long z3])), (g1, .inl (kV, 320, .inl zv)), (g2, .inl (kL, 3, .inl zl)), (g3, .inl (kR, 16, .inl zr)), (g4, .inl (kQ, 16, .inl zd))] := ⟨hP, hD⟩
          exact W.lret (v := (zf.toInt64)) hx hb hr (fun t ht hW => ⟨⟨(zf.toInt64), (), rfl, (((if_neg c_1).trans ((if_neg c_2).trans ((if_neg c_3).trans (if_pos c_4))))).symm, by rw [ht]; exact h9.1, va_K.moved hW.alike hK, h9.2⟩, hS.F ht⟩) hS.2.2 d_Z_value_75
        · by_cases c_5 : p0 = 4
          · refine lv_tableIn (tgt := 76) hx hb d_Z_value_6 (by rw [c_5]; decide) (by rw [c_5]; decide) (by rw [c_5]; rfl) (by decide) ?_
            refine lv_aload_n hx hb d_Z_value_76 rfl (lv_at hl 0 rfl) ?_
            refine va_get (D := (dC, dI)) (ci := 5) (v := .long zo) (C := R_Z) (T := F_Z) (N := 26) hx hb hts in_Z hown hK hP 0 rfl rfl 16 (by decide) (hts (.fieldLink R_Z 61 "TorqueRowsModel" "stored" "J") mw_176) (fun _ h9 => h9) rfl d_Z_value_77 ?_
            have h9 : va_P (dC, dI) classes [(g0, .inr (5, [.int 0, .ref g1, .ref g2, .int zw, .ref g3, .ref g4, .int zi, .int zb, .int zp, .int zs, .int zc, .int ze, .int zy, .int zu, .int za, .int zf, .long zo, .int zg, .int zm, .int zq, .int zx, .int zh, .long z0, .long z1, .long z2, .long z3])), (g1, .inl (kV, 320, .inl zv)), (g2, .inl (kL, 3, .inl zl)), (g3, .inl (kR, 16, .inl zr)), (g4, .inl (kQ, 16, .inl zd))] H ∧ va_D A [(g0, .inr (5, [.int 0, .ref g1, .ref g2, .int zw, .ref g3, .ref g4, .int zi, .int zb, .int zp, .int zs, .int zc, .int ze, .int zy, .int zu, .int za, .int zf, .long zo, .int zg, .int zm, .int zq, .int zx, .int zh, .long z0, .long z1, .long z2, .long z3])), (g1, .inl (kV, 320, .inl zv)), (g2, .inl (kL, 3, .inl zl)), (g3, .inl (kR, 16, .inl zr)), (g4, .inl (kQ, 16, .inl zd))] := ⟨hP, hD⟩
            exact W.lret (v := zo) hx hb hr (fun t ht hW => ⟨⟨zo, (), rfl, (((if_neg c_1).trans ((if_neg c_2).trans ((if_neg c_3).trans ((if_neg c_4).trans (if_pos c_5)))))).symm, by rw [ht]; exact h9.1, va_K.moved hW.alike hK, h9.2⟩, hS.F ht⟩) hS.2.2 d_Z_value_80
          · by_cases c_6 : p0 = 5
            · refine lv_tableIn (tgt := 81) hx hb d_Z_value_6 (by rw [c_6]; decide) (by rw [c_6]; decide) (by rw [c_6]; rfl) (by decide) ?_
              refine lv_aload_n hx hb d_Z_value_81 rfl (lv_at hl 0 rfl) ?_
              refine va_get (D := (dC, dI)) (ci := 5) (v := .int zg) (C := R_Z) (T := F_Z) (N := 26) hx hb hts in_Z hown hK hP 0 rfl rfl 17 (by decide) (hts (.fieldLink R_Z 75 "TorqueRowsModel" "different" "I") mw_185) (fun _ h9 => h9) rfl d_Z_value_82 ?_
              refine lv_i2l (v := (zg.toInt64)) hx hb d_Z_value_85 rfl ?_
              have h9 : va_P (dC, dI) classes [(g0, .inr (5, [.int 0, .ref g1, .ref g2, .int zw, .ref g3, .ref g4, .int zi, .int zb, .int zp, .int zs, .int zc, .int ze, .int zy, .int zu, .int za, .int zf, .long zo, .int zg, .int zm, .int zq, .int zx, .int zh, .long z0, .long z1, .long z2, .long z3])), (g1, .inl (kV, 320, .inl zv)), (g2, .inl (kL, 3, .inl zl)), (g3, .inl (kR, 16, .inl zr)), (g4, .inl (kQ, 16, .inl zd))] H ∧ va_D A [(g0, .inr (5, [.int 0, .ref g1, .ref g2, .int zw, .ref g3, .ref g4, .int zi, .int zb, .int zp, .int zs, .int zc, .int ze, .int zy, .int zu, .int za, .int zf, .long zo, .int zg, .int zm, .int zq, .int zx, .int zh, .long z0, .long z1, .long z2, .long z3])), (g1, .inl (kV, 320, .inl zv)), (g2, .inl (kL, 3, .inl zl)), (g3, .inl (kR, 16, .inl zr)), (g4, .inl (kQ, 16, .inl zd))] := ⟨hP, hD⟩
              exact W.lret (v := (zg.toInt64)) hx hb hr (fun t ht hW => ⟨⟨(zg.toInt64), (), rfl, (((if_neg c_1).trans ((if_neg c_2).trans ((if_neg c_3).trans ((if_neg c_4).trans ((if_neg c_5).trans (if_pos c_6))))))).symm, by rw [ht]; exact h9.1, va_K.moved hW.alike hK, h9.2⟩, hS.F ht⟩) hS.2.2 d_Z_value_86
            · by_cases c_7 : p0 = 6
              · refine lv_tableIn (tgt := 87) hx hb d_Z_value_6 (by rw [c_7]; decide) (by rw [c_7]; decide) (by rw [c_7]; rfl) (by decide) ?_
                refine lv_aload_n hx hb d_Z_value_87 rfl (lv_at hl 0 rfl) ?_
                refine va_get (D := (dC, dI)) (ci := 5) (v := .int zm) (C := R_Z) (T := F_Z) (N := 26) hx hb hts in_Z hown hK hP 0 rfl rfl 18 (by decide) (hts (.fieldLink R_Z 88 "TorqueRowsModel" "mode" "I") mw_189) (fun _ h9 => h9) rfl d_Z_value_88 ?_
                refine lv_i2l (v := (zm.toInt64)) hx hb d_Z_value_91 rfl ?_
                have h9 : va_P (dC, dI) classes [(g0, .inr (5, [.int 0, .ref g1, .ref g2, .int zw, .ref g3, .ref g4, .int zi, .int zb, .int zp, .int zs, .int zc, .int ze, .int zy, .int zu, .int za, .int zf, .long zo, .int zg, .int zm, .int zq, .int zx, .int zh, .long z0, .long z1, .long z2, .long z3])), (g1, .inl (kV, 320, .inl zv)), (g2, .inl (kL, 3, .inl zl)), (g3, .inl (kR, 16, .inl zr)), (g4, .inl (kQ, 16, .inl zd))] H ∧ va_D A [(g0, .inr (5, [.int 0, .ref g1, .ref g2, .int zw, .ref g3, .ref g4, .int zi, .int zb, .int zp, .int zs, .int zc, .int ze, .int zy, .int zu, .int za, .int zf, .long zo, .int zg, .int zm, .int zq, .int zx, .int zh, .long z0, .long z1, .long z2, .long z3])), (g1, .inl (kV, 320, .inl zv)), (g2, .inl (kL, 3, .inl zl)), (g3, .inl (kR, 16, .inl zr)), (g4, .inl (kQ, 16, .inl zd))] := ⟨hP, hD⟩
                exact W.lret (v := (zm.toInt64)) hx hb hr (fun t ht hW => ⟨⟨(zm.toInt64), (), rfl, (((if_neg c_1).trans ((if_neg c_2).trans ((if_neg c_3).trans ((if_neg c_4).trans ((if_neg c_5).trans ((if_neg c_6).trans (if_pos c_7)))))))).symm, by rw [ht]; exact h9.1, va_K.moved hW.alike hK, h9.2⟩, hS.F ht⟩) hS.2.2 d_Z_value_92
              · by_cases c_8 : p0 = 7
                · refine lv_tableIn (tgt := 93) hx hb d_Z_value_6 (by rw [c_8]; decide) (by rw [c_8]; decide) (by rw [c_8]; rfl) (by decide) ?_
                  refine lv_aload_n hx hb d_Z_value_93 rfl (lv_at hl 0 rfl) ?_
                  refine va_get (D := (dC, dI)) (ci := 5) (v := .int zy) (C := R_Z) (T := F_Z) (N := 26) hx hb hts in_Z hown hK hP 0 rfl rfl 12 (by decide) (hts (.fieldLink R_Z 56 "TorqueRowsModel" "speed" "I") mw_174) (fun _ h9 => h9) rfl d_Z_value_94 ?_
                  refine lv_i2l (v := (zy.toInt64)) hx hb d_Z_value_97 rfl ?_
                  have h9 : va_P (dC, dI) classes [(g0, .inr (5, [.int 0, .ref g1, .ref g2, .int zw, .ref g3, .ref g4, .int zi, .int zb, .int zp, .int zs, .int zc, .int ze, .int zy, .int zu, .int za, .int zf, .long zo, .int zg, .int zm, .int zq, .int zx, .int zh, .long z0, .long z1, .long z2, .long z3])), (g1, .inl (kV, 320, .inl zv)), (g2, .inl (kL, 3, .inl zl)), (g3, .inl (kR, 16, .inl zr)), (g4, .inl (kQ, 16, .inl zd))] H ∧ va_D A [(g0, .inr (5, [.int 0, .ref g1, .ref g2, .int zw, .ref g3, .ref g4, .int zi, .int zb, .int zp, .int zs, .int zc, .int ze, .int zy, .int zu, .int za, .int zf, .long zo, .int zg, .int zm, .int zq, .int zx, .int zh, .long z0, .long z1, .long z2, .long z3])), (g1, .inl (kV, 320, .inl zv)), (g2, .inl (kL, 3, .inl zl)), (g3, .inl (kR, 16, .inl zr)), (g4, .inl (kQ, 16, .inl zd))] := ⟨hP, hD⟩
                  exact W.lret (v := (zy.toInt64)) hx hb hr (fun t ht hW => ⟨⟨(zy.toInt64), (), rfl, (((if_neg c_1).trans ((if_neg c_2).trans ((if_neg c_3).trans ((if_neg c_4).trans ((if_neg c_5).trans ((if_neg c_6).trans ((if_neg c_7).trans (if_pos c_8))))))))).symm, by rw [ht]; exact h9.1, va_K.moved hW.alike hK, h9.2⟩, hS.F ht⟩) hS.2.2 d_Z_value_98
                · have t_c_1 := lv_neT (a := 0) c_1 (by decide)
                  have t_c_2 := lv_neT (a := 1) c_2 (by decide)
                  have t_c_3 := lv_neT (a := 2) c_3 (by decide)
                  have t_c_4 := lv_neT (a := 3) c_4 (by decide)
                  have t_c_5 := lv_neT (a := 4) c_5 (by decide)
                  have t_c_6 := lv_neT (a := 5) c_6 (by decide)
                  have t_c_7 := lv_neT (a := 6) c_7 (by decide)
                  have t_c_8 := lv_neT (a := 7) c_8 (by decide)
                  refine lv_tableOut (tgt := 99) hx hb d_Z_value_6 (by omega) (by decide) ?_
                  refine lv_ldc2 (v := (-2)) hx hb hown (hts (.constantLong R_Z 125 (-2)) mw_212) d_Z_value_99 ?_
                  have h9 : va_P (dC, dI) classes [(g0, .inr (5, [.int 0, .ref g1, .ref g2, .int zw, .ref g3, .ref g4, .int zi, .int zb, .int zp, .int zs, .int zc, .int ze, .int zy, .int zu, .int za, .int zf, .long zo, .int zg, .int zm, .int zq, .int zx, .int zh, .long z0, .long z1, .long z2, .long z3])), (g1, .inl (kV, 320, .inl zv)), (g2, .inl (kL, 3, .inl zl)), (g3, .inl (kR, 16, .inl zr)), (g4, .inl (kQ, 16, .inl zd))] H ∧ va_D A [(g0, .inr (5, [.int 0, .ref g1, .ref g2, .int zw, .ref g3, .ref g4, .int zi, .int zb, .int zp, .int zs, .int zc, .int ze, .int zy, .int zu, .int za, .int zf, .long zo, .int zg, .int zm, .int zq, .int zx, .int zh, .long z0, .long z1, .long z2, .long z3])), (g1, .inl (kV, 320, .inl zv)), (g2, .inl (kL, 3, .inl zl)), (g3, .inl (kR, 16, .inl zr)), (g4, .inl (kQ, 16, .inl zd))] := ⟨hP, hD⟩
                  exact W.lret (v := (-2)) hx hb hr (fun t ht hW => ⟨⟨(-2), (), rfl, (((if_neg c_1).trans ((if_neg c_2).trans ((if_neg c_3).trans ((if_neg c_4).trans ((if_neg c_5).trans ((if_neg c_6).trans ((if_neg c_7).trans (if_neg c_8))))))))).symm, by rw [ht]; exact h9.1, va_K.moved hW.alike hK, h9.2⟩, hS.F ht⟩) hS.2.2 d_Z_value_102
set_option maxHeartbeats 4000000 in
set_option maxRecDepth 100000 in
theorem c_Z_init (l : Launch) (dC : Nat → ClassId) (dI : Nat → Nat → Nat) (g0 : Nat) (sz : Nat) : Met l y_Z_init w_Z_init { frames := 1, cells := 4, slots := 355, locals := 20 } (va_Pc [.ref g0] (pr_ (dC, dI) [(g0, .inr (5, [.int 0, .null, .null, .int 0, .null, .null, .int 0, .int 0, .int 0, .int 0, .int 0, .int 0, .int 0, .int 0, .int 0, .int 0, .long 0, .int 0, .int 0, .int 0, .int 0, .int 0, .long 0, .long 0, .long 0, .long 0]))] [] sz)) (va_Qv (fun (_ : Unit) => True) (fun _ t => ∃ (qx0 : Nat), ∃ (kx0 : ClassId), ∃ (qx1 : Nat), ∃ (kx1 : ClassId), ∃ (qx2 : Nat), ∃ (kx2 : ClassId), ∃ (qx3 : Nat), ∃ (kx3 : ClassId), at_ (dC, dI) (va_A [(g0, .inr (5, [.int 0, .null, .null, .int 0, .null, .null, .int 0, .int 0, .int 0, .int 0, .int 0, .int 0, .int 0, .int 0, .int 0, .int 0, .long 0, .int 0, .int 0, .int 0, .int 0, .int 0, .long 0, .long 0, .long 0, .long 0]))] sz) [(g0, .inr (5, [.int 0, .ref qx0, .ref qx1, .int 0, .ref qx2, .ref qx3, .int 800, .int 1000, .int 0, .int 0, .int 4, .int 0, .int 0, .int 0, .int 0, .int 0, .long 0, .int 0, .int 0, .int 0, .int 0, .int 0, .long 0, .long 0, .long 0, .long 0])), (qx0, .inl (kx0, 320, .inl (fun _ => 0))), (qx1, .inl (kx1, 3, .inl (fun _ => 0))), (qx2, .inl (kx2, 16, .inl (fun _ => 0))), (qx3, .inl (kx3, 16, .inl (fun _ => 0)))] [(kx0, .int), (kx1, .boolean), (kx2, .int), (kx3, .int)] t) (va_A [(g0, .inr (5, [.int 0, .null, .null, .int 0, .null, .null, .int 0, .int 0, .int 0, .int 0, .int 0, .int 0, .int 0, .int 0, .int 0, .int 0, .long 0, .int 0, .int 0, .int 0, .int 0, .int 0, .long 0, .long 0, .long 0, .long 0]))] sz)) 4 355 (va_A [(g0, .inr (5, [.int 0, .null, .null, .int 0, .null, .null, .int 0, .int 0, .int 0, .int 0, .int 0, .int 0, .int 0, .int 0, .int 0, .int 0, .long 0, .int 0, .int 0, .int 0, .int 0, .int 0, .long 0, .long 0, .long 0, .long 0]))] sz) := by
  refine Met.ofW (cc := b_Z_init) (maxL := 1) (ret := none) (by decide) rfl ?_
  intro p e s m args below meth c s₁ B hml hv
  obtain ⟨rfl, hsz, hP, hK, hD0, hN⟩ := hv
  have hx := B.exec
  have hb := B.bytes
  have hr := B.returns
  have hts0 := atoms_spec (ws := w_Z_init) B.pre
  have hts : ∀ w ∈ wA_, w.before _ s = true := fun w h => hts0 w (List.mem_cons_of_mem _ h)
  have hown : s.vm.findClass R_Z = some m.cls := findClass_of_methodNamed B.named
  have hlocks := B.notSynchronized
  have hin : meth.name = "<init>" := (name_of_methodNamed B.named B.method).1
  subst hsz
  have hD := hD0.self (sz := s.heap.size)
  generalize hAe : va_A [(g0, .inr (5, [.int 0, .null, .null, .int 0, .null, .null, .int 0, .int 0, .int 0, .int 0, .int 0, .int 0, .int 0, .int 0, .int 0, .int 0, .long 0, .int 0, .int 0, .int 0, .int 0, .int 0, .long 0, .long 0, .long 0, .long 0]))] s.heap.size = A at hD ⊢
  have hA : ∀ q : Nat, s.heap.size ≤ q → A q := fun q h => by rw [← hAe]; exact Or.inr h
  have hS : va_S A s.heap s.heap [] := va_S.rf
  have hP : va_P (dC, dI) classes [(g0, .inr (5, [.int 0, .null, .null, .int 0, .null, .null, .int 0, .int 0, .int 0, .int 0, .int 0, .int 0, .int 0, .int 0, .int 0, .int 0, .long 0, .int 0, .int 0, .int 0, .int 0, .int 0, .long 0, .long 0, .long 0, .long 0]))] s.heap := hP
  have hl := lv_entry ([.ref g0]) (n := 1) (Nat.le_of_ble_eq_true rfl)
  rw [lg_entry_eq]
  generalize (lg_sl ([.ref g0]) ++ List.replicate (1 - (lg_sl ([.ref g0])).length) Slot.unset).toArray = ls at hl ⊢
  have hl : lv_has ls 1 [(0, .ref g0)] := hl
  have hS : va_S A s.heap s.heap [] := hS
  refine st_ hP hS (fun H locs hP hS => ?_)
  refine lv_aload_n hx hb d_Z_init_0 rfl (lv_at hl 0 rfl) ?_
  refine W.objInit hx hb hown (hts (.methodLink R_Z 1 Lib.objectInit) mw_219) (hts (.instanceMethod Lib.objectInit) mw_136) (hts (.code Lib.objectInit ⟨#[0xb1]⟩ 1 none) mw_137) rfl (by rw [hml]; exact hl.1) rfl d_Z_init_1 (Nat.le_of_ble_eq_true rfl) (Nat.le_of_ble_eq_true rfl) ?_
  refine W.eq (g2 := F0 m 4 ls []) rfl ?_
  refine lv_aload_n hx hb d_Z_init_4 rfl (lv_at hl 0 rfl) ?_
  refine lv_sipush (v := 320) hx hb d_Z_init_5 (by decide) ?_
  refine va_newa (atype := .int) (N' := 320) (a0 := (320, .inl (fun _ => 0))) (ty := .int) (n := 320) hx hb (hts (.arrayClass .int) mw_138) rfl hK hP hD hS hA (fun _ => rfl) (by decide) (by decide) (by decide) (Nat.le_of_ble_eq_true rfl) (Nat.le_of_ble_eq_true rfl) d_Z_init_8 (fun qx0 kx0 H hK hP hD hS => ?_)
  have hP : va_P (dC, dI) classes [(g0, .inr (5, [.int 0, .null, .null, .int 0, .null, .null, .int 0, .int 0, .int 0, .int 0, .int 0, .int 0, .int 0, .int 0, .int 0, .int 0, .long 0, .int 0, .int 0, .int 0, .int 0, .int 0, .long 0, .long 0, .long 0, .long 0])), (qx0, .inl (kx0, 320, .inl (fun _ => 0)))] H := hP
  have hD : va_D A [(g0, .inr (5, [.int 0, .null, .null, .int 0, .null, .null, .int 0, .int 0, .int 0, .int 0, .int 0, .int 0, .int 0, .int 0, .int 0, .int 0, .long 0, .int 0, .int 0, .int 0, .int 0, .int 0, .long 0, .long 0, .long 0, .long 0])), (qx0, .inl (kx0, 320, .inl (fun _ => 0)))] := hD
  have hK : va_K (dC, dI) classes [(kx0, .int)] s := hK
  refine W.widen (k := 1) (n := 320) (Nat.le_of_ble_eq_true rfl) (Nat.le_of_ble_eq_true rfl) ?_
  refine va_putF (D := (dC, dI)) (ci := 5) (v := .ref qx0) (ty := (.array .int)) (C := R_Z) (T := F_Z) (N := 26) hx hb hts in_Z t_Z t_Z_ok n_Z hown hK hP hD hS 0 rfl rfl 1 (by decide) (hts (.fieldLink R_Z 7 "TorqueRowsModel" "values" "[I") mw_161) (fun _ h9 => h9) rfl hin rfl (by decide +kernel) rfl rfl (Nat.le_of_ble_eq_true rfl) d_Z_init_10 (fun H locs hP hD hS => ?_)
  have hP : va_P (dC, dI) classes [(g0, .inr (5, [.int 0, .ref qx0, .null, .int 0, .null, .null, .int 0, .int 0, .int 0, .int 0, .int 0, .int 0, .int 0, .int 0, .int 0, .int 0, .long 0, .int 0, .int 0, .int 0, .int 0, .int 0, .long 0, .long 0, .long 0, .long 0])), (qx0, .inl (kx0, 320, .inl (fun _ => 0)))] H := hP
  have hD : va_D A [(g0, .inr (5, [.int 0, .ref qx0, .null, .int 0, .null, .null, .int 0, .int 0, .int 0, .int 0, .int 0, .int 0, .int 0, .int 0, .int 0, .int 0, .long 0, .int 0, .int 0, .int 0, .int 0, .int 0, .long 0, .long 0, .long 0, .long 0])), (qx0, .inl (kx0, 320, .inl (fun _ => 0)))] := hD
  refine lv_aload_n hx hb d_Z_init_13 rfl (lv_at hl 0 rfl) ?_
  refine lv_iconst (v := 3) hx hb d_Z_init_14 (by decide) ?_
  refine va_newa (atype := .boolean) (N' := 3) (a0 := (3, .inl (fun _ => 0))) (ty := .boolean) (n := 3) hx hb (hts (.arrayClass .boolean) mw_152) rfl hK hP hD hS hA (fun _ => rfl) (by decide) (by decide) (by decide) (Nat.le_of_ble_eq_true rfl) (Nat.le_of_ble_eq_true rfl) d_Z_init_15 (fun qx1 kx1 H hK hP hD hS => ?_)
  have hP : va_P (dC, dI) classes [(g0, .inr (5, [.int 0, .ref qx0, .null, .int 0, .null, .null, .int 0, .int 0, .int 0, .int 0, .int 0, .int 0, .int 0, .int 0, .int 0, .int 0, .long 0, .int 0, .int 0, .int 0, .int 0, .int 0, .long 0, .long 0, .long 0, .long 0])), (qx0, .inl (kx0, 320, .inl (fun _ => 0))), (qx1, .inl (kx1, 3, .inl (fun _ => 0)))] H := hP
  have hD : va_D A [(g0, .inr (5, [.int 0, .ref qx0, .null, .int 0, .null, .null, .int 0, .int 0, .int 0, .int 0, .int 0, .int 0, .int 0, .int 0, .int 0, .int 0, .long 0, .int 0, .int 0, .int 0, .int 0, .int 0, .long 0, .long 0, .long 0, .long 0])), (qx0, .inl (kx0, 320, .inl (fun _ => 0))), (qx1, .inl (kx1, 3, .inl (fun _ => 0)))] := hD
  have hK : va_K (dC, dI) classes [(kx0, .int), (kx1, .boolean)] s := hK
  refine W.widen (k := 2) (n := 323) (Nat.le_of_ble_eq_true rfl) (Nat.le_of_ble_eq_true rfl) ?_
  refine va_putF (D := (dC, dI)) (ci := 5) (v := .ref qx1) (ty := (.array .boolean)) (C := R_Z) (T := F_Z) (N := 26) hx hb hts in_Z t_Z t_Z_ok n_Z hown hK hP hD hS 0 rfl rfl 2 (by decide) (hts (.fieldLink R_Z 13 "TorqueRowsModel" "lost" "[Z") mw_184) (fun _ h9 => h9) rfl hin rfl (by decide +kernel) rfl rfl (Nat.le_of_ble_eq_true rfl) d_Z_init_17 (fun H locs hP hD hS => ?_)
  have hP : va_P (dC, dI) classes [(g0, .inr (5, [.int 0, .ref qx0, .ref qx1, .int 0, .null, .null, .int 0, .int 0, .int 0, .int 0, .int 0, .int 0, .int 0, .int 0, .int 0, .int 0, .long 0, .int 0, .int 0, .int 0, .int 0, .int 0, .long 0, .long 0, .long 0, .long 0])), (qx0, .inl (kx0, 320, .inl (fun _ => 0))), (qx1, .inl (kx1, 3, .inl (fun _ => 0)))] H := hP
  have hD : va_D A [(g0, .inr (5, [.int 0, .ref qx0, .ref qx1, .int 0, .null, .null, .int 0, .int 0, .int 0, .int 0, .int 0, .int 0, .int 0, .int 0, .int 0, .int 0, .long 0, .int 0, .int 0, .int 0, .int 0, .int 0, .long 0, .long 0, .long 0, .long 0])), (qx0, .inl (kx0, 320, .inl (fun _ => 0))), (qx1, .inl (kx1, 3, .inl (fun _ => 0)))] := hD
  refine lv_aload_n hx hb d_Z_init_20 rfl (lv_at hl 0 rfl) ?_
  refine lv_bipush (v := 16) hx hb d_Z_init_21 (by decide) ?_
  refine va_newa (atype := .int) (N' := 16) (a0 := (16, .inl (fun _ => 0))) (ty := .int) (n := 16) hx hb (hts (.arrayClass .int) mw_138) rfl hK hP hD hS hA (fun _ => rfl) (by decide) (by decide) (by decide) (Nat.le_of_ble_eq_true rfl) (Nat.le_of_ble_eq_true rfl) d_Z_init_23 (fun qx2 kx2 H hK hP hD hS => ?_)
  have hP : va_P (dC, dI) classes [(g0, .inr (5, [.int 0, .ref qx0, .ref qx1, .int 0, .null, .null, .int 0, .int 0, .int 0, .int 0, .int 0, .int 0, .int 0, .int 0, .int 0, .int 0, .long 0, .int 0, .int 0, .int 0, .int 0, .int 0, .long 0, .long 0, .long 0, .long 0])), (qx0, .inl (kx0, 320, .inl (fun _ => 0))), (qx1, .inl (kx1, 3, .inl (fun _ => 0))), (qx2, .inl (kx2, 16, .inl (fun _ => 0)))] H := hP
  have hD : va_D A [(g0, .inr (5, [.int 0, .ref qx0, .ref qx1, .int 0, .null, .null, .int 0, .int 0, .int 0, .int 0, .int 0, .int 0, .int 0, .int 0, .int 0, .int 0, .long 0, .int 0, .int 0, .int 0, .int 0, .int 0, .long 0, .long 0, .long 0, .long 0])), (qx0, .inl (kx0, 320, .inl (fun _ => 0))), (qx1, .inl (kx1, 3, .inl (fun _ => 0))), (qx2, .inl (kx2, 16, .inl (fun _ => 0)))] := hD
  have hK : va_K (dC, dI) classes [(kx0, .int), (kx1, .boolean), (kx2, .int)] s := hK
  refine W.widen (k := 3) (n := 339) (Nat.le_of_ble_eq_true rfl) (Nat.le_of_ble_eq_true rfl) ?_
  refine va_putF (D := (dC, dI)) (ci := 5) (v := .ref qx2) (ty := (.array .int)) (C := R_Z) (T := F_Z) (N := 26) hx hb hts in_Z t_Z t_Z_ok n_Z hown hK hP hD hS 0 rfl rfl 4 (by decide) (hts (.fieldLink R_Z 17 "TorqueRowsModel" "rank" "[I") mw_213) (fun _ h9 => h9) rfl hin rfl (by decide +kernel) rfl rfl (Nat.le_of_ble_eq_true rfl) d_Z_init_25 (fun H locs hP hD hS => ?_)
  have hP : va_P (dC, dI) classes [(g0, .inr (5, [.int 0, .ref qx0, .ref qx1, .int 0, .ref qx2, .null, .int 0, .int 0, .int 0, .int 0, .int 0, .int 0, .int 0, .int 0, .int 0, .int 0, .long 0, .int 0, .int 0, .int 0, .int 0, .int 0, .long 0, .long 0, .long 0, .long 0])), (qx0, .inl (kx0, 320, .inl (fun _ => 0))), (qx1, .inl (kx1, 3, .inl (fun _ => 0))), (qx2, .inl (kx2, 16, .inl (fun _ => 0)))] H := hP
  have hD : va_D A [(g0, .inr (5, [.int 0, .ref qx0, .ref qx1, .int 0, .ref qx2, .null, .int 0, .int 0, .int 0, .int 0, .int 0, .int 0, .int 0, .int 0, .int 0, .int 0, .long 0, .int 0, .int 0, .int 0, .int 0, .int 0, .long 0, .long 0, .long 0, .long 0])), (qx0, .inl (kx0, 320, .inl (fun _ => 0))), (qx1, .inl (kx1, 3, .inl (fun _ => 0))), (qx2, .inl (kx2, 16, .inl (fun _ => 0)))] := hD
  refine lv_aload_n hx hb d_Z_init_28 rfl (lv_at hl 0 rfl) ?_
  refine lv_bipush (v := 16) hx hb d_Z_init_29 (by decide) ?_
  refine va_newa (atype := .int) (N' := 16) (a0 := (16, .inl (fun _ => 0))) (ty := .int) (n := 16) hx hb (hts (.arrayClass .int) mw_138) rfl hK hP hD hS hA (fun _ => rfl) (by decide) (by decide) (by decide) (Nat.le_of_ble_eq_true rfl) (Nat.le_of_ble_eq_true rfl) d_Z_init_31 (fun qx3 kx3 H hK hP hD hS => ?_)
  have hP : va_P (dC, dI) classes [(g0, .inr (5, [.int 0, .ref qx0, .ref qx1, .int 0, .ref qx2, .null, .int 0, .int 0, .int 0, .int 0, .int 0, .int 0, .int 0, .int 0, .int 0, .int 0, .long 0, .int 0, .int 0, .int 0, .int 0, .int 0, .long 0, .long 0, .long 0, .long 0])), (qx0, .inl (kx0, 320, .inl (fun _ => 0))), (qx1, .inl (kx1, 3, .inl (fun _ => 0))), (qx2, .inl (kx2, 16, .inl (fun _ => 0))), (qx3, .inl (kx3, 16, .inl (fun _ => 0)))] H := hP
  have hD : va_D A [(g0, .inr (5, [.int 0, .ref qx0, .ref qx1, .int 0, .ref qx2, .null, .int 0, .int 0, .int 0, .int 0, .int 0, .int 0, .int 0, .int 0, .int 0, .int 0, .long 0, .int 0, .int 0, .int 0, .int 0, .int 0, .long 0, .long 0, .long 0, .long 0])), (qx0, .inl (kx0, 320, .inl (fun _ => 0))), (qx1, .inl (kx1, 3, .inl (fun _ => 0))), (qx2, .inl (kx2, 16, .inl (fun _ => 0))), (qx3, .inl (kx3, 16, .inl (fun _ => 0)))] := hD
  have hK : va_K (dC, dI) classes [(kx0, .int), (kx1, .boolean), (kx2, .int), (kx3, .int)] s := hK
  refine W.widen (k := 4) (n := 355) (Nat.le_of_ble_eq_true rfl) (Nat.le_of_ble_eq_true rfl) ?_
  refine va_putF (D := (dC, dI)) (ci := 5) (v := .ref qx3) (ty := (.array .int)) (C := R_Z) (T := F_Z) (N := 26) hx hb hts in_Z t_Z t_Z_ok n_Z hown hK hP hD hS 0 rfl rfl 5 (by decide) (hts (.fieldLink R_Z 20 "TorqueRowsModel" "wished" "[I") mw_214) (fun _ h9 => h9) rfl hin rfl (by decide +kernel) rfl rfl (Nat.le_of_ble_eq_true rfl) d_Z_init_33 (fun H locs hP hD hS => ?_)
  have hP : va_P (dC, dI) classes [(g0, .inr (5, [.int 0, .ref qx0, .ref qx1, .int 0, .ref qx2, .ref qx3, .int 0, .int 0, .int 0, .int 0, .int 0, .int 0, .int 0, .int 0, .int 0, .int 0, .long 0, .int 0, .int 0, .int 0, .int 0, .int 0, .long 0, .long 0, .long 0, .long 0])), (qx0, .inl (kx0, 320, .inl (fun _ => 0))), (qx1, .inl (kx1, 3, .inl (fun _ => 0))), (qx2, .inl (kx2, 16, .inl (fun _ => 0))), (qx3, .inl (kx3, 16, .inl (fun _ => 0)))] H := hP
  have hD : va_D A [(g0, .inr (5, [.int 0, .ref qx0, .ref qx1, .int 0, .ref qx2, .ref qx3, .int 0, .int 0, .int 0, .int 0, .int 0, .int 0, .int 0, .int 0, .int 0, .int 0, .long 0, .int 0, .int 0, .int 0, .int 0, .int 0, .long 0, .long 0, .long 0, .long 0])), (qx0, .inl (kx0, 320, .inl (fun _ => 0))), (qx1, .inl (kx1, 3, .inl (fun _ => 0))), (qx2, .inl (kx2, 16, .inl (fun _ => 0))), (qx3, .inl (kx3, 16, .inl (fun _ => 0)))] := hD
  refine lv_aload_n hx hb d_Z_init_36 rfl (lv_at hl 0 rfl) ?_
  refine lv_sipush (v := 800) hx hb d_Z_init_37 (by decide) ?_
  refine va_put (D := (dC, dI)) (ci := 5) (v := .int 800) (ty := .int) (C := R_Z) (T := F_Z) (N := 26) hx hb hts in_Z t_Z t_Z_ok n_Z hown hK hP hD hS 0 rfl rfl 6 (by decide) (hts (.fieldLink R_Z 23 "TorqueRowsModel" "idle" "I") mw_173) (fun _ h9 => h9) rfl (by decide +kernel) rfl rfl (Nat.le_of_ble_eq_true rfl) d_Z_init_40 (fun H locs hP hD hS => ?_)
  have hP : va_P (dC, dI) classes [(g0, .inr (5, [.int 0, .ref qx0, .ref qx1, .int 0, .ref qx2, .ref qx3, .int 800, .int 0, .int 0, .int 0, .int 0, .int 0, .int 0, .int 0, .int 0, .int 0, .long 0, .int 0, .int 0, .int 0, .int 0, .int 0, .long 0, .long 0, .long 0, .long 0])), (qx0, .inl (kx0, 320, .inl (fun _ => 0))), (qx1, .inl (kx1, 3, .inl (fun _ => 0))), (qx2, .inl (kx2, 16, .inl (fun _ => 0))), (qx3, .inl (kx3, 16, .inl (fun _ => 0)))] H := hP
  have hD : va_D A [(g0, .inr (5, [.int 0, .ref qx0, .ref qx1, .int 0, .ref qx2, .ref qx3, .int 800, .int 0, .int 0, .int 0, .int 0, .int 0, .int 0, .int 0, .int 0, .int 0, .long 0, .int 0, .int 0, .int 0, .int 0, .int 0, .long 0, .long 0, .long 0, .long 0])), (qx0, .inl (kx0, 320, .inl (fun _ => 0))), (qx1, .inl (kx1, 3, .inl (fun _ => 0))), (qx2, .inl (kx2, 16, .inl (fun _ => 0))), (qx3, .inl (kx3, 16, .inl (fun _ => 0)))] := hD
  refine lv_aload_n hx hb d_Z_init_43 rfl (lv_at hl 0 rfl) ?_
  refine lv_sipush (v := 1000) hx hb d_Z_init_44 (by decide) ?_
  refine va_put (D := (dC, dI)) (ci := 5) (v := .int 1000) (ty := .int) (C := R_Z) (T := F_Z) (N := 26) hx hb hts in_Z t_Z t_Z_ok n_Z hown hK hP hD hS 0 rfl rfl 7 (by decide) (hts (.fieldLink R_Z 27 "TorqueRowsModel" "bound" "I") mw_191) (fun _ h9 => h9) rfl (by decide +kernel) rfl rfl (Nat.le_of_ble_eq_true rfl) d_Z_init_47 (fun H locs hP hD hS => ?_)
  have hP : va_P (dC, dI) classes [(g0, .inr (5, [.int 0, .ref qx0, .ref qx1, .int 0, .ref qx2, .ref qx3, .int 800, .int 1000, .int 0, .int 0, .int 0, .int 0, .int 0, .int 0, .int 0, .int 0, .long 0, .int 0, .int 0, .int 0, .int 0, .int 0, .long 0, .long 0, .long 0, .long 0])), (qx0, .inl (kx0, 320, .inl (fun _ => 0))), (qx1, .inl (kx1, 3, .inl (fun _ => 0))), (qx2, .inl (kx2, 16, .inl (fun _ => 0))), (qx3, .inl (kx3, 16, .inl (fun _ => 0)))] H := hP
  have hD : va_D A [(g0, .inr (5, [.int 0, .ref qx0, .ref qx1, .int 0, .ref qx2, .ref qx3, .int 800, .int 1000, .int 0, .int 0, .int 0, .int 0, .int 0, .int 0, .int 0, .int 0, .long 0, .int 0, .int 0, .int 0, .int 0, .int 0, .long 0, .long 0, .long 0, .long 0])), (qx0, .inl (kx0, 320, .inl (fun _ => 0))), (qx1, .inl (kx1, 3, .inl (fun _ => 0))), (qx2, .inl (kx2, 16, .inl (fun _ => 0))), (qx3, .inl (kx3, 16, .inl (fun _ => 0)))] := hD
  refine lv_aload_n hx hb d_Z_init_50 rfl (lv_at hl 0 rfl) ?_
  refine lv_iconst (v := 4) hx hb d_Z_init_51 (by decide) ?_
  refine va_put (D := (dC, dI)) (ci := 5) (v := .int 4) (ty := .int) (C := R_Z) (T := F_Z) (N := 26) hx hb hts in_Z t_Z t_Z_ok n_Z hown hK hP hD hS 0 rfl rfl 10 (by decide) (hts (.fieldLink R_Z 30 "TorqueRowsModel" "cylinders" "I") mw_216) (fun _ h9 => h9) rfl (by decide +kernel) rfl rfl (Nat.le_of_ble_eq_true rfl) d_Z_init_52 (fun H locs hP hD hS => ?_)
  have hP : va_P (dC, dI) classes [(g0, .inr (5, [.int 0, .ref qx0, .ref qx1, .int 0, .ref qx2, .ref qx3, .int 800, .int 1000, .int 0, .int 0, .int 4, .int 0, .int 0, .int 0, .int 0, .int 0, .long 0, .int 0, .int 0, .int 0, .int 0, .int 0, .long 0, .long 0, .long 0, .long 0])), (qx0, .inl (kx0, 320, .inl (fun _ => 0))), (qx1, .inl (kx1, 3, .inl (fun _ => 0))), (qx2, .inl (kx2, 16, .inl (fun _ => 0))), (qx3, .inl (kx3, 16, .inl (fun _ => 0)))] H := hP
  have hD : va_D A [(g0, .inr (5, [.int 0, .ref qx0, .ref qx1, .int 0, .ref qx2, .ref qx3, .int 800, .int 1000, .int 0, .int 0, .int 4, .int 0, .int 0, .int 0, .int 0, .int 0, .long 0, .int 0, .int 0, .int 0, .int 0, .int 0, .long 0, .long 0, .long 0, .long 0])), (qx0, .inl (kx0, 320, .inl (fun _ => 0))), (qx1, .inl (kx1, 3, .inl (fun _ => 0))), (qx2, .inl (kx2, 16, .inl (fun _ => 0))), (qx3, .inl (kx3, 16, .inl (fun _ => 0)))] := hD
  have h9 : va_P (dC, dI) classes [(g0, .inr (5, [.int 0, .ref qx0, .ref qx1, .int 0, .ref qx2, .ref qx3, .int 800, .int 1000, .int 0, .int 0, .int 4, .int 0, .int 0, .int 0, .int 0, .int 0, .long 0, .int 0, .int 0, .int 0, .int 0, .int 0, .long 0, .long 0, .long 0, .long 0])), (qx0, .inl (kx0, 320, .inl (fun _ => 0))), (qx1, .inl (kx1, 3, .inl (fun _ => 0))), (qx2, .inl (kx2, 16, .inl (fun _ => 0))), (qx3, .inl (kx3, 16, .inl (fun _ => 0)))] H ∧ va_D A [(g0, .inr (5, [.int 0, .ref qx0, .ref qx1, .int 0, .ref qx2, .ref qx3, .int 800, .int 1000, .int 0, .int 0, .int 4, .int 0, .int 0, .int 0, .int 0, .int 0, .long 0, .int 0, .int 0, .int 0, .int 0, .int 0, .long 0, .long 0, .long 0, .long 0])), (qx0, .inl (kx0, 320, .inl (fun _ => 0))), (qx1, .inl (kx1, 3, .inl (fun _ => 0))), (qx2, .inl (kx2, 16, .inl (fun _ => 0))), (qx3, .inl (kx3, 16, .inl (fun _ => 0)))] := ⟨hP, hD⟩
  exact W.vret hx hb hr (fun t ht hW => ⟨⟨(), rfl, trivial, qx0, kx0, qx1, kx1, qx2, kx2, qx3, kx3, by rw [ht]; exact h9.1, va_K.moved hW.alike hK, h9.2⟩, hS.F ht⟩) hS.2.2 d_Z_init_55
