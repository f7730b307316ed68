set_option maxHeartbeats 4000000 in
set_option maxRecDepth 100000 in
theorem c_Ta_isPlace (l : Launch) (dC : Nat → ClassId) (dI : Nat → Nat → Nat) (sz : Nat) (p0 : Int32) (p1 : Int32) : Met l y_Ta_isPlace w_Ta_isPlace { frames := 0, cells := 0, slots := 0, locals := 0 } (va_Pc [.int p0, .int p1] (pr_ (dC, dI) [] [] sz)) (va_Qi (fun r (_ : Unit) => r = (fTa_isPlace p0 p1)) (fun _ t => at_ (dC, dI) (va_A [] sz) [] [] t) (va_A [] sz)) 0 0 (va_A [] sz) := by
  refine Met.ofW (cc := b_Ta_isPlace) (maxL := 2) (ret := (some .boolean)) (by decide) rfl ?_
  intro p e s m args below meth c s₁ B hml hv
  obtain ⟨rfl, hsz, hP, hK, hD0, hN⟩ := hv
  have hx := B.exec
  have hb := B.bytes
  have hr := B.returns
  have hts0 := atoms_spec (ws := w_Ta_isPlace) B.pre
  have hts : ∀ w ∈ wA_, w.before _ s = true := fun w h => hts0 w (List.mem_cons_of_mem _ h)
  have hown : s.vm.findClass R_Ta = some m.cls := findClass_of_methodNamed B.named
  have hlocks := B.notSynchronized
  subst hsz
  have hD := hD0.self (sz := s.heap.size)
  generalize hAe : va_A [] s.heap.size = A at hD ⊢
  have hA : ∀ q : Nat, s.heap.size ≤ q → A q := fun q h => by rw [← hAe]; exact Or.inr h
  have hS : va_S A s.heap s.heap [] := va_S.rf
  have hP : va_P (dC, dI) classes [] s.heap := hP
  have hl := lv_entry ([.int p0, .int p1]) (n := 2) (Nat.le_of_ble_eq_true rfl)
  rw [lg_entry_eq]
  generalize (lg_sl ([.int p0, .int p1]) ++ List.replicate (2 - (lg_sl ([.int p0, .int p1])).length) Slot.unset).toArray = ls at hl ⊢
  have hl : lv_has ls 2 [(0, .int p0), (1, .int p1)] := hl
  have hS : va_S A s.heap s.heap [] := hS
  refine st_ hP hS (fun H locs hP hS => ?_)
  refine lv_iload_n hx hb d_Ta_isPlace_0 rfl (lv_at hl 0 rfl) ?_
  refine lv_if_lt (tgt := 24) hx hb d_Ta_isPlace_1 (by decide) (fun c_1 => ?_) (fun c_1 => ?_)
  · refine lv_iconst (v := 0) hx hb d_Ta_isPlace_24 (by decide) ?_
    have h9 : va_P (dC, dI) classes [] H ∧ va_D A [] := ⟨hP, hD⟩
    exact W.zret (v := 0) hx hb hr rfl (fun t ht hW => ⟨⟨0, (), rfl, ((if_pos c_1)).symm, by rw [ht]; exact h9.1, va_K.moved hW.alike hK, h9.2⟩, hS.F ht⟩) hS.2.2 d_Ta_isPlace_25
  · refine lv_iload_n hx hb d_Ta_isPlace_4 rfl (lv_at hl 0 rfl) ?_
    refine lv_bipush (v := 8) hx hb d_Ta_isPlace_5 (by decide) ?_
    refine lv_icmp_ge (tgt := 24) hx hb d_Ta_isPlace_7 (by decide) (fun c_2 => ?_) (fun c_2 => ?_)
    · refine lv_iconst (v := 0) hx hb d_Ta_isPlace_24 (by decide) ?_
      have h9 : va_P (dC, dI) classes [] H ∧ va_D A [] := ⟨hP, hD⟩
      exact W.zret (v := 0) hx hb hr rfl (fun t ht hW => ⟨⟨0, (), rfl, (((if_neg c_1).trans (if_pos c_2))).symm, by rw [ht]; exact h9.1, va_K.moved hW.alike hK, h9.2⟩, hS.F ht⟩) hS.2.2 d_Ta_isPlace_25
    · refine lv_iload_n hx hb d_Ta_isPlace_10 rfl (lv_at hl 1 rfl) ?_
      refine lv_if_lt (tgt := 24) hx hb d_Ta_isPlace_11 (by decide) (fun c_3 => ?_) (fun c_3 => ?_)
      · refine lv_iconst (v := 0) hx hb d_Ta_isPlace_24 (by decide) ?_
        have h9 : va_P (dC, dI) classes [] H ∧ va_D A [] := ⟨hP, hD⟩
        exact W.zret (v := 0) hx hb hr rfl (fun t ht hW => ⟨⟨0, (), rfl, (((if_neg c_1).trans ((if_neg c_2).trans (if_pos c_3)))).symm, by rw [ht]; exact h9.1, va_K.moved hW.alike hK, h9.2⟩, hS.F ht⟩) hS.2.2 d_Ta_isPlace_25
      · refine lv_iload_n hx hb d_Ta_isPlace_14 rfl (lv_at hl 1 rfl) ?_
        refine lv_bipush (v := 8) hx hb d_Ta_isPlace_15 (by decide) ?_
        refine lv_icmp_ge (tgt := 24) hx hb d_Ta_isPlace_17 (by decide) (fun c_4 => ?_) (fun c_4 => ?_)
        · refine lv_iconst (v := 0) hx hb d_Ta_isPlace_24 (by decide) ?_
          have h9 : va_P (dC, dI) classes [] H ∧ va_D A [] := ⟨hP, hD⟩
          exact W.zret (v := 0) hx hb hr rfl (fun t ht hW => ⟨⟨0, (), rfl, (((if_neg c_1).trans ((if_neg c_2).trans ((if_neg c_3).trans (if_pos c_4))))).symm, by rw [ht]; exact h9.1, va_K.moved hW.alike hK, h9.2⟩, hS.F ht⟩) hS.2.2 d_Ta_isPlace_25
        · refine lv_iconst (v := 1) hx hb d_Ta_isPlace_20 (by decide) ?_
          refine lv_goto (tgt := 25) hx hb d_Ta_isPlace_21 (by decide) ?_
          have h9 : va_P (dC, dI) classes [] H ∧ va_D A [] := ⟨hP, hD⟩
          exact W.zret (v := 1) hx hb hr rfl (fun t ht hW => ⟨⟨1, (), rfl, (((if_neg c_1).trans ((if_neg c_2).trans ((if_neg c_3).trans (if_neg c_4))))).symm, by rw [ht]; exact h9.1, va_K.moved hW.alike hK, h9.2⟩, hS.F ht⟩) hS.2.2 d_Ta_isPlace_25
set_option maxHeartbeats 4000000 in
set_option maxRecDepth 100000 in
theorem c_Ta_between (l : Launch) (dC : Nat → ClassId) (dI : Nat → Nat → Nat) (sz : Nat) (p0 : Int32) (p1 : Int32) : Met l y_Ta_between w_Ta_between { frames := 1, cells := 0, slots := 0, locals := 21 } (va_Pc [.int p0, .int p1] (pr_ (dC, dI) [] [] sz)) (va_Qi (fun r (_ : Unit) => r = (fTa_between p0 p1)) (fun _ t => at_ (dC, dI) (va_A [] sz) [] [] t) (va_A [] sz)) 0 0 (va_A [] sz) := by
  refine Met.ofW (cc := b_Ta_between) (maxL := 2) (ret := (some .int)) (by decide) rfl ?_
  intro p e s m args below meth c s₁ B hml hv
  obtain ⟨rfl, hsz, hP, hK, hD0, hN⟩ := hv
  have hx := B.exec
  have hb := B.bytes
  have hr := B.returns
  have hts0 := atoms_spec (ws := w_Ta_between) B.pre
  have hts : ∀ w ∈ wA_, w.before _ s = true := fun w h => hts0 w (List.mem_cons_of_mem _ h)
  have hown : s.vm.findClass R_Ta = some m.cls := findClass_of_methodNamed B.named
  have hlocks := B.notSynchronized
  subst hsz
  have hD := hD0.self (sz := s.heap.size)
  generalize hAe : va_A [] s.heap.size = A at hD ⊢
  have hA : ∀ q : Nat, s.heap.size ≤ q → A q := fun q h => by rw [← hAe]; exact Or.inr h
  have hS : va_S A s.heap s.heap [] := va_S.rf
  have hP : va_P (dC, dI) classes [] s.heap := hP
  have hl := lv_entry ([.int p0, .int p1]) (n := 2) (Nat.le_of_ble_eq_true rfl)
  rw [lg_entry_eq]
  generalize (lg_sl ([.int p0, .int p1]) ++ List.replicate (2 - (lg_sl ([.int p0, .int p1])).length) Slot.unset).toArray = ls at hl ⊢
  have hl : lv_has ls 2 [(0, .int p0), (1, .int p1)] := hl
  have hS : va_S A s.heap s.heap [] := hS
  refine st_ hP hS (fun H locs hP hS => ?_)
  refine lv_iconst (v := 0) hx hb d_Ta_between_0 (by decide) ?_
  refine lv_iload_n hx hb d_Ta_between_1 rfl (lv_at hl 0 rfl) ?_
  refine lv_iload_n hx hb d_Ta_between_2 rfl (lv_at hl 1 rfl) ?_
  refine va_mmin hx hb (by rw [hml]; exact hl.1.symm) hown (hts (.methodLink R_Ta 21 Lib.Math.min.name) mw_0) (hts (.static Lib.Math.min.name) mw_1) (hts (.initialized "java/lang/Math") mw_2) (hts (.code Lib.Math.min.name Lib.Math.min.code 2 (some .int)) mw_3) (Nat.le_of_ble_eq_true rfl) (Nat.le_of_ble_eq_true rfl) (Nat.le_of_ble_eq_true rfl) (Nat.le_of_ble_eq_true rfl) d_Ta_between_3 ?_
  refine tpi (y := (mn p0 p1)) rfl ?_
  refine va_mmax hx hb (by rw [hml]; exact hl.1.symm) hown (hts (.methodLink R_Ta 27 Lib.Math.max.name) mw_4) (hts (.static Lib.Math.max.name) mw_5) (hts (.initialized "java/lang/Math") mw_2) (hts (.code Lib.Math.max.name Lib.Math.max.code 2 (some .int)) mw_6) (Nat.le_of_ble_eq_true rfl) (Nat.le_of_ble_eq_true rfl) (Nat.le_of_ble_eq_true rfl) (Nat.le_of_ble_eq_true rfl) d_Ta_between_6 ?_
  refine tpi (y := (mx 0 (mn p0 p1))) rfl ?_
  have h9 : va_P (dC, dI) classes [] H ∧ va_D A [] := ⟨hP, hD⟩
  exact W.iret (v := (mx 0 (mn p0 p1))) hx hb hr (fun t ht hW => ⟨⟨(mx 0 (mn p0 p1)), (), rfl, rfl, by rw [ht]; exact h9.1, va_K.moved hW.alike hK, h9.2⟩, hS.F ht⟩) hS.2.2 d_Ta_between_9
set_option maxHeartbeats 4000000 in
set_option maxRecDepth 100000 in
theorem c_Ta_indexOf (l : Launch) (dC : Nat → ClassId) (dI : Nat → Nat → Nat) (sz : Nat) (p0 : Int32) (p1 : Int32) (p2 : Int32) : Met l y_Ta_indexOf w_Ta_indexOf { frames := 0, cells := 0, slots := 0, locals := 0 } (va_Pc [.int p0, .int p1, .int p2] (pr_ (dC, dI) [] [] sz)) (va_Qi (fun r (_ : Unit) => r = (fTa_indexOf p0 p1 p2)) (fun _ t => at_ (dC, dI) (va_A [] sz) [] [] t) (va_A [] sz)) 0 0 (va_A [] sz) := by
  refine Met.ofW (cc := b_Ta_indexOf) (maxL := 3) (ret := (some .int)) (by decide) rfl ?_
  intro p e s m args below meth c s₁ B hml hv
  obtain ⟨rfl, hsz, hP, hK, hD0, hN⟩ := hv
  have hx := B.exec
  have hb := B.bytes
  have hr := B.returns
  have hts0 := atoms_spec (ws := w_Ta_indexOf) B.pre
  have hts : ∀ w ∈ wA_, w.before _ s = true := fun w h => hts0 w (List.mem_cons_of_mem _ h)
  have hown : s.vm.findClass R_Ta = some m.cls := findClass_of_methodNamed B.named
  have hlocks := B.notSynchronized
  subst hsz
  have hD := hD0.self (sz := s.heap.size)
  generalize hAe : va_A [] s.heap.size = A at hD ⊢
  have hA : ∀ q : Nat, s.heap.size ≤ q → A q := fun q h => by rw [← hAe]; exact Or.inr h
  have hS : va_S A s.heap s.heap [] := va_S.rf
  have hP : va_P (dC, dI) classes [] s.heap := hP
  have hl := lv_entry ([.int p0, .int p1, .int p2]) (n := 3) (Nat.le_of_ble_eq_true rfl)
  rw [lg_entry_eq]
  generalize (lg_sl ([.int p0, .int p1, .int p2]) ++ List.replicate (3 - (lg_sl ([.int p0, .int p1, .int p2])).length) Slot.unset).toArray = ls at hl ⊢
  have hl : lv_has ls 3 [(0, .int p0), (1, .int p1), (2, .int p2)] := hl
  have hS : va_S A s.heap s.heap [] := hS
  refine st_ hP hS (fun H locs hP hS => ?_)
  refine lv_iload_n hx hb d_Ta_indexOf_0 rfl (lv_at hl 0 rfl) ?_
  refine lv_bipush (v := 8) hx hb d_Ta_indexOf_1 (by decide) ?_
  refine lv_imul hx hb d_Ta_indexOf_3 ?_
  refine lv_iload_n hx hb d_Ta_indexOf_4 rfl (lv_at hl 1 rfl) ?_
  refine lv_iadd hx hb d_Ta_indexOf_5 ?_
  refine lv_bipush (v := 8) hx hb d_Ta_indexOf_6 (by decide) ?_
  refine lv_imul hx hb d_Ta_indexOf_8 ?_
  refine lv_iload_n hx hb d_Ta_indexOf_9 rfl (lv_at hl 2 rfl) ?_
  refine lv_iadd hx hb d_Ta_indexOf_10 ?_
  have h9 : va_P (dC, dI) classes [] H ∧ va_D A [] := ⟨hP, hD⟩
  exact W.iret (v := ((((p0 * 8) + p1) * 8) + p2)) hx hb hr (fun t ht hW => ⟨⟨((((p0 * 8) + p1) * 8) + p2), (), rfl, rfl, by rw [ht]; exact h9.1, va_K.moved hW.alike hK, h9.2⟩, hS.F ht⟩) hS.2.2 d_Ta_indexOf_11
set_option maxHeartbeats 4000000 in
set_option maxRecDepth 100000 in
theorem c_Ta_put (l : Launch) (dC : Nat → ClassId) (dI : Nat → Nat → Nat) (h1 h2 : Nat) (kT : ClassId) (sz : Nat) (tb : Nat → Int32) (ki : Int32) (px : Int32) (py : Int32) (pv : Int32) (hin : vp_in (fTa_indexOf ki px py) 320) : Met l y_Ta_put w_Ta_put { frames := 1, cells := 0, slots := 0, locals := 22 } (va_Pc [.ref h1, .int ki, .int px, .int py, .int pv] (pr_ (dC, dI) [(h1, .inr (0, [.ref h2])), (h2, .inl (kT, 320, .inl tb))] [(kT, .int)] sz)) (va_Qi (fun r (_ : Unit) => r = (fTa_put tb ki px py)) (fun _ t => at_ (dC, dI) (va_A [(h1, .inr (0, [.ref h2])), (h2, .inl (kT, 320, .inl tb))] sz) [(h1, .inr (0, [.ref h2])), (h2, .inl (kT, 320, .inl (vTa_put_0 tb ki px py pv)))] [(kT, .int)] t) (va_A [(h1, .inr (0, [.ref h2])), (h2, .inl (kT, 320, .inl tb))] sz)) 0 0 (va_A [(h1, .inr (0, [.ref h2])), (h2, .inl (kT, 320, .inl tb))] sz) := by
  refine Met.ofW (cc := b_Ta_put) (maxL := 7) (ret := (some .int)) (by decide) rfl ?_
  intro p e s m args below meth c s₁ B hml hv
  obtain ⟨rfl, hsz, hP, hK, hD0, hN⟩ := hv
  have hx := B.exec
  have hb := B.bytes
  have hr := B.returns
  have hts0 := atoms_spec (ws := w_Ta_put) B.pre
  have hts : ∀ w ∈ wA_, w.before _ s = true := fun w h => hts0 w (List.mem_cons_of_mem _ h)
  have hown : s.vm.findClass R_Ta = some m.cls := findClass_of_methodNamed B.named
  have hlocks := B.notSynchronized
  subst hsz
  have hD := hD0.self (sz := s.heap.size)
  generalize hAe : va_A [(h1, .inr (0, [.ref h2])), (h2, .inl (kT, 320, .inl tb))] s.heap.size = A at hD ⊢
  have hA : ∀ q : Nat, s.heap.size ≤ q → A q := fun q h => by rw [← hAe]; exact Or.inr h
  have hS : va_S A s.heap s.heap [] := va_S.rf
  have hP : va_P (dC, dI) classes [(h1, .inr (0, [.ref h2])), (h2, .inl (kT, 320, .inl tb))] s.heap := hP
  have hl := lv_entry ([.ref h1, .int ki, .int px, .int py, .int pv]) (n := 7) (Nat.le_of_ble_eq_true rfl)
  rw [lg_entry_eq]
  generalize (lg_sl ([.ref h1, .int ki, .int px, .int py, .int pv]) ++ List.replicate (7 - (lg_sl ([.ref h1, .int ki, .int px, .int py, .int pv])).length) Slot.unset).toArray = ls at hl ⊢
  have hl : lv_has ls 7 [(0, .ref h1), (1, .int ki), (2, .int px), (3, .int py), (4, .int pv)] := hl
  have hS : va_S A s.heap s.heap [] := hS
  refine st_ hP hS (fun H locs hP hS => ?_)
  refine lv_iload_n hx hb d_Ta_put_0 rfl (lv_at hl 1 rfl) ?_
  refine lv_iload_n hx hb d_Ta_put_1 rfl (lv_at hl 2 rfl) ?_
  refine lv_iload_n hx hb d_Ta_put_2 rfl (lv_at hl 3 rfl) ?_
  have hPc := hP.sub (ws' := []) [] rfl
  have hDc := hD.sub (ws' := []) [] (by decide) rfl
  have hKc := hK.sub (tys' := []) [] rfl
  have hFc := va_free (wc := []) hD hS hA [] rfl
  refine ca_i (va_runS (As := [.int ki, .int px, .int py]) (rest := []) ⟨hx, hb, hml, hown, hts⟩ (c_Ta_indexOf l dC dI H.size ki px py) (va_cwS 3 hts (gS_ mw_11 mw_10 mw_9 mw_8) rfl rfl rfl (by decide +kernel) ⟨Nat.le_of_ble_eq_true rfl, Nat.le_of_ble_eq_true rfl⟩) ⟨fb_, pu_ hPc hKc hDc hN⟩ rfl rfl hl.1 rfl (lv_room (Nat.le_of_ble_eq_true rfl)) d_Ta_put_3 ⟨Nat.le_of_ble_eq_true rfl, Nat.le_of_ble_eq_true rfl⟩) hS (fun q _ h => hFc q h) hFc (fun t H locs ht hvm hB hz1 hk1 hS => ?_)
  obtain ⟨hP, hD⟩ := aft_ (wr := [(h1, .inr (0, [.ref h2])), (h2, .inl (kT, 320, .inl tb))]) (w1 := []) (w2 := [(h1, .inr (0, [.ref h2])), (h2, .inl (kT, 320, .inl tb))]) hP hD [] [0, 1] [0, 1] rfl rfl (by decide) (by decide) hk1 hFc hB ht rfl (by decide)
  refine lv_istore (lv' := [(5, .int (fTa_indexOf ki px py)), (0, .ref h1), (1, .int ki), (2, .int px), (3, .int py), (4, .int pv)]) hx hb d_Ta_put_6 hl (by decide) rfl (fun ls hl => ?_)
  refine lv_aload_n hx hb d_Ta_put_8 rfl (lv_at hl 1 rfl) ?_
  refine va_get (D := (dC, dI)) (ci := 0) (v := .ref h2) (C := R_Ta) (T := F_Ta) (N := 1) hx hb hts in_Ta hown hK hP 0 rfl rfl 0 (by decide) (hts (.fieldLink R_Ta 9 "TorqueRows$Tables" "values" "[I") mw_7) (fun _ h9 => h9) rfl d_Ta_put_9 ?_
  refine lv_iload hx hb d_Ta_put_12 (lv_at hl 0 rfl) ?_
  refine va_iald hx hb hK hP 1 0 rfl rfl hin d_Ta_put_14 ?_
  refine lv_istore (lv' := [(6, .int (tb (fTa_indexOf ki px py).toNatClampNeg)), (5, .int (fTa_indexOf ki px py)), (0, .ref h1), (1, .int ki), (2, .int px), (3, .int py), (4, .int pv)]) hx hb d_Ta_put_15 hl (by decide) rfl (fun ls hl => ?_)
  refine lv_aload_n hx hb d_Ta_put_17 rfl (lv_at hl 2 rfl) ?_
  refine va_get (D := (dC, dI)) (ci := 0) (v := .ref h2) (C := R_Ta) (T := F_Ta) (N := 1) hx hb hts in_Ta hown hK hP 0 rfl rfl 0 (by decide) (hts (.fieldLink R_Ta 9 "TorqueRows$Tables" "values" "[I") mw_7) (fun _ h9 => h9) rfl d_Ta_put_18 ?_
  refine lv_iload hx hb d_Ta_put_21 (lv_at hl 1 rfl) ?_
  refine lv_iload hx hb d_Ta_put_23 (lv_at hl 6 rfl) ?_
  refine va_iast hx hb hK hP hD hS 1 0 rfl rfl hin d_Ta_put_25 (fun H locs hP hD hS => ?_)
  have hP : va_P (dC, dI) classes [(h1, .inr (0, [.ref h2])), (h2, .inl (kT, 320, .inl (vTa_put_0 tb ki px py pv)))] H := hP
  have hD : va_D A [(h1, .inr (0, [.ref h2])), (h2, .inl (kT, 320, .inl (vTa_put_0 tb ki px py pv)))] := hD
  refine lv_iload hx hb d_Ta_put_26 (lv_at hl 0 rfl) ?_
  have h9 : va_P (dC, dI) classes [(h1, .inr (0, [.ref h2])), (h2, .inl (kT, 320, .inl (vTa_put_0 tb ki px py pv)))] H ∧ va_D A [(h1, .inr (0, [.ref h2])), (h2, .inl (kT, 320, .inl (vTa_put_0 tb ki px py pv)))] := ⟨hP, hD⟩
  exact W.iret (v := (tb (fTa_indexOf ki px py).toNatClampNeg)) hx hb hr (fun t ht hW => ⟨⟨(tb (fTa_indexOf ki px py).toNatClampNeg), (), rfl, rfl, by rw [ht]; exact h9.1, va_K.moved hW.alike hK, h9.2⟩, hS.F ht⟩) hS.2.2 d_Ta_put_28
set_option maxHeartbeats 4000000 in
set_option maxRecDepth 100000 in
theorem c_Ta_joined (l : Launch) (dC : Nat → ClassId) (dI : Nat → Nat → Nat) (h1 h2 : Nat) (kT : ClassId) (sz : Nat) (tb : Nat → Int32) (ki : Int32) (pa : Int32) (ps : Int32) (hk : vp_in ki 5) : Met l y_Ta_joined w_Ta_joined { frames := 2, cells := 0, slots := 0, locals := 42 } (va_Pc [.ref h1, .int ki, .int pa, .int ps] (pr_ (dC, dI) [(h1, .inr (0, [.ref h2])), (h2, .inl (kT, 320, .inl tb))] [(kT, .int)] sz)) (va_Qi (fun r (_ : Unit) => r = (fTa_joined tb ki pa ps)) (fun _ t => at_ (dC, dI) (va_A [(h1, .inr (0, [.ref h2])), (h2, .inl (kT, 320, .inl tb))] sz) [(h1, .inr (0, [.ref h2])), (h2, .inl (kT, 320, .inl tb))] [(kT, .int)] t) (va_A [(h1, .inr (0, [.ref h2])), (h2, .inl (kT, 320, .inl tb))] sz)) 0 0 (va_A [(h1, .inr (0, [.ref h2])), (h2, .inl (kT, 320, .inl tb))] sz) := by
  refine Met.ofW (cc := b_Ta_joined) (maxL := 12) (ret := (some .int)) (by decide) rfl ?_
  intro p e s m args below meth c s₁ B hml hv
  obtain ⟨rfl, hsz, hP, hK, hD0, hN⟩ := hv
  have hx := B.exec
  have hb := B.bytes
  have hr := B.returns
  have hts0 := atoms_spec (ws := w_Ta_joined) B.pre
  have hts : ∀ w ∈ wA_, w.before _ s = true := fun w h => hts0 w (List.mem_cons_of_mem _ h)
  have hown : s.vm.findClass R_Ta = some m.cls := findClass_of_methodNamed B.named
  have hlocks := B.notSynchronized
  subst hsz
  have hD := hD0.self (sz := s.heap.size)
  generalize hAe : va_A [(h1, .inr (0, [.ref h2])), (h2, .inl (kT, 320, .inl tb))] s.heap.size = A at hD ⊢
  have hA : ∀ q : Nat, s.heap.size ≤ q → A q := fun q h => by rw [← hAe]; exact Or.inr h
  have hS : va_S A s.heap s.heap [] := va_S.rf
  have hP : va_P (dC, dI) classes [(h1, .inr (0, [.ref h2])), (h2, .inl (kT, 320, .inl tb))] s.heap := hP
  have hl := lv_entry ([.ref h1, .int ki, .int pa, .int ps]) (n := 12) (Nat.le_of_ble_eq_true rfl)
  rw [lg_entry_eq]
  generalize (lg_sl ([.ref h1, .int ki, .int pa, .int ps]) ++ List.replicate (12 - (lg_sl ([.ref h1, .int ki, .int pa, .int ps])).length) Slot.unset).toArray = ls at hl ⊢
  have hl : lv_has ls 12 [(0, .ref h1), (1, .int ki), (2, .int pa), (3, .int ps)] := hl
  have hS : va_S A s.heap s.heap [] := hS
  refine st_ hP hS (fun H locs hP hS => ?_)
  refine lv_iload_n hx hb d_Ta_joined_0 rfl (lv_at hl 2 rfl) ?_
  refine lv_sipush (v := 896) hx hb d_Ta_joined_1 (by decide) ?_
  have hPc := hP.sub (ws' := []) [] rfl
  have hDc := hD.sub (ws' := []) [] (by decide) rfl
  have hKc := hK.sub (tys' := []) [] rfl
  have hFc := va_free (wc := []) hD hS hA [] rfl
  refine ca_i (va_runS (As := [.int pa, .int 896]) (rest := []) ⟨hx, hb, hml, hown, hts⟩ (c_Ta_between l dC dI H.size pa 896) (va_cwS 2 hts (gS_ mw_15 mw_14 mw_9 mw_13) rfl rfl rfl (by decide +kernel) ⟨Nat.le_of_ble_eq_true rfl, Nat.le_of_ble_eq_true rfl⟩) ⟨fb_, pu_ hPc hKc hDc hN⟩ rfl rfl hl.1 rfl (lv_room (Nat.le_of_ble_eq_true rfl)) d_Ta_joined_4 ⟨Nat.le_of_ble_eq_true rfl, Nat.le_of_ble_eq_true rfl⟩) hS (fun q _ h => hFc q h) hFc (fun t H locs ht hvm hB hz1 hk1 hS => ?_)
  obtain ⟨hP, hD⟩ := aft_ (wr := [(h1, .inr (0, [.ref h2])), (h2, .inl (kT, 320, .inl tb))]) (w1 := []) (w2 := [(h1, .inr (0, [.ref h2])), (h2, .inl (kT, 320, .inl tb))]) hP hD [] [0, 1] [0, 1] rfl rfl (by decide) (by decide) hk1 hFc hB ht rfl (by decide)
  refine lv_istore (lv' := [(4, .int (fTa_between pa 896)), (0, .ref h1), (1, .int ki), (2, .int pa), (3, .int ps)]) hx hb d_Ta_joined_7 hl (by decide) rfl (fun ls hl => ?_)
  refine lv_iload_n hx hb d_Ta_joined_9 rfl (lv_at hl 4 rfl) ?_
  refine lv_sipush (v := 7000) hx hb d_Ta_joined_10 (by decide) ?_
  have hPc := hP.sub (ws' := []) [] rfl
  have hDc := hD.sub (ws' := []) [] (by decide) rfl
  have hKc := hK.sub (tys' := []) [] rfl
  have hFc := va_free (wc := []) hD hS hA [] rfl
  refine ca_i (va_runS (As := [.int ps, .int 7000]) (rest := []) ⟨hx, hb, hml, hown, hts⟩ (c_Ta_between l dC dI H.size ps 7000) (va_cwS 2 hts (gS_ mw_15 mw_14 mw_9 mw_13) rfl rfl rfl (by decide +kernel) ⟨Nat.le_of_ble_eq_true rfl, Nat.le_of_ble_eq_true rfl⟩) ⟨fb_, pu_ hPc hKc hDc hN⟩ rfl rfl hl.1 rfl (lv_room (Nat.le_of_ble_eq_true rfl)) d_Ta_joined_13 ⟨Nat.le_of_ble_eq_true rfl, Nat.le_of_ble_eq_true rfl⟩) hS (fun q _ h => hFc q h) hFc (fun t H locs ht hvm hB hz1 hk1 hS => ?_)
  obtain ⟨hP, hD⟩ := aft_ (wr := [(h1, .inr (0, [.ref h2])), (h2, .inl (kT, 320, .inl tb))]) (w1 := []) (w2 := [(h1, .inr (0, [.ref h2])), (h2, .inl (kT, 320, .inl tb))]) hP hD [] [0, 1] [0, 1] rfl rfl (by decide) (by decide) hk1 hFc hB ht rfl (by decide)
  refine lv_istore (lv' := [(5, .int (fTa_between ps 7000)), (4, .int (fTa_between pa 896)), (0, .ref h1), (1, .int ki), (2, .int pa), (3, .int ps)]) hx hb d_Ta_joined_16 hl (by decide) rfl (fun ls hl => ?_)
  refine lv_iload hx hb d_Ta_joined_18 (lv_at hl 1 rfl) ?_
  refine lv_sipush (v := 128) hx hb d_Ta_joined_20 (by decide) ?_
  refine lv_idiv hx hb d_Ta_joined_23 (by decide) ?_
  refine lv_bipush (v := 6) hx hb d_Ta_joined_24 (by decide) ?_
  refine va_mmin hx hb (by rw [hml]; exact hl.1.symm) hown (hts (.methodLink R_Ta 21 Lib.Math.min.name) mw_0) (hts (.static Lib.Math.min.name) mw_1) (hts (.initialized "java/lang/Math") mw_2) (hts (.code Lib.Math.min.name Lib.Math.min.code 2 (some .int)) mw_3) (Nat.le_of_ble_eq_true rfl) (Nat.le_of_ble_eq_true rfl) (Nat.le_of_ble_eq_true rfl) (Nat.le_of_ble_eq_true rfl) d_Ta_joined_26 ?_
  refine tpi (y := (mn ((fTa_between pa 896) / 128) 6)) rfl ?_
  refine lv_istore (lv' := [(6, .int (mn ((fTa_between pa 896) / 128) 6)), (5, .int (fTa_between ps 7000)), (4, .int (fTa_between pa 896)), (0, .ref h1), (1, .int ki), (2, .int pa), (3, .int ps)]) hx hb d_Ta_joined_29 hl (by decide) rfl (fun ls hl => ?_)
  refine lv_iload hx hb d_Ta_joined_31 (lv_at hl 1 rfl) ?_
  refine lv_sipush (v := 1000) hx hb d_Ta_joined_33 (by decide) ?_
  refine lv_idiv hx hb d_Ta_joined_36 (by decide) ?_
  refine lv_bipush (v := 6) hx hb d_Ta_joined_37 (by decide) ?_
  refine va_mmin hx hb (by rw [hml]; exact hl.1.symm) hown (hts (.methodLink R_Ta 21 Lib.Math.min.name) mw_0) (hts (.static Lib.Math.min.name) mw_1) (hts (.initialized "java/lang/Math") mw_2) (hts (.code Lib.Math.min.name Lib.Math.min.code 2 (some .int)) mw_3) (Nat.le_of_ble_eq_true rfl) (Nat.le_of_ble_eq_true rfl) (Nat.le_of_ble_eq_true rfl) (Nat.le_of_ble_eq_true rfl) d_Ta_joined_39 ?_
  refine tpi (y := (mn ((fTa_between ps 7000) / 1000) 6)) rfl ?_
  refine lv_istore (lv' := [(7, .int (mn ((fTa_between ps 7000) / 1000) 6)), (6, .int (mn ((fTa_between pa 896) / 128) 6)), (5, .int (fTa_between ps 7000)), (4, .int (fTa_between pa 896)), (0, .ref h1), (1, .int ki), (2, .int pa), (3, .int ps)]) hx hb d_Ta_joined_42 hl (by decide) rfl (fun ls hl => ?_)
  refine lv_iload hx hb d_Ta_joined_44 (lv_at hl 3 rfl) ?_
  refine lv_sipush (v := 128) hx hb d_Ta_joined_46 (by decide) ?_
  refine lv_iload hx hb d_Ta_joined_49 (lv_at hl 1 rfl) ?_
  refine lv_imul hx hb d_Ta_joined_51 ?_
  refine lv_isub hx hb d_Ta_joined_52 ?_
  refine lv_istore (lv' := [(8, .int (vTa_joined_0 pa)), (7, .int (mn ((fTa_between ps 7000) / 1000) 6)), (6, .int (mn ((fTa_between pa 896) / 128) 6)), (5, .int (fTa_between ps 7000)), (4, .int (fTa_between pa 896)), (0, .ref h1), (1, .int ki), (2, .int pa), (3, .int ps)]) hx hb d_Ta_joined_53 hl (by decide) rfl (fun ls hl => ?_)
  refine lv_iload hx hb d_Ta_joined_55 (lv_at hl 3 rfl) ?_
  refine lv_sipush (v := 1000) hx hb d_Ta_joined_57 (by decide) ?_
  refine lv_iload hx hb d_Ta_joined_60 (lv_at hl 1 rfl) ?_
  refine lv_imul hx hb d_Ta_joined_62 ?_
  refine lv_isub hx hb d_Ta_joined_63 ?_
  refine lv_istore (lv' := [(9, .int (vTa_joined_1 ps)), (8, .int (vTa_joined_0 pa)), (7, .int (mn ((fTa_between ps 7000) / 1000) 6)), (6, .int (mn ((fTa_between pa 896) / 128) 6)), (5, .int (fTa_between ps 7000)), (4, .int (fTa_between pa 896)), (0, .ref h1), (1, .int ki), (2, .int pa), (3, .int ps)]) hx hb d_Ta_joined_64 hl (by decide) rfl (fun ls hl => ?_)
  refine lv_aload_n hx hb d_Ta_joined_66 rfl (lv_at hl 6 rfl) ?_
  refine va_get (D := (dC, dI)) (ci := 0) (v := .ref h2) (C := R_Ta) (T := F_Ta) (N := 1) hx hb hts in_Ta hown hK hP 0 rfl rfl 0 (by decide) (hts (.fieldLink R_Ta 9 "TorqueRows$Tables" "values" "[I") mw_7) (fun _ h9 => h9) rfl d_Ta_joined_67 ?_
  refine lv_iload_n hx hb d_Ta_joined_70 rfl (lv_at hl 7 rfl) ?_
  refine lv_iload hx hb d_Ta_joined_71 (lv_at hl 3 rfl) ?_
  refine lv_iload hx hb d_Ta_joined_73 (lv_at hl 2 rfl) ?_
  have hPc := hP.sub (ws' := []) [] rfl
  have hDc := hD.sub (ws' := []) [] (by decide) rfl
  have hKc := hK.sub (tys' := []) [] rfl
  have hFc := va_free (wc := []) hD hS hA [] rfl
  refine ca_i (va_runS (As := [.int ki, .int (mn ((fTa_between pa 896) / 128) 6), .int (mn ((fTa_between ps 7000) / 1000) 6)]) (rest := [.ref h2]) ⟨hx, hb, hml, hown, hts⟩ (c_Ta_indexOf l dC dI H.size ki (mn ((fTa_between pa 896) / 128) 6) (mn ((fTa_between ps 7000) / 1000) 6)) (va_cwS 3 hts (gS_ mw_11 mw_10 mw_9 mw_8) rfl rfl rfl (by decide +kernel) ⟨Nat.le_of_ble_eq_true rfl, Nat.le_of_ble_eq_true rfl⟩) ⟨fb_, pu_ hPc hKc hDc hN⟩ rfl rfl hl.1 rfl (lv_room (Nat.le_of_ble_eq_true rfl)) d_Ta_joined_75 ⟨Nat.le_of_ble_eq_true rfl, Nat.le_of_ble_eq_true rfl⟩) hS (fun q _ h => hFc q h) hFc (fun t H locs ht hvm hB hz1 hk1 hS => ?_)
  obtain ⟨hP, hD⟩ := aft_ (wr := [(h1, .inr (0, [.ref h2])), (h2, .inl (kT, 320, .inl tb))]) (w1 := []) (w2 := [(h1, .inr (0, [.ref h2])), (h2, .inl (kT, 320, .inl tb))]) hP hD [] [0, 1] [0, 1] rfl rfl (by decide) (by decide) hk1 hFc hB ht rfl (by decide)
  refine va_iald hx hb hK hP 1 0 rfl rfl (jo_78 hk) d_Ta_joined_78 ?_
  refine lv_sipush (v := 128) hx hb d_Ta_joined_79 (by decide) ?_
  refine lv_iload hx hb d_Ta_joined_82 (lv_at hl 1 rfl) ?_
  refine lv_isub hx hb d_Ta_joined_84 ?_
  refine lv_imul hx hb d_Ta_joined_85 ?_
  refine lv_aload_n hx hb d_Ta_joined_86 rfl (lv_at hl 6 rfl) ?_
  refine va_get (D := (dC, dI)) (ci := 0) (v := .ref h2) (C := R_Ta) (T := F_Ta) (N := 1) hx hb hts in_Ta hown hK hP 0 rfl rfl 0 (by decide) (hts (.fieldLink R_Ta 9 "TorqueRows$Tables" "values" "[I") mw_7) (fun _ h9 => h9) rfl d_Ta_joined_87 ?_
  refine lv_iload_n hx hb d_Ta_joined_90 rfl (lv_at hl 7 rfl) ?_
  refine lv_iload hx hb d_Ta_joined_91 (lv_at hl 3 rfl) ?_
  refine lv_iconst (v := 1) hx hb d_Ta_joined_93 (by decide) ?_
  refine lv_iadd hx hb d_Ta_joined_94 ?_
  refine lv_iload hx hb d_Ta_joined_95 (lv_at hl 2 rfl) ?_
  have hPc := hP.sub (ws' := []) [] rfl
  have hDc := hD.sub (ws' := []) [] (by decide) rfl
  have hKc := hK.sub (tys' := []) [] rfl
  have hFc := va_free (wc := []) hD hS hA [] rfl
  refine ca_i (va_runS (As := [.int ki, .int ((mn ((fTa_between pa 896) / 128) 6) + 1), .int (mn ((fTa_between ps 7000) / 1000) 6)]) (rest := [.ref h2, .int ((tb (fTa_indexOf ki (mn ((fTa_between pa 896) / 128) 6) (mn ((fTa_between ps 7000) / 1000) 6)).toNatClampNeg) * (128 - (vTa_joined_0 pa)))]) ⟨hx, hb, hml, hown, hts⟩ (c_Ta_indexOf l dC dI H.size ki ((mn ((fTa_between pa 896) / 128) 6) + 1) (mn ((fTa_between ps 7000) / 1000) 6)) (va_cwS 3 hts (gS_ mw_11 mw_10 mw_9 mw_8) rfl rfl rfl (by decide +kernel) ⟨Nat.le_of_ble_eq_true rfl, Nat.le_of_ble_eq_true rfl⟩) ⟨fb_, pu_ hPc hKc hDc hN⟩ rfl rfl hl.1 rfl (lv_room (Nat.le_of_ble_eq_true rfl)) d_Ta_joined_97 ⟨Nat.le_of_ble_eq_true rfl, Nat.le_of_ble_eq_true rfl⟩) hS (fun q _ h => hFc q h) hFc (fun t H locs ht hvm hB hz1 hk1 hS => ?_)
  obtain ⟨hP, hD⟩ := aft_ (wr := [(h1, .inr (0, [.ref h2])), (h2, .inl (kT, 320, .inl tb))]) (w1 := []) (w2 := [(h1, .inr (0, [.ref h2])), (h2, .inl (kT, 320, .inl tb))]) hP hD [] [0, 1] [0, 1] rfl rfl (by decide) (by decide) hk1 hFc hB ht rfl (by decide)
  refine va_iald hx hb hK hP 1 0 rfl rfl (jo_100 hk) d_Ta_joined_100 ?_
  refine lv_iload hx hb d_Ta_joined_101 (lv_at hl 1 rfl) ?_
  refine lv_imul hx hb d_Ta_joined_103 ?_
  refine lv_iadd hx hb d_Ta_joined_104 ?_
  refine lv_istore (lv' := [(10, .int (vTa_joined_2 tb ki pa ps)), (9, .int (vTa_joined_1 ps)), (8, .int (vTa_joined_0 pa)), (7, .int (mn ((fTa_between ps 7000) / 1000) 6)), (6, .int (mn ((fTa_between pa 896) / 128) 6)), (5, .int (fTa_between ps 7000)), (4, .int (fTa_between pa 896)), (0, .ref h1), (1, .int ki), (2, .int pa), (3, .int ps)]) hx hb d_Ta_joined_105 hl (by decide) rfl (fun ls hl => ?_)
  refine lv_aload_n hx hb d_Ta_joined_107 rfl (lv_at hl 7 rfl) ?_
  refine va_get (D := (dC, dI)) (ci := 0) (v := .ref h2) (C := R_Ta) (T := F_Ta) (N := 1) hx hb hts in_Ta hown hK hP 0 rfl rfl 0 (by decide) (hts (.fieldLink R_Ta 9 "TorqueRows$Tables" "values" "[I") mw_7) (fun _ h9 => h9) rfl d_Ta_joined_108 ?_
  refine lv_iload_n hx hb d_Ta_joined_111 rfl (lv_at hl 8 rfl) ?_
  refine lv_iload hx hb d_Ta_joined_112 (lv_at hl 4 rfl) ?_
  refine lv_iload hx hb d_Ta_joined_114 (lv_at hl 3 rfl) ?_
  refine lv_iconst (v := 1) hx hb d_Ta_joined_116 (by decide) ?_
  refine lv_iadd hx hb d_Ta_joined_117 ?_
  have hPc := hP.sub (ws' := []) [] rfl
  have hDc := hD.sub (ws' := []) [] (by decide) rfl
  have hKc := hK.sub (tys' := []) [] rfl
  have hFc := va_free (wc := []) hD hS hA [] rfl
  refine ca_i (va_runS (As := [.int ki, .int (mn ((fTa_between pa 896) / 128) 6), .int ((mn ((fTa_between ps 7000) / 1000) 6) + 1)]) (rest := [.ref h2]) ⟨hx, hb, hml, hown, hts⟩ (c_Ta_indexOf l dC dI H.size ki (mn ((fTa_between pa 896) / 128) 6) ((mn ((fTa_between ps 7000) / 1000) 6) + 1)) (va_cwS 3 hts (gS_ mw_11 mw_10 mw_9 mw_8) rfl rfl rfl (by decide +kernel) ⟨Nat.le_of_ble_eq_true rfl, Nat.le_of_ble_eq_true rfl⟩) ⟨fb_, pu_ hPc hKc hDc hN⟩ rfl rfl hl.1 rfl (lv_room (Nat.le_of_ble_eq_true rfl)) d_Ta_joined_118 ⟨Nat.le_of_ble_eq_true rfl, Nat.le_of_ble_eq_true rfl⟩) hS (fun q _ h => hFc q h) hFc (fun t H locs ht hvm hB hz1 hk1 hS => ?_)
  obtain ⟨hP, hD⟩ := aft_ (wr := [(h1, .inr (0, [.ref h2])), (h2, .inl (kT, 320, .inl tb))]) (w1 := []) (w2 := [(h1, .inr (0, [.ref h2])), (h2, .inl (kT, 320, .inl tb))]) hP hD [] [0, 1] [0, 1] rfl rfl (by decide) (by decide) hk1 hFc hB ht rfl (by decide)
  refine va_iald hx hb hK hP 1 0 rfl rfl (jo_121 hk) d_Ta_joined_121 ?_
  refine lv_sipush (v := 128) hx hb d_Ta_joined_122 (by decide) ?_
  refine lv_iload hx hb d_Ta_joined_125 (lv_at hl 2 rfl) ?_
  refine lv_isub hx hb d_Ta_joined_127 ?_
  refine lv_imul hx hb d_Ta_joined_128 ?_
  refine lv_aload_n hx hb d_Ta_joined_129 rfl (lv_at hl 7 rfl) ?_
  refine va_get (D := (dC, dI)) (ci := 0) (v := .ref h2) (C := R_Ta) (T := F_Ta) (N := 1) hx hb hts in_Ta hown hK hP 0 rfl rfl 0 (by decide) (hts (.fieldLink R_Ta 9 "TorqueRows$Tables" "values" "[I") mw_7) (fun _ h9 => h9) rfl d_Ta_joined_130 ?_
  refine lv_iload_n hx hb d_Ta_joined_133 rfl (lv_at hl 8 rfl) ?_
  refine lv_iload hx hb d_Ta_joined_134 (lv_at hl 4 rfl) ?_
  refine lv_iconst (v := 1) hx hb d_Ta_joined_136 (by decide) ?_
  refine lv_iadd hx hb d_Ta_joined_137 ?_
  refine lv_iload hx hb d_Ta_joined_138 (lv_at hl 3 rfl) ?_
  refine lv_iconst (v := 1) hx hb d_Ta_joined_140 (by decide) ?_
  refine lv_iadd hx hb d_Ta_joined_141 ?_
  have hPc := hP.sub (ws' := []) [] rfl
  have hDc := hD.sub (ws' := []) [] (by decide) rfl
  have hKc := hK.sub (tys' := []) [] rfl
  have hFc := va_free (wc := []) hD hS hA [] rfl
  refine ca_i (va_runS (As := [.int ki, .int ((mn ((fTa_between pa 896) / 128) 6) + 1), .int ((mn ((fTa_between ps 7000) / 1000) 6) + 1)]) (rest := [.ref h2, .int ((tb (fTa_indexOf ki (mn ((fTa_between pa 896) / 128) 6) ((mn ((fTa_between ps 7000) / 1000) 6) + 1)).toNatClampNeg) * (128 - (vTa_joined_0 pa)))]) ⟨hx, hb, hml, hown, hts⟩ (c_Ta_indexOf l dC dI H.size ki ((mn ((fTa_between pa 896) / 128) 6) + 1) ((mn ((fTa_between ps 7000) / 1000) 6) + 1)) (va_cwS 3 hts (gS_ mw_11 mw_10 mw_9 mw_8) rfl rfl rfl (by decide +kernel) ⟨Nat.le_of_ble_eq_true rfl, Nat.le_of_ble_eq_true rfl⟩) ⟨fb_, pu_ hPc hKc hDc hN⟩ rfl rfl hl.1 rfl (lv_room (Nat.le_of_ble_eq_true rfl)) d_Ta_joined_142 ⟨Nat.le_of_ble_eq_true rfl, Nat.le_of_ble_eq_true rfl⟩) hS (fun q _ h => hFc q h) hFc (fun t H locs ht hvm hB hz1 hk1 hS => ?_)
  obtain ⟨hP, hD⟩ := aft_ (wr := [(h1, .inr (0, [.ref h2])), (h2, .inl (kT, 320, .inl tb))]) (w1 := []) (w2 := [(h1, .inr (0, [.ref h2])), (h2, .inl (kT, 320, .inl tb))]) hP hD [] [0, 1] [0, 1] rfl rfl (by decide) (by decide) hk1 hFc hB ht rfl (by decide)
  refine va_iald hx hb hK hP 1 0 rfl rfl (jo_145 hk) d_Ta_joined_145 ?_
  refine lv_iload hx hb d_Ta_joined_146 (lv_at hl 2 rfl) ?_
  refine lv_imul hx hb d_Ta_joined_148 ?_
  refine lv_iadd hx hb d_Ta_joined_149 ?_
  refine lv_istore (lv' := [(11, .int (vTa_joined_3 tb ki pa ps)), (10, .int (vTa_joined_2 tb ki pa ps)), (9, .int (vTa_joined_1 ps)), (8, .int (vTa_joined_0 pa)), (7, .int (mn ((fTa_between ps 7000) / 1000) 6)), (6, .int (mn ((fTa_between pa 896) / 128) 6)), (5, .int (fTa_between ps 7000)), (4, .int (fTa_between pa 896)), (0, .ref h1), (1, .int ki), (2, .int pa), (3, .int ps)]) hx hb d_Ta_joined_150 hl (by decide) rfl (fun ls hl => ?_)
  refine lv_iload hx hb d_Ta_joined_152 (lv_at hl 1 rfl) ?_
  refine lv_sipush (v := 1000) hx hb d_Ta_joined_154 (by decide) ?_
  refine lv_iload hx hb d_Ta_joined_157 (lv_at hl 2 rfl) ?_
  refine lv_isub hx hb d_Ta_joined_159 ?_
  refine lv_imul hx hb d_Ta_joined_160 ?_
  refine lv_iload hx hb d_Ta_joined_161 (lv_at hl 0 rfl) ?_
  refine lv_iload hx hb d_Ta_joined_163 (lv_at hl 2 rfl) ?_
  refine lv_imul hx hb d_Ta_joined_165 ?_
  refine lv_iadd hx hb d_Ta_joined_166 ?_
  refine lv_ldc (v := 128000) hx hb hown (hts (.constant R_Ta 26 128000) mw_12) d_Ta_joined_167 ?_
  refine lv_idiv hx hb d_Ta_joined_169 (by decide) ?_
  have h9 : va_P (dC, dI) classes [(h1, .inr (0, [.ref h2])), (h2, .inl (kT, 320, .inl tb))] H ∧ va_D A [(h1, .inr (0, [.ref h2])), (h2, .inl (kT, 320, .inl tb))] := ⟨hP, hD⟩
  exact W.iret (v := ((((vTa_joined_2 tb ki pa ps) * (1000 - (vTa_joined_1 ps))) + ((vTa_joined_3 tb ki pa ps) * (vTa_joined_1 ps))) / 128000)) hx hb hr (fun t ht hW => ⟨⟨((((vTa_joined_2 tb ki pa ps) * (1000 - (vTa_joined_1 ps))) + ((vTa_joined_3 tb ki pa ps) * (vTa_joined_1 ps))) / 128000), (), rfl, rfl, by rw [ht]; exact h9.1, va_K.moved hW.alike hK, h9.2⟩, hS.F ht⟩) hS.2.2 d_Ta_joined_170
set_option maxHeartbeats 4000000 in
set_option maxRecDepth 100000 in
theorem c_Ta_init (l : Launch) (dC : Nat → ClassId) (dI : Nat → Nat → Nat) (h1 : Nat) (sz : Nat) : Met l y_Ta_init w_Ta_init { frames := 1, cells := 1, slots := 320, locals := 20 } (va_Pc [.ref h1] (pr_ (dC, dI) [(h1, .inr (0, [.null]))] [] sz)) (va_Qv (fun (_ : Unit) => True) (fun _ t => ∃ (qx0 : Nat), ∃ (kx0 : ClassId), at_ (dC, dI) (va_A [(h1, .inr (0, [.null]))] sz) [(h1, .inr (0, [.ref qx0])), (qx0, .inl (kx0, 320, .inl (fun _ => 0)))] [(kx0, .int)] t) (va_A [(h1, .inr (0, [.null]))] sz)) 1 320 (va_A [(h1, .inr (0, [.null]))] sz) := by
  refine Met.ofW (cc := b_Ta_init) (maxL := 1) (ret := none) (by decide) rfl ?_
  intro p e s m args below meth c s₁ B hml hv
  obtain ⟨rfl, hsz, hP, hK, hD0, hN⟩ := hv
  have hx := B.exec
  have hb := B.bytes
  have hr := B.returns
  have hts0 := atoms_spec (ws := w_Ta_init) B.pre
  have hts : ∀ w ∈ wA_, w.before _ s = true := fun w h => hts0 w (List.mem_cons_of_mem _ h)
  have hown : s.vm.findClass R_Ta = some m.cls := findClass_of_methodNamed B.named
  have hlocks := B.notSynchronized
  have hin : meth.name = "<init>" := (name_of_methodNamed B.named B.method).1
  subst hsz
  have hD := hD0.self (sz := s.heap.size)
  generalize hAe : va_A [(h1, .inr (0, [.null]))] s.heap.size = A at hD ⊢
  have hA : ∀ q : Nat, s.heap.size ≤ q → A q := fun q h => by rw [← hAe]; exact Or.inr h
  have hS : va_S A s.heap s.heap [] := va_S.rf
  have hP : va_P (dC, dI) classes [(h1, .inr (0, [.null]))] s.heap := hP
  have hl := lv_entry ([.ref h1]) (n := 1) (Nat.le_of_ble_eq_true rfl)
  rw [lg_entry_eq]
  generalize (lg_sl ([.ref h1]) ++ List.replicate (1 - (lg_sl ([.ref h1])).length) Slot.unset).toArray = ls at hl ⊢
  have hl : lv_has ls 1 [(0, .ref h1)] := hl
  have hS : va_S A s.heap s.heap [] := hS
  refine st_ hP hS (fun H locs hP hS => ?_)
  refine lv_aload_n hx hb d_Ta_init_0 rfl (lv_at hl 0 rfl) ?_
  refine W.objInit hx hb hown (hts (.methodLink R_Ta 1 Lib.objectInit) mw_135) (hts (.instanceMethod Lib.objectInit) mw_136) (hts (.code Lib.objectInit ⟨#[0xb1]⟩ 1 none) mw_137) rfl (by rw [hml]; exact hl.1) rfl d_Ta_init_1 (Nat.le_of_ble_eq_true rfl) (Nat.le_of_ble_eq_true rfl) ?_
  refine W.eq (g2 := F0 m 4 ls []) rfl ?_
  refine lv_aload_n hx hb d_Ta_init_4 rfl (lv_at hl 0 rfl) ?_
  refine lv_sipush (v := 320) hx hb d_Ta_init_5 (by decide) ?_
  refine va_newa (atype := .int) (N' := 320) (a0 := (320, .inl (fun _ => 0))) (ty := .int) (n := 320) hx hb (hts (.arrayClass .int) mw_138) rfl hK hP hD hS hA (fun _ => rfl) (by decide) (by decide) (by decide) (Nat.le_of_ble_eq_true rfl) (Nat.le_of_ble_eq_true rfl) d_Ta_init_8 (fun qx0 kx0 H hK hP hD hS => ?_)
  have hP : va_P (dC, dI) classes [(h1, .inr (0, [.null])), (qx0, .inl (kx0, 320, .inl (fun _ => 0)))] H := hP
  have hD : va_D A [(h1, .inr (0, [.null])), (qx0, .inl (kx0, 320, .inl (fun _ => 0)))] := hD
  have hK : va_K (dC, dI) classes [(kx0, .int)] s := hK
  refine W.widen (k := 1) (n := 320) (Nat.le_of_ble_eq_true rfl) (Nat.le_of_ble_eq_true rfl) ?_
  refine va_putF (D := (dC, dI)) (ci := 0) (v := .ref qx0) (ty := (.array .int)) (C := R_Ta) (T := F_Ta) (N := 1) hx hb hts in_Ta t_Ta t_Ta_ok n_Ta hown hK hP hD hS 0 rfl rfl 0 (by decide) (hts (.fieldLink R_Ta 9 "TorqueRows$Tables" "values" "[I") mw_7) (fun _ h9 => h9) rfl hin rfl (by decide +kernel) rfl rfl (Nat.le_of_ble_eq_true rfl) d_Ta_init_10 (fun H locs hP hD hS => ?_)
  have hP : va_P (dC, dI) classes [(h1, .inr (0, [.ref qx0])), (qx0, .inl (kx0, 320, .inl (fun _ => 0)))] H := hP
  have hD : va_D A [(h1, .inr (0, [.ref qx0])), (qx0, .inl (kx0, 320, .inl (fun _ => 0)))] := hD
  have h9 : va_P (dC, dI) classes [(h1, .inr (0, [.ref qx0])), (qx0, .inl (kx0, 320, .inl (fun _ => 0)))] H ∧ va_D A [(h1, .inr (0, [.ref qx0])), (qx0, .inl (kx0, 320, .inl (fun _ => 0)))] := ⟨hP, hD⟩
  exact W.vret hx hb hr (fun t ht hW => ⟨⟨(), rfl, trivial, qx0, kx0, by rw [ht]; exact h9.1, va_K.moved hW.alike hK, h9.2⟩, hS.F ht⟩) hS.2.2 d_Ta_init_13
