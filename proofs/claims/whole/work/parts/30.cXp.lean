set_option maxHeartbeats 4000000 in
set_option maxRecDepth 100000 in
theorem c_X_period (l : Launch) (dC : Nat → ClassId) (dI : Nat → Nat → Nat) (h0 h1 h2 h3 h4 h5 h6 h7 : Nat) (kT kW kB : ClassId) (sz : Nat) (bn : Int32) (cy : Int32) (li : Int32) (st : Int32) (df : Int32) (tm : Int32) (tq : Int32) (tp : Int32) (pd : Int32) (wa : Int32) (ai : Int32) (fu : Int32) (mo : Int32) (sp : Int32) (tb : Nat → Int32) (wt : Int32) (le : Nat → Int32) (am : Int32) (sd : Int32) (s0 : Int64) (s1 : Int64) (s2 : Int64) (s3 : Int64) (lo : Nat → Int32) (pv : Int64) (hth : (fX_isUpTo pv 10000) = 0 ∨ ¬ (lg_cmp (pv * (cy.toInt64)) 0) = 0) : Met l y_X_period w_X_period { frames := 1, cells := 0, slots := 0, locals := 23 } (va_Pc [.ref h0, .long pv] (pr_ (dC, dI) [(h0, .inr (4, [.ref h1, .ref h3, .ref h5, .ref h6, .ref h7, .int bn, .int cy, .int li, .int st, .int df, .int tm, .int tq, .int tp, .int pd, .int wa, .int ai, .int fu, .int mo, .int sp])), (h1, .inr (0, [.ref h2])), (h2, .inl (kT, 320, .inl tb)), (h3, .inr (1, [.ref h4, .int wt])), (h4, .inl (kW, 6, .inl le)), (h5, .inr (2, [.int am, .int sd])), (h6, .inr (3, [.long s0, .long s1, .long s2, .long s3])), (h7, .inl (kB, 3, .inl lo))] [(kT, .int), (kW, .int), (kB, .boolean)] sz)) (va_Ql (fun r (_ : Unit) => r = (fX_period pv cy)) (fun _ t => at_ (dC, dI) (va_A [(h0, .inr (4, [.ref h1, .ref h3, .ref h5, .ref h6, .ref h7, .int bn, .int cy, .int li, .int st, .int df, .int tm, .int tq, .int tp, .int pd, .int wa, .int ai, .int fu, .int mo, .int sp])), (h1, .inr (0, [.ref h2])), (h2, .inl (kT, 320, .inl tb)), (h3, .inr (1, [.ref h4, .int wt])), (h4, .inl (kW, 6, .inl le)), (h5, .inr (2, [.int am, .int sd])), (h6, .inr (3, [.long s0, .long s1, .long s2, .long s3])), (h7, .inl (kB, 3, .inl lo))] sz) [(h0, .inr (4, [.ref h1, .ref h3, .ref h5, .ref h6, .ref h7, .int bn, .int cy, .int li, .int st, .int df, .int tm, .int tq, .int tp, .int pd, .int wa, .int ai, .int fu, .int mo, .int sp])), (h1, .inr (0, [.ref h2])), (h2, .inl (kT, 320, .inl tb)), (h3, .inr (1, [.ref h4, .int wt])), (h4, .inl (kW, 6, .inl le)), (h5, .inr (2, [.int am, .int sd])), (h6, .inr (3, [.long s0, .long s1, .long s2, .long s3])), (h7, .inl (kB, 3, .inl lo))] [(kT, .int), (kW, .int), (kB, .boolean)] t) (va_A [(h0, .inr (4, [.ref h1, .ref h3, .ref h5, .ref h6, .ref h7, .int bn, .int cy, .int li, .int st, .int df, .int tm, .int tq, .int tp, .int pd, .int wa, .int ai, .int fu, .int mo, .int sp])), (h1, .inr (0, [.ref h2])), (h2, .inl (kT, 320, .inl tb)), (h3, .inr (1, [.ref h4, .int wt])), (h4, .inl (kW, 6, .inl le)), (h5, .inr (2, [.int am, .int sd])), (h6, .inr (3, [.long s0, .long s1, .long s2, .long s3])), (h7, .inl (kB, 3, .inl lo))] sz)) 0 0 (va_A [(h0, .inr (4, [.ref h1, .ref h3, .ref h5, .ref h6, .ref h7, .int bn, .int cy, .int li, .int st, .int df, .int tm, .int tq, .int tp, .int pd, .int wa, .int ai, .int fu, .int mo, .int sp])), (h1, .inr (0, [.ref h2])), (h2, .inl (kT, 320, .inl tb)), (h3, .inr (1, [.ref h4, .int wt])), (h4, .inl (kW, 6, .inl le)), (h5, .inr (2, [.int am, .int sd])), (h6, .inr (3, [.long s0, .long s1, .long s2, .long s3])), (h7, .inl (kB, 3, .inl lo))] sz) := by
  refine Met.ofW (cc := b_X_period) (maxL := 5) (ret := (some .long)) (by decide) rfl ?_
  intro p e s m args below meth c s₁ B hml hv
  obtain ⟨rfl, hsz, hP, hK, hD0, hN⟩ := hv
  have hx := B.exec
  have hb := B.bytes
  have hr := B.returns
  have hts0 := atoms_spec (ws := w_X_period) B.pre
  have hts : ∀ w ∈ wA_, w.before _ s = true := fun w h => hts0 w (List.mem_cons_of_mem _ h)
  have hown : s.vm.findClass R_X = some m.cls := findClass_of_methodNamed B.named
  have hlocks := B.notSynchronized
  subst hsz
  have hD := hD0.self (sz := s.heap.size)
  generalize hAe : va_A [(h0, .inr (4, [.ref h1, .ref h3, .ref h5, .ref h6, .ref h7, .int bn, .int cy, .int li, .int st, .int df, .int tm, .int tq, .int tp, .int pd, .int wa, .int ai, .int fu, .int mo, .int sp])), (h1, .inr (0, [.ref h2])), (h2, .inl (kT, 320, .inl tb)), (h3, .inr (1, [.ref h4, .int wt])), (h4, .inl (kW, 6, .inl le)), (h5, .inr (2, [.int am, .int sd])), (h6, .inr (3, [.long s0, .long s1, .long s2, .long s3])), (h7, .inl (kB, 3, .inl lo))] s.heap.size = A at hD ⊢
  have hA : ∀ q : Nat, s.heap.size ≤ q → A q := fun q h => by rw [← hAe]; exact Or.inr h
  have hS : va_S A s.heap s.heap [] := va_S.rf
  have hP : va_P (dC, dI) classes [(h0, .inr (4, [.ref h1, .ref h3, .ref h5, .ref h6, .ref h7, .int bn, .int cy, .int li, .int st, .int df, .int tm, .int tq, .int tp, .int pd, .int wa, .int ai, .int fu, .int mo, .int sp])), (h1, .inr (0, [.ref h2])), (h2, .inl (kT, 320, .inl tb)), (h3, .inr (1, [.ref h4, .int wt])), (h4, .inl (kW, 6, .inl le)), (h5, .inr (2, [.int am, .int sd])), (h6, .inr (3, [.long s0, .long s1, .long s2, .long s3])), (h7, .inl (kB, 3, .inl lo))] s.heap := hP
  have hl := lv_entry ([.ref h0, .long pv]) (n := 5) (Nat.le_of_ble_eq_true rfl)
  rw [lg_entry_eq]
  generalize (lg_sl ([.ref h0, .long pv]) ++ List.replicate (5 - (lg_sl ([.ref h0, .long pv])).length) Slot.unset).toArray = ls at hl ⊢
  have hl : lv_has ls 5 [(0, .ref h0), (1, .long pv)] := hl
  have hS : va_S A s.heap s.heap [] := hS
  refine st_ hP hS (fun H locs hP hS => ?_)
  refine lv_lload_n hx hb d_X_period_0 rfl (lv_at hl 1 rfl) ?_
  refine lv_ldc2 (v := 10000) hx hb hown (hts (.constantLong R_X 62 10000) mw_88) d_X_period_1 ?_
  have hPc := hP.sub (ws' := []) [] rfl
  have hDc := hD.sub (ws' := []) [] (by decide) rfl
  have hKc := hK.sub (tys' := []) [] rfl
  have hFc := va_free (wc := []) hD hS hA [] rfl
  refine ca_i (va_runS (As := [.long pv, .long 10000]) (rest := []) ⟨hx, hb, hml, hown, hts⟩ (c_X_isUpTo l dC dI H.size pv 10000) (va_cwS 2 hts (gS_ mw_84 mw_83 mw_52 mw_82) rfl rfl rfl (by decide +kernel) ⟨Nat.le_of_ble_eq_true rfl, Nat.le_of_ble_eq_true rfl⟩) ⟨fb_, pu_ hPc hKc hDc hN⟩ rfl rfl hl.1 rfl (lv_room (Nat.le_of_ble_eq_true rfl)) d_X_period_4 ⟨Nat.le_of_ble_eq_true rfl, Nat.le_of_ble_eq_true rfl⟩) hS (fun q _ h => hFc q h) hFc (fun t H locs ht hvm hB hz1 hk1 hS => ?_)
  obtain ⟨hP, hD⟩ := aft_ (wr := [(h0, .inr (4, [.ref h1, .ref h3, .ref h5, .ref h6, .ref h7, .int bn, .int cy, .int li, .int st, .int df, .int tm, .int tq, .int tp, .int pd, .int wa, .int ai, .int fu, .int mo, .int sp])), (h1, .inr (0, [.ref h2])), (h2, .inl (kT, 320, .inl tb)), (h3, .inr (1, [.ref h4, .int wt])), (h4, .inl (kW, 6, .inl le)), (h5, .inr (2, [.int am, .int sd])), (h6, .inr (3, [.long s0, .long s1, .long s2, .long s3])), (h7, .inl (kB, 3, .inl lo))]) (w1 := []) (w2 := [(h0, .inr (4, [.ref h1, .ref h3, .ref h5, .ref h6, .ref h7, .int bn, .int cy, .int li, .int st, .int df, .int tm, .int tq, .int tp, .int pd, .int wa, .int ai, .int fu, .int mo, .int sp])), (h1, .inr (0, [.ref h2])), (h2, .inl (kT, 320, .inl tb)), (h3, .inr (1, [.ref h4, .int wt])), (h4, .inl (kW, 6, .inl le)), (h5, .inr (2, [.int am, .int sd])), (h6, .inr (3, [.long s0, .long s1, .long s2, .long s3])), (h7, .inl (kB, 3, .inl lo))]) hP hD [] [0, 1, 2, 3, 4, 5, 6, 7] [0, 1, 2, 3, 4, 5, 6, 7] rfl rfl (by decide) (by decide) hk1 hFc hB ht rfl (by decide)
  refine lv_if_ne (tgt := 14) hx hb d_X_period_7 (by decide) (fun c_1 => ?_) (fun c_1 => ?_)
  · refine lv_lload_n hx hb d_X_period_14 rfl (lv_at hl 1 rfl) ?_
    refine lv_aload_n hx hb d_X_period_15 rfl (lv_at hl 0 rfl) ?_
    refine va_get (D := (dC, dI)) (ci := 4) (v := .int cy) (C := R_X) (T := F_X) (N := 19) hx hb hts in_X hown hK hP 0 rfl rfl 6 (by decide) (hts (.fieldLink R_X 45 "TorqueRows" "cylinders" "I") mw_129) (fun _ h9 => h9) rfl d_X_period_16 ?_
    refine lv_i2l (v := (cy.toInt64)) hx hb d_X_period_19 rfl ?_
    refine lv_lmul hx hb d_X_period_20 ?_
    refine lv_lstore_n (lv' := [(3, .long (pv * (cy.toInt64))), (0, .ref h0), (1, .long pv)]) hx hb d_X_period_21 rfl hl (by decide) rfl (fun ls hl => ?_)
    refine lv_lload_n hx hb d_X_period_22 rfl (lv_at hl 0 rfl) ?_
    refine lv_lconst (v := 0) hx hb d_X_period_23 (by decide) ?_
    refine W.lcmp hx hb d_X_period_24 ?_
    refine lv_if_ne (tgt := 38) hx hb d_X_period_25 (by decide) (fun c_2 => ?_) (fun c_2 => ?_)
    · refine lv_ldc2 (v := 120000000) hx hb hown (hts (.constantLong R_X 159 120000000) mw_325) d_X_period_38 ?_
      refine lv_lload_n hx hb d_X_period_41 rfl (lv_at hl 0 rfl) ?_
      refine lv_ldiv hx hb d_X_period_42 (fun q => ‹¬ (lg_cmp (pv * (cy.toInt64)) 0) = 0› ((lg_cmp_eq _ _).mpr q)) ?_
      have h9 : va_P (dC, dI) classes [(h0, .inr (4, [.ref h1, .ref h3, .ref h5, .ref h6, .ref h7, .int bn, .int cy, .int li, .int st, .int df, .int tm, .int tq, .int tp, .int pd, .int wa, .int ai, .int fu, .int mo, .int sp])), (h1, .inr (0, [.ref h2])), (h2, .inl (kT, 320, .inl tb)), (h3, .inr (1, [.ref h4, .int wt])), (h4, .inl (kW, 6, .inl le)), (h5, .inr (2, [.int am, .int sd])), (h6, .inr (3, [.long s0, .long s1, .long s2, .long s3])), (h7, .inl (kB, 3, .inl lo))] H ∧ va_D A [(h0, .inr (4, [.ref h1, .ref h3, .ref h5, .ref h6, .ref h7, .int bn, .int cy, .int li, .int st, .int df, .int tm, .int tq, .int tp, .int pd, .int wa, .int ai, .int fu, .int mo, .int sp])), (h1, .inr (0, [.ref h2])), (h2, .inl (kT, 320, .inl tb)), (h3, .inr (1, [.ref h4, .int wt])), (h4, .inl (kW, 6, .inl le)), (h5, .inr (2, [.int am, .int sd])), (h6, .inr (3, [.long s0, .long s1, .long s2, .long s3])), (h7, .inl (kB, 3, .inl lo))] := ⟨hP, hD⟩
      exact W.lret (v := (120000000 / (pv * (cy.toInt64)))) hx hb hr (fun t ht hW => ⟨⟨(120000000 / (pv * (cy.toInt64))), (), rfl, ((if_neg c_1)).symm, by rw [ht]; exact h9.1, va_K.moved hW.alike hK, h9.2⟩, hS.F ht⟩) hS.2.2 d_X_period_43
    · exact absurd c_2 (hth.resolve_left ‹¬ (fX_isUpTo pv 10000) = 0›)
  · refine lv_ldc2 (v := (-2)) hx hb hown (hts (.constantLong R_X 133 (-2)) mw_120) d_X_period_10 ?_
    have h9 : va_P (dC, dI) classes [(h0, .inr (4, [.ref h1, .ref h3, .ref h5, .ref h6, .ref h7, .int bn, .int cy, .int li, .int st, .int df, .int tm, .int tq, .int tp, .int pd, .int wa, .int ai, .int fu, .int mo, .int sp])), (h1, .inr (0, [.ref h2])), (h2, .inl (kT, 320, .inl tb)), (h3, .inr (1, [.ref h4, .int wt])), (h4, .inl (kW, 6, .inl le)), (h5, .inr (2, [.int am, .int sd])), (h6, .inr (3, [.long s0, .long s1, .long s2, .long s3])), (h7, .inl (kB, 3, .inl lo))] H ∧ va_D A [(h0, .inr (4, [.ref h1, .ref h3, .ref h5, .ref h6, .ref h7, .int bn, .int cy, .int li, .int st, .int df, .int tm, .int tq, .int tp, .int pd, .int wa, .int ai, .int fu, .int mo, .int sp])), (h1, .inr (0, [.ref h2])), (h2, .inl (kT, 320, .inl tb)), (h3, .inr (1, [.ref h4, .int wt])), (h4, .inl (kW, 6, .inl le)), (h5, .inr (2, [.int am, .int sd])), (h6, .inr (3, [.long s0, .long s1, .long s2, .long s3])), (h7, .inl (kB, 3, .inl lo))] := ⟨hP, hD⟩
    exact W.lret (v := (-2)) hx hb hr (fun t ht hW => ⟨⟨(-2), (), rfl, ((if_pos c_1)).symm, by rw [ht]; exact h9.1, va_K.moved hW.alike hK, h9.2⟩, hS.F ht⟩) hS.2.2 d_X_period_13
set_option maxHeartbeats 4000000 in
set_option maxRecDepth 100000 in
/-- TorqueRows.period at a speed that is allowed and gives no divisor: it throws; nothing old changes -/
theorem c_X_period_t (l : Launch) (hfl : l.flags = pinnedFlags ++ [noTraceFlag]) (dC : Nat → ClassId) (dI : Nat → Nat → Nat) (h0 h1 h2 h3 h4 h5 h6 h7 : Nat) (kT kW kB : ClassId) (sz : Nat) (bn : Int32) (cy : Int32) (li : Int32) (st : Int32) (df : Int32) (tm : Int32) (tq : Int32) (tp : Int32) (pd : Int32) (wa : Int32) (ai : Int32) (fu : Int32) (mo : Int32) (sp : Int32) (tb : Nat → Int32) (wt : Int32) (le : Nat → Int32) (am : Int32) (sd : Int32) (s0 : Int64) (s1 : Int64) (s2 : Int64) (s3 : Int64) (lo : Nat → Int32) (pv : Int64) (hup : ¬ (fX_isUpTo pv 10000) = 0) (hz : (lg_cmp (pv * (cy.toInt64)) 0) = 0) :
    MetFree l y_X_period (headSpec w_X_period { frames := 6, cells := 1, slots := 6, locals := 90 }) (va_Pc [.ref h0, .long pv] (prx_ (dC, dI) [(h0, .inr (4, [.ref h1, .ref h3, .ref h5, .ref h6, .ref h7, .int bn, .int cy, .int li, .int st, .int df, .int tm, .int tq, .int tp, .int pd, .int wa, .int ai, .int fu, .int mo, .int sp])), (h1, .inr (0, [.ref h2])), (h2, .inl (kT, 320, .inl tb)), (h3, .inr (1, [.ref h4, .int wt])), (h4, .inl (kW, 6, .inl le)), (h5, .inr (2, [.int am, .int sd])), (h6, .inr (3, [.long s0, .long s1, .long s2, .long s3])), (h7, .inl (kB, 3, .inl lo))] [(kT, .int), (kW, .int), (kB, .boolean)] sz)) (fun _ _ _ _ _ => True) xt_Q := by
  refine MetFree.of_bodyS (code := b_X_period) (maxLocals := 5) (ret := (some .long)) (by decide) ?_ ?_
  · intro args s m h hn
    obtain ⟨meth, c, h1, h2, h3, h4, h5, h6, -, -⟩ := Cond.code_spec hn (atoms_spec (ws := w_X_period) h _ List.mem_cons_self)
    exact ⟨meth, c, h1, h2, h3, h4, h5, h6⟩
  · intro p e s m args below meth c s₁ B hml hv _
    have hh0 : s₁.heap = s.heap := by rw [B.state]; rfl
    have hts0 := atoms_spec (ws := w_X_period) B.pre
    have hout : ∀ x ∈ c.exceptionTable.toList, False := by
      obtain ⟨meth9, c9, h1, h2, -, -, -, -, h7, -⟩ := Cond.code_spec B.named (hts0 _ List.mem_cons_self)
      cases Option.some.inj (h1.symm.trans B.method)
      cases Option.some.inj (h2.symm.trans (Stand.of_body B).code)
      intro x hx
      rw [Array.isEmpty_iff] at h7
      rw [h7] at hx
      cases hx
    have K : W p l e (headSpec w_X_period { frames := 6, cells := 1, slots := 6, locals := 90 }).room s m args below meth c s.heap [] 0 0 (fun t => ∃ o, t.status = .running ∧ Ended t below o ∧ xt_Q args s o t) (entryFrame m args 5) := by
      obtain ⟨rfl, ⟨hsz, hP, hK, hD0, hN⟩, hsx⟩ := hv
      have hx := B.exec
      have hb := B.bytes
      have hts : ∀ w ∈ wA_, w.before _ s = true := fun w h => hts0 w (List.mem_cons_of_mem _ h)
      have hown : s.vm.findClass R_X = some m.cls := findClass_of_methodNamed B.named
      have hlocks := B.notSynchronized
      have htr : e.platform.stackTraces = false := Launch.traces_off hfl (Stand.of_body B).admits
      have hS : va_S (fun q : Nat => s.heap.size ≤ q) s.heap s.heap [] := va_S.rf
      have hl := lv_entry ([.ref h0, .long pv]) (n := 5) (Nat.le_of_ble_eq_true rfl)
      rw [lg_entry_eq]
      generalize (lg_sl ([.ref h0, .long pv]) ++ List.replicate (5 - (lg_sl ([.ref h0, .long pv])).length) Slot.unset).toArray = ls at hl ⊢
      have hl : lv_has ls 5 [(0, .ref h0), (1, .long pv)] := hl
      refine st_ hP hS (fun H locs hP hS => ?_)
      refine lv_lload_n hx hb d_X_period_0 rfl (lv_at hl 1 rfl) ?_
      refine lv_ldc2 (v := 10000) hx hb hown (hts (.constantLong R_X 62 10000) mw_88) d_X_period_1 ?_
      have hFc : ∀ q, va_A ([] : va_W) H.size q → (fun q : Nat => s.heap.size ≤ q) q := fun q h => by
        rcases h with ⟨k, e, h⟩ | h
        · simp at h
        · exact Nat.le_trans hS.1 h
      refine ca_i (va_runS (As := [.long pv, .long 10000]) (rest := []) ⟨hx, hb, hml, hown, hts⟩ (c_X_isUpTo l dC dI H.size pv 10000) (va_cwS 2 hts (gS_ mw_84 mw_83 mw_52 mw_82) rfl rfl rfl (by decide +kernel) ⟨Nat.le_of_ble_eq_true rfl, Nat.le_of_ble_eq_true rfl⟩) ⟨fb_, pu_ (hP.sub (ws' := []) [] rfl) (hK.sub (tys' := []) [] rfl) (hD0.sub (ws' := []) [] (by decide) rfl) hN⟩ rfl rfl hl.1 rfl (lv_room (Nat.le_of_ble_eq_true rfl)) d_X_period_4 ⟨Nat.le_of_ble_eq_true rfl, Nat.le_of_ble_eq_true rfl⟩) hS (fun q _ h => hFc q h) hFc (fun t H1 locs ht hvm hB hz1 hk1 hS => ?_)
      have hP := hP.kept (H1 := H1) (fun k q hq => hk1 q.1 (hP k q hq).lt (fun h => by
        rcases h with ⟨k9, e9, h⟩ | h
        · simp at h
        · exact absurd (hP k q hq).lt (Nat.not_lt.mpr h)))
      refine lv_if_ne (tgt := 14) hx hb d_X_period_7 (by decide) (fun c_1 => ?_) (fun c_1 => ?_)
      · refine lv_lload_n hx hb d_X_period_14 rfl (lv_at hl 1 rfl) ?_
        refine lv_aload_n hx hb d_X_period_15 rfl (lv_at hl 0 rfl) ?_
        refine va_get (D := (dC, dI)) (ci := 4) (v := .int cy) (C := R_X) (T := F_X) (N := 19) hx hb hts in_X hown hK hP 0 rfl rfl 6 (by decide) (hts (.fieldLink R_X 45 "TorqueRows" "cylinders" "I") mw_129) (fun _ h9 => h9) rfl d_X_period_16 ?_
        refine lv_i2l (v := (cy.toInt64)) hx hb d_X_period_19 rfl ?_
        refine lv_lmul hx hb d_X_period_20 ?_
        refine lv_lstore_n (lv' := [(3, .long (pv * (cy.toInt64))), (0, .ref h0), (1, .long pv)]) hx hb d_X_period_21 rfl hl (by decide) rfl (fun ls hl => ?_)
        refine lv_lload_n hx hb d_X_period_22 rfl (lv_at hl 0 rfl) ?_
        refine lv_lconst (v := 0) hx hb d_X_period_23 (by decide) ?_
        refine W.lcmp hx hb d_X_period_24 ?_
        refine lv_if_ne (tgt := 38) hx hb d_X_period_25 (by decide) (fun c_2 => ?_) (fun c_2 => ?_)
        · exact absurd hz c_2
        · refine va_forget (fun q hq => hS.2.2 q hq) ?_
          exact xt_throw hx hb htr hown hts hsx (hl.1.trans hml.symm) hout (Nat.le_of_ble_eq_true rfl) (Nat.le_of_ble_eq_true rfl) (Nat.le_of_ble_eq_true rfl) (Nat.le_of_ble_eq_true rfl) hlocks
      · exact absurd c_1 hup
    obtain ⟨t, a1, o, b1, b2, b3⟩ := K s₁ hh0 (Stand.of_body B)
    exact ⟨t, o, a1, b1, b2, b3⟩
