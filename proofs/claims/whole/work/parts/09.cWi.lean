set_option maxHeartbeats 4000000 in
set_option maxRecDepth 100000 in
theorem c_Wi_clear (l : Launch) (dC : Nat → ClassId) (dI : Nat → Nat → Nat) (h3 h4 : Nat) (kW : ClassId) (sz : Nat) (wt : Int32) (le : Nat → Int32) : Met l y_Wi_clear w_Wi_clear { frames := 0, cells := 0, slots := 0, locals := 0 } (va_Pc [.ref h3] (pr_ (dC, dI) [(h3, .inr (1, [.ref h4, .int wt])), (h4, .inl (kW, 6, .inl le))] [(kW, .int)] sz)) (va_Qv (fun (_ : Unit) => True) (fun _ t => at_ (dC, dI) (va_A [(h3, .inr (1, [.ref h4, .int wt])), (h4, .inl (kW, 6, .inl le))] sz) [(h3, .inr (1, [.ref h4, .int 0])), (h4, .inl (kW, 6, .inl (vWi_clear_4 le)))] [(kW, .int)] t) (va_A [(h3, .inr (1, [.ref h4, .int wt])), (h4, .inl (kW, 6, .inl le))] sz)) 0 0 (va_A [(h3, .inr (1, [.ref h4, .int wt])), (h4, .inl (kW, 6, .inl le))] sz) := by
  refine Met.ofW (cc := b_Wi_clear) (maxL := 2) (ret := none) (by decide) rfl ?_
  intro p e s m args below meth c s₁ B hml hv
  obtain ⟨rfl, hsz, hP, hK, hD0, hN⟩ := hv
  have hx := B.exec
  have hb := B.bytes
  have hr := B.returns
  have hts0 := atoms_spec (ws := w_Wi_clear) B.pre
  have hts : ∀ w ∈ wA_, w.before _ s = true := fun w h => hts0 w (List.mem_cons_of_mem _ h)
  have hown : s.vm.findClass R_Wi = some m.cls := findClass_of_methodNamed B.named
  have hlocks := B.notSynchronized
  subst hsz
  have hD := hD0.self (sz := s.heap.size)
  generalize hAe : va_A [(h3, .inr (1, [.ref h4, .int wt])), (h4, .inl (kW, 6, .inl le))] s.heap.size = A at hD ⊢
  have hA : ∀ q : Nat, s.heap.size ≤ q → A q := fun q h => by rw [← hAe]; exact Or.inr h
  have hS : va_S A s.heap s.heap [] := va_S.rf
  have hP : va_P (dC, dI) classes [(h3, .inr (1, [.ref h4, .int wt])), (h4, .inl (kW, 6, .inl le))] s.heap := hP
  have hl := lv_entry ([.ref h3]) (n := 2) (Nat.le_of_ble_eq_true rfl)
  rw [lg_entry_eq]
  generalize (lg_sl ([.ref h3]) ++ List.replicate (2 - (lg_sl ([.ref h3])).length) Slot.unset).toArray = ls at hl ⊢
  have hl : lv_has ls 2 [(0, .ref h3)] := hl
  have hS : va_S A s.heap s.heap [] := hS
  refine st_ hP hS (fun H locs hP hS => ?_)
  refine lv_iconst (v := 0) hx hb d_Wi_clear_0 (by decide) ?_
  refine lv_istore_n (lv' := [(1, .int 0), (0, .ref h3)]) hx hb d_Wi_clear_1 rfl hl (by decide) rfl (fun ls hl => ?_)
  refine lv_iload_n hx hb d_Wi_clear_2 rfl (lv_at hl 0 rfl) ?_
  refine lv_iconst (v := 5) hx hb d_Wi_clear_3 (by decide) ?_
  refine lv_icmp_gt (tgt := 20) hx hb d_Wi_clear_4 (by decide) (fun c_1 => ?_) (fun c_1 => ?_)
  · exact absurd c_1 (by decide)
  · refine lv_aload_n hx hb d_Wi_clear_7 rfl (lv_at hl 1 rfl) ?_
    refine va_get (D := (dC, dI)) (ci := 1) (v := .ref h4) (C := R_Wi) (T := F_Wi) (N := 2) hx hb hts in_Wi hown hK hP 0 rfl rfl 0 (by decide) (hts (.fieldLink R_Wi 9 "TorqueRows$Wishes" "least" "[I") mw_16) (fun _ h9 => h9) rfl d_Wi_clear_8 ?_
    refine lv_iload_n hx hb d_Wi_clear_11 rfl (lv_at hl 0 rfl) ?_
    refine lv_iconst (v := (-1)) hx hb d_Wi_clear_12 (by decide) ?_
    refine va_iast hx hb hK hP hD hS 1 0 rfl rfl (by unfold vp_in; decide) d_Wi_clear_13 (fun H locs hP hD hS => ?_)
    have hP : va_P (dC, dI) classes [(h3, .inr (1, [.ref h4, .int wt])), (h4, .inl (kW, 6, .inl (upd le (0 : Int32).toNatClampNeg (-1))))] H := hP
    have hD : va_D A [(h3, .inr (1, [.ref h4, .int wt])), (h4, .inl (kW, 6, .inl (upd le (0 : Int32).toNatClampNeg (-1))))] := hD
    refine lv_iinc (v := 1) (lv' := [(1, .int 1), (0, .ref h3)]) hx hb d_Wi_clear_14 hl (k := 0) rfl (by decide) (by decide) rfl (fun ls hl => ?_)
    refine lv_goto (tgt := 2) hx hb d_Wi_clear_17 (by decide) ?_
    refine lv_iload_n hx hb d_Wi_clear_2 rfl (lv_at hl 0 rfl) ?_
    refine lv_iconst (v := 5) hx hb d_Wi_clear_3 (by decide) ?_
    refine lv_icmp_gt (tgt := 20) hx hb d_Wi_clear_4 (by decide) (fun c_2 => ?_) (fun c_2 => ?_)
    · exact absurd c_2 (by decide)
    · refine lv_aload_n hx hb d_Wi_clear_7 rfl (lv_at hl 1 rfl) ?_
      refine va_get (D := (dC, dI)) (ci := 1) (v := .ref h4) (C := R_Wi) (T := F_Wi) (N := 2) hx hb hts in_Wi hown hK hP 0 rfl rfl 0 (by decide) (hts (.fieldLink R_Wi 9 "TorqueRows$Wishes" "least" "[I") mw_16) (fun _ h9 => h9) rfl d_Wi_clear_8 ?_
      refine lv_iload_n hx hb d_Wi_clear_11 rfl (lv_at hl 0 rfl) ?_
      refine lv_iconst (v := (-1)) hx hb d_Wi_clear_12 (by decide) ?_
      refine va_iast hx hb hK hP hD hS 1 0 rfl rfl (by unfold vp_in; decide) d_Wi_clear_13 (fun H locs hP hD hS => ?_)
      have hP : va_P (dC, dI) classes [(h3, .inr (1, [.ref h4, .int wt])), (h4, .inl (kW, 6, .inl (vWi_clear_0 le)))] H := hP
      have hD : va_D A [(h3, .inr (1, [.ref h4, .int wt])), (h4, .inl (kW, 6, .inl (vWi_clear_0 le)))] := hD
      refine lv_iinc (v := 2) (lv' := [(1, .int 2), (0, .ref h3)]) hx hb d_Wi_clear_14 hl (k := 0) rfl (by decide) (by decide) rfl (fun ls hl => ?_)
      refine lv_goto (tgt := 2) hx hb d_Wi_clear_17 (by decide) ?_
      refine lv_iload_n hx hb d_Wi_clear_2 rfl (lv_at hl 0 rfl) ?_
      refine lv_iconst (v := 5) hx hb d_Wi_clear_3 (by decide) ?_
      refine lv_icmp_gt (tgt := 20) hx hb d_Wi_clear_4 (by decide) (fun c_3 => ?_) (fun c_3 => ?_)
      · exact absurd c_3 (by decide)
      · refine lv_aload_n hx hb d_Wi_clear_7 rfl (lv_at hl 1 rfl) ?_
        refine va_get (D := (dC, dI)) (ci := 1) (v := .ref h4) (C := R_Wi) (T := F_Wi) (N := 2) hx hb hts in_Wi hown hK hP 0 rfl rfl 0 (by decide) (hts (.fieldLink R_Wi 9 "TorqueRows$Wishes" "least" "[I") mw_16) (fun _ h9 => h9) rfl d_Wi_clear_8 ?_
        refine lv_iload_n hx hb d_Wi_clear_11 rfl (lv_at hl 0 rfl) ?_
        refine lv_iconst (v := (-1)) hx hb d_Wi_clear_12 (by decide) ?_
        refine va_iast hx hb hK hP hD hS 1 0 rfl rfl (by unfold vp_in; decide) d_Wi_clear_13 (fun H locs hP hD hS => ?_)
        have hP : va_P (dC, dI) classes [(h3, .inr (1, [.ref h4, .int wt])), (h4, .inl (kW, 6, .inl (vWi_clear_1 le)))] H := hP
        have hD : va_D A [(h3, .inr (1, [.ref h4, .int wt])), (h4, .inl (kW, 6, .inl (vWi_clear_1 le)))] := hD
        refine lv_iinc (v := 3) (lv' := [(1, .int 3), (0, .ref h3)]) hx hb d_Wi_clear_14 hl (k := 0) rfl (by decide) (by decide) rfl (fun ls hl => ?_)
        refine lv_goto (tgt := 2) hx hb d_Wi_clear_17 (by decide) ?_
        refine lv_iload_n hx hb d_Wi_clear_2 rfl (lv_at hl 0 rfl) ?_
        refine lv_iconst (v := 5) hx hb d_Wi_clear_3 (by decide) ?_
        refine lv_icmp_gt (tgt := 20) hx hb d_Wi_clear_4 (by decide) (fun c_4 => ?_) (fun c_4 => ?_)
        · exact absurd c_4 (by decide)
        · refine lv_aload_n hx hb d_Wi_clear_7 rfl (lv_at hl 1 rfl) ?_
          refine va_get (D := (dC, dI)) (ci := 1) (v := .ref h4) (C := R_Wi) (T := F_Wi) (N := 2) hx hb hts in_Wi hown hK hP 0 rfl rfl 0 (by decide) (hts (.fieldLink R_Wi 9 "TorqueRows$Wishes" "least" "[I") mw_16) (fun _ h9 => h9) rfl d_Wi_clear_8 ?_
          refine lv_iload_n hx hb d_Wi_clear_11 rfl (lv_at hl 0 rfl) ?_
          refine lv_iconst (v := (-1)) hx hb d_Wi_clear_12 (by decide) ?_
          refine va_iast hx hb hK hP hD hS 1 0 rfl rfl (by unfold vp_in; decide) d_Wi_clear_13 (fun H locs hP hD hS => ?_)
          have hP : va_P (dC, dI) classes [(h3, .inr (1, [.ref h4, .int wt])), (h4, .inl (kW, 6, .inl (vWi_clear_2 le)))] H := hP
          have hD : va_D A [(h3, .inr (1, [.ref h4, .int wt])), (h4, .inl (kW, 6, .inl (vWi_clear_2 le)))] := hD
          refine lv_iinc (v := 4) (lv' := [(1, .int 4), (0, .ref h3)]) hx hb d_Wi_clear_14 hl (k := 0) rfl (by decide) (by decide) rfl (fun ls hl => ?_)
          refine lv_goto (tgt := 2) hx hb d_Wi_clear_17 (by decide) ?_
          refine lv_iload_n hx hb d_Wi_clear_2 rfl (lv_at hl 0 rfl) ?_
          refine lv_iconst (v := 5) hx hb d_Wi_clear_3 (by decide) ?_
          refine lv_icmp_gt (tgt := 20) hx hb d_Wi_clear_4 (by decide) (fun c_5 => ?_) (fun c_5 => ?_)
          · exact absurd c_5 (by decide)
          · refine lv_aload_n hx hb d_Wi_clear_7 rfl (lv_at hl 1 rfl) ?_
            refine va_get (D := (dC, dI)) (ci := 1) (v := .ref h4) (C := R_Wi) (T := F_Wi) (N := 2) hx hb hts in_Wi hown hK hP 0 rfl rfl 0 (by decide) (hts (.fieldLink R_Wi 9 "TorqueRows$Wishes" "least" "[I") mw_16) (fun _ h9 => h9) rfl d_Wi_clear_8 ?_
            refine lv_iload_n hx hb d_Wi_clear_11 rfl (lv_at hl 0 rfl) ?_
            refine lv_iconst (v := (-1)) hx hb d_Wi_clear_12 (by decide) ?_
            refine va_iast hx hb hK hP hD hS 1 0 rfl rfl (by unfold vp_in; decide) d_Wi_clear_13 (fun H locs hP hD hS => ?_)
            have hP : va_P (dC, dI) classes [(h3, .inr (1, [.ref h4, .int wt])), (h4, .inl (kW, 6, .inl (vWi_clear_3 le)))] H := hP
            have hD : va_D A [(h3, .inr (1, [.ref h4, .int wt])), (h4, .inl (kW, 6, .inl (vWi_clear_3 le)))] := hD
            refine lv_iinc (v := 5) (lv' := [(1, .int 5), (0, .ref h3)]) hx hb d_Wi_clear_14 hl (k := 0) rfl (by decide) (by decide) rfl (fun ls hl => ?_)
            refine lv_goto (tgt := 2) hx hb d_Wi_clear_17 (by decide) ?_
            refine lv_iload_n hx hb d_Wi_clear_2 rfl (lv_at hl 0 rfl) ?_
            refine lv_iconst (v := 5) hx hb d_Wi_clear_3 (by decide) ?_
            refine lv_icmp_gt (tgt := 20) hx hb d_Wi_clear_4 (by decide) (fun c_6 => ?_) (fun c_6 => ?_)
            · exact absurd c_6 (by decide)
            · refine lv_aload_n hx hb d_Wi_clear_7 rfl (lv_at hl 1 rfl) ?_
              refine va_get (D := (dC, dI)) (ci := 1) (v := .ref h4) (C := R_Wi) (T := F_Wi) (N := 2) hx hb hts in_Wi hown hK hP 0 rfl rfl 0 (by decide) (hts (.fieldLink R_Wi 9 "TorqueRows$Wishes" "least" "[I") mw_16) (fun _ h9 => h9) rfl d_Wi_clear_8 ?_
              refine lv_iload_n hx hb d_Wi_clear_11 rfl (lv_at hl 0 rfl) ?_
              refine lv_iconst (v := (-1)) hx hb d_Wi_clear_12 (by decide) ?_
              refine va_iast hx hb hK hP hD hS 1 0 rfl rfl (by unfold vp_in; decide) d_Wi_clear_13 (fun H locs hP hD hS => ?_)
              have hP : va_P (dC, dI) classes [(h3, .inr (1, [.ref h4, .int wt])), (h4, .inl (kW, 6, .inl (vWi_clear_4 le)))] H := hP
              have hD : va_D A [(h3, .inr (1, [.ref h4, .int wt])), (h4, .inl (kW, 6, .inl (vWi_clear_4 le)))] := hD
              refine lv_iinc (v := 6) (lv' := [(1, .int 6), (0, .ref h3)]) hx hb d_Wi_clear_14 hl (k := 0) rfl (by decide) (by decide) rfl (fun ls hl => ?_)
              refine lv_goto (tgt := 2) hx hb d_Wi_clear_17 (by decide) ?_
              refine lv_iload_n hx hb d_Wi_clear_2 rfl (lv_at hl 0 rfl) ?_
              refine lv_iconst (v := 5) hx hb d_Wi_clear_3 (by decide) ?_
              refine lv_icmp_gt (tgt := 20) hx hb d_Wi_clear_4 (by decide) (fun c_7 => ?_) (fun c_7 => ?_)
              · refine lv_aload_n hx hb d_Wi_clear_20 rfl (lv_at hl 1 rfl) ?_
                refine lv_iconst (v := 0) hx hb d_Wi_clear_21 (by decide) ?_
                refine va_put (D := (dC, dI)) (ci := 1) (v := .int 0) (ty := .int) (C := R_Wi) (T := F_Wi) (N := 2) hx hb hts in_Wi t_Wi t_Wi_ok n_Wi hown hK hP hD hS 0 rfl rfl 1 (by decide) (hts (.fieldLink R_Wi 16 "TorqueRows$Wishes" "waiting" "I") mw_17) (fun _ h9 => h9) rfl (by decide +kernel) rfl rfl (Nat.le_of_ble_eq_true rfl) d_Wi_clear_22 (fun H locs hP hD hS => ?_)
                have hP : va_P (dC, dI) classes [(h3, .inr (1, [.ref h4, .int 0])), (h4, .inl (kW, 6, .inl (vWi_clear_4 le)))] H := hP
                have hD : va_D A [(h3, .inr (1, [.ref h4, .int 0])), (h4, .inl (kW, 6, .inl (vWi_clear_4 le)))] := hD
                have h9 : va_P (dC, dI) classes [(h3, .inr (1, [.ref h4, .int 0])), (h4, .inl (kW, 6, .inl (vWi_clear_4 le)))] H ∧ va_D A [(h3, .inr (1, [.ref h4, .int 0])), (h4, .inl (kW, 6, .inl (vWi_clear_4 le)))] := ⟨hP, hD⟩
                exact W.vret hx hb hr (fun t ht hW => ⟨⟨(), rfl, trivial, by rw [ht]; exact h9.1, va_K.moved hW.alike hK, h9.2⟩, hS.F ht⟩) hS.2.2 d_Wi_clear_25
              · exact absurd (by decide) c_7
set_option maxHeartbeats 4000000 in
set_option maxRecDepth 100000 in
theorem c_Wi_add (l : Launch) (dC : Nat → ClassId) (dI : Nat → Nat → Nat) (h3 h4 : Nat) (kW : ClassId) (sz : Nat) (wt : Int32) (le : Nat → Int32) (rk : Int32) (pv : Int32) (hin : vp_in rk 6) : Met l y_Wi_add w_Wi_add { frames := 0, cells := 0, slots := 0, locals := 0 } (va_Pc [.ref h3, .int rk, .int pv] (pr_ (dC, dI) [(h3, .inr (1, [.ref h4, .int wt])), (h4, .inl (kW, 6, .inl le))] [(kW, .int)] sz)) (va_Qi (fun r (_ : Unit) => r = (wt + 1)) (fun _ t => at_ (dC, dI) (va_A [(h3, .inr (1, [.ref h4, .int wt])), (h4, .inl (kW, 6, .inl le))] sz) [(h3, .inr (1, [.ref h4, .int (wt + 1)])), (h4, .inl (kW, 6, .inl (vWi_add_0 le rk pv)))] [(kW, .int)] t) (va_A [(h3, .inr (1, [.ref h4, .int wt])), (h4, .inl (kW, 6, .inl le))] sz)) 0 0 (va_A [(h3, .inr (1, [.ref h4, .int wt])), (h4, .inl (kW, 6, .inl le))] sz) := by
  refine Met.ofW (cc := b_Wi_add) (maxL := 3) (ret := (some .int)) (by decide) rfl ?_
  intro p e s m args below meth c s₁ B hml hv
  obtain ⟨rfl, hsz, hP, hK, hD0, hN⟩ := hv
  have hx := B.exec
  have hb := B.bytes
  have hr := B.returns
  have hts0 := atoms_spec (ws := w_Wi_add) B.pre
  have hts : ∀ w ∈ wA_, w.before _ s = true := fun w h => hts0 w (List.mem_cons_of_mem _ h)
  have hown : s.vm.findClass R_Wi = some m.cls := findClass_of_methodNamed B.named
  have hlocks := B.notSynchronized
  subst hsz
  have hD := hD0.self (sz := s.heap.size)
  generalize hAe : va_A [(h3, .inr (1, [.ref h4, .int wt])), (h4, .inl (kW, 6, .inl le))] s.heap.size = A at hD ⊢
  have hA : ∀ q : Nat, s.heap.size ≤ q → A q := fun q h => by rw [← hAe]; exact Or.inr h
  have hS : va_S A s.heap s.heap [] := va_S.rf
  have hP : va_P (dC, dI) classes [(h3, .inr (1, [.ref h4, .int wt])), (h4, .inl (kW, 6, .inl le))] s.heap := hP
  have hl := lv_entry ([.ref h3, .int rk, .int pv]) (n := 3) (Nat.le_of_ble_eq_true rfl)
  rw [lg_entry_eq]
  generalize (lg_sl ([.ref h3, .int rk, .int pv]) ++ List.replicate (3 - (lg_sl ([.ref h3, .int rk, .int pv])).length) Slot.unset).toArray = ls at hl ⊢
  have hl : lv_has ls 3 [(0, .ref h3), (1, .int rk), (2, .int pv)] := hl
  have hS : va_S A s.heap s.heap [] := hS
  refine st_ hP hS (fun H locs hP hS => ?_)
  refine lv_aload_n hx hb d_Wi_add_0 rfl (lv_at hl 0 rfl) ?_
  refine va_get (D := (dC, dI)) (ci := 1) (v := .ref h4) (C := R_Wi) (T := F_Wi) (N := 2) hx hb hts in_Wi hown hK hP 0 rfl rfl 0 (by decide) (hts (.fieldLink R_Wi 9 "TorqueRows$Wishes" "least" "[I") mw_16) (fun _ h9 => h9) rfl d_Wi_add_1 ?_
  refine lv_iload_n hx hb d_Wi_add_4 rfl (lv_at hl 1 rfl) ?_
  refine va_iald hx hb hK hP 1 0 rfl rfl hin d_Wi_add_5 ?_
  refine lv_iconst (v := (-1)) hx hb d_Wi_add_6 (by decide) ?_
  refine jn 3 [(0, .ref h3), (1, .int rk), (2, .int pv)] [(h3, .inr (1, [.ref h4, .int wt])), (h4, .inl (kW, 6, .inl (vWi_add_0 le rk pv)))] 27 [] (D := (dC, dI)) (A := A) (H0 := s.heap) (fun ls H locs hl hP hD hS => ?_) (fun J_3 => ?_)
  · refine lv_aload_n hx hb d_Wi_add_27 rfl (lv_at hl 0 rfl) ?_
    refine lv_dup hx hb d_Wi_add_28 rfl ?_
    refine va_get (D := (dC, dI)) (ci := 1) (v := .int wt) (C := R_Wi) (T := F_Wi) (N := 2) hx hb hts in_Wi hown hK hP 0 rfl rfl 1 (by decide) (hts (.fieldLink R_Wi 16 "TorqueRows$Wishes" "waiting" "I") mw_17) (fun _ h9 => h9) rfl d_Wi_add_29 ?_
    refine lv_iconst (v := 1) hx hb d_Wi_add_32 (by decide) ?_
    refine lv_iadd hx hb d_Wi_add_33 ?_
    refine va_put (D := (dC, dI)) (ci := 1) (v := .int (wt + 1)) (ty := .int) (C := R_Wi) (T := F_Wi) (N := 2) hx hb hts in_Wi t_Wi t_Wi_ok n_Wi hown hK hP hD hS 0 rfl rfl 1 (by decide) (hts (.fieldLink R_Wi 16 "TorqueRows$Wishes" "waiting" "I") mw_17) (fun _ h9 => h9) rfl (by decide +kernel) rfl rfl (Nat.le_of_ble_eq_true rfl) d_Wi_add_34 (fun H locs hP hD hS => ?_)
    have hP : va_P (dC, dI) classes [(h3, .inr (1, [.ref h4, .int (wt + 1)])), (h4, .inl (kW, 6, .inl (vWi_add_0 le rk pv)))] H := hP
    have hD : va_D A [(h3, .inr (1, [.ref h4, .int (wt + 1)])), (h4, .inl (kW, 6, .inl (vWi_add_0 le rk pv)))] := hD
    refine lv_aload_n hx hb d_Wi_add_37 rfl (lv_at hl 0 rfl) ?_
    refine va_get (D := (dC, dI)) (ci := 1) (v := .int (wt + 1)) (C := R_Wi) (T := F_Wi) (N := 2) hx hb hts in_Wi hown hK hP 0 rfl rfl 1 (by decide) (hts (.fieldLink R_Wi 16 "TorqueRows$Wishes" "waiting" "I") mw_17) (fun _ h9 => h9) rfl d_Wi_add_38 ?_
    have h9 : va_P (dC, dI) classes [(h3, .inr (1, [.ref h4, .int (wt + 1)])), (h4, .inl (kW, 6, .inl (vWi_add_0 le rk pv)))] H ∧ va_D A [(h3, .inr (1, [.ref h4, .int (wt + 1)])), (h4, .inl (kW, 6, .inl (vWi_add_0 le rk pv)))] := ⟨hP, hD⟩
    exact W.iret (v := (wt + 1)) hx hb hr (fun t ht hW => ⟨⟨(wt + 1), (), rfl, rfl, by rw [ht]; exact h9.1, va_K.moved hW.alike hK, h9.2⟩, hS.F ht⟩) hS.2.2 d_Wi_add_41
  · refine lv_icmp_eq (tgt := 20) hx hb d_Wi_add_7 (by decide) (fun c_1 => ?_) (fun c_1 => ?_)
    · refine lv_aload_n hx hb d_Wi_add_20 rfl (lv_at hl 0 rfl) ?_
      refine va_get (D := (dC, dI)) (ci := 1) (v := .ref h4) (C := R_Wi) (T := F_Wi) (N := 2) hx hb hts in_Wi hown hK hP 0 rfl rfl 0 (by decide) (hts (.fieldLink R_Wi 9 "TorqueRows$Wishes" "least" "[I") mw_16) (fun _ h9 => h9) rfl d_Wi_add_21 ?_
      refine lv_iload_n hx hb d_Wi_add_24 rfl (lv_at hl 1 rfl) ?_
      refine lv_iload_n hx hb d_Wi_add_25 rfl (lv_at hl 2 rfl) ?_
      refine va_iast hx hb hK hP hD hS 1 0 rfl rfl hin d_Wi_add_26 (fun H locs hP hD hS => ?_)
      have hP : va_P (dC, dI) classes [(h3, .inr (1, [.ref h4, .int wt])), (h4, .inl (kW, 6, .inl (upd le rk.toNatClampNeg pv)))] H := hP
      have hD : va_D A [(h3, .inr (1, [.ref h4, .int wt])), (h4, .inl (kW, 6, .inl (upd le rk.toNatClampNeg pv)))] := hD
      exact J_3 _ _ _ (lv_sub hl [0, 1, 2] rfl) (by rw [show (vWi_add_0 le rk pv) = (upd le rk.toNatClampNeg pv) from (if_pos c_1)]; exact hP) (by rw [show (vWi_add_0 le rk pv) = (upd le rk.toNatClampNeg pv) from (if_pos c_1)]; exact hD) hS
    · refine lv_iload_n hx hb d_Wi_add_10 rfl (lv_at hl 2 rfl) ?_
      refine lv_aload_n hx hb d_Wi_add_11 rfl (lv_at hl 0 rfl) ?_
      refine va_get (D := (dC, dI)) (ci := 1) (v := .ref h4) (C := R_Wi) (T := F_Wi) (N := 2) hx hb hts in_Wi hown hK hP 0 rfl rfl 0 (by decide) (hts (.fieldLink R_Wi 9 "TorqueRows$Wishes" "least" "[I") mw_16) (fun _ h9 => h9) rfl d_Wi_add_12 ?_
      refine lv_iload_n hx hb d_Wi_add_15 rfl (lv_at hl 1 rfl) ?_
      refine va_iald hx hb hK hP 1 0 rfl rfl hin d_Wi_add_16 ?_
      refine lv_icmp_ge (tgt := 27) hx hb d_Wi_add_17 (by decide) (fun c_4 => ?_) (fun c_4 => ?_)
      · exact J_3 _ _ _ (lv_sub hl [0, 1, 2] rfl) (by rw [show (vWi_add_0 le rk pv) = le from ((if_neg c_1).trans (if_pos c_4))]; exact hP) (by rw [show (vWi_add_0 le rk pv) = le from ((if_neg c_1).trans (if_pos c_4))]; exact hD) hS
      · refine lv_aload_n hx hb d_Wi_add_20 rfl (lv_at hl 0 rfl) ?_
        refine va_get (D := (dC, dI)) (ci := 1) (v := .ref h4) (C := R_Wi) (T := F_Wi) (N := 2) hx hb hts in_Wi hown hK hP 0 rfl rfl 0 (by decide) (hts (.fieldLink R_Wi 9 "TorqueRows$Wishes" "least" "[I") mw_16) (fun _ h9 => h9) rfl d_Wi_add_21 ?_
        refine lv_iload_n hx hb d_Wi_add_24 rfl (lv_at hl 1 rfl) ?_
        refine lv_iload_n hx hb d_Wi_add_25 rfl (lv_at hl 2 rfl) ?_
        refine va_iast hx hb hK hP hD hS 1 0 rfl rfl hin d_Wi_add_26 (fun H locs hP hD hS => ?_)
        have hP : va_P (dC, dI) classes [(h3, .inr (1, [.ref h4, .int wt])), (h4, .inl (kW, 6, .inl (upd le rk.toNatClampNeg pv)))] H := hP
        have hD : va_D A [(h3, .inr (1, [.ref h4, .int wt])), (h4, .inl (kW, 6, .inl (upd le rk.toNatClampNeg pv)))] := hD
        exact J_3 _ _ _ (lv_sub hl [0, 1, 2] rfl) (by rw [show (vWi_add_0 le rk pv) = (upd le rk.toNatClampNeg pv) from ((if_neg c_1).trans (if_neg c_4))]; exact hP) (by rw [show (vWi_add_0 le rk pv) = (upd le rk.toNatClampNeg pv) from ((if_neg c_1).trans (if_neg c_4))]; exact hD) hS
set_option maxHeartbeats 4000000 in
set_option maxRecDepth 100000 in
theorem c_Wi_appliedTo (l : Launch) (dC : Nat → ClassId) (dI : Nat → Nat → Nat) (h3 h4 : Nat) (kW : ClassId) (sz : Nat) (wt : Int32) (le : Nat → Int32) (p0 : Int32) : Met l y_Wi_appliedTo w_Wi_appliedTo { frames := 1, cells := 0, slots := 0, locals := 21 } (va_Pc [.ref h3, .int p0] (pr_ (dC, dI) [(h3, .inr (1, [.ref h4, .int wt])), (h4, .inl (kW, 6, .inl le))] [(kW, .int)] sz)) (va_Qi (fun r (_ : Unit) => r = (fWi_appliedTo le p0)) (fun _ t => at_ (dC, dI) (va_A [(h3, .inr (1, [.ref h4, .int wt])), (h4, .inl (kW, 6, .inl le))] sz) [(h3, .inr (1, [.ref h4, .int wt])), (h4, .inl (kW, 6, .inl le))] [(kW, .int)] t) (va_A [(h3, .inr (1, [.ref h4, .int wt])), (h4, .inl (kW, 6, .inl le))] sz)) 0 0 (va_A [(h3, .inr (1, [.ref h4, .int wt])), (h4, .inl (kW, 6, .inl le))] sz) := by
  refine Met.ofW (cc := b_Wi_appliedTo) (maxL := 4) (ret := (some .int)) (by decide) rfl ?_
  intro p e s m args below meth c s₁ B hml hv
  obtain ⟨rfl, hsz, hP, hK, hD0, hN⟩ := hv
  have hx := B.exec
  have hb := B.bytes
  have hr := B.returns
  have hts0 := atoms_spec (ws := w_Wi_appliedTo) B.pre
  have hts : ∀ w ∈ wA_, w.before _ s = true := fun w h => hts0 w (List.mem_cons_of_mem _ h)
  have hown : s.vm.findClass R_Wi = some m.cls := findClass_of_methodNamed B.named
  have hlocks := B.notSynchronized
  subst hsz
  have hD := hD0.self (sz := s.heap.size)
  generalize hAe : va_A [(h3, .inr (1, [.ref h4, .int wt])), (h4, .inl (kW, 6, .inl le))] s.heap.size = A at hD ⊢
  have hA : ∀ q : Nat, s.heap.size ≤ q → A q := fun q h => by rw [← hAe]; exact Or.inr h
  have hS : va_S A s.heap s.heap [] := va_S.rf
  have hP : va_P (dC, dI) classes [(h3, .inr (1, [.ref h4, .int wt])), (h4, .inl (kW, 6, .inl le))] s.heap := hP
  have hl := lv_entry ([.ref h3, .int p0]) (n := 4) (Nat.le_of_ble_eq_true rfl)
  rw [lg_entry_eq]
  generalize (lg_sl ([.ref h3, .int p0]) ++ List.replicate (4 - (lg_sl ([.ref h3, .int p0])).length) Slot.unset).toArray = ls at hl ⊢
  have hl : lv_has ls 4 [(0, .ref h3), (1, .int p0)] := hl
  have hS : va_S A s.heap s.heap [] := hS
  refine st_ hP hS (fun H locs hP hS => ?_)
  refine lv_iload_n hx hb d_Wi_appliedTo_0 rfl (lv_at hl 1 rfl) ?_
  refine lv_istore_n (lv' := [(2, .int p0), (0, .ref h3), (1, .int p0)]) hx hb d_Wi_appliedTo_1 rfl hl (by decide) rfl (fun ls hl => ?_)
  refine lv_iconst (v := 1) hx hb d_Wi_appliedTo_2 (by decide) ?_
  refine lv_istore_n (lv' := [(3, .int 1), (2, .int p0), (0, .ref h3), (1, .int p0)]) hx hb d_Wi_appliedTo_3 rfl hl (by decide) rfl (fun ls hl => ?_)
  refine lv_iload_n hx hb d_Wi_appliedTo_4 rfl (lv_at hl 0 rfl) ?_
  refine lv_iconst (v := 5) hx hb d_Wi_appliedTo_5 (by decide) ?_
  refine lv_icmp_gt (tgt := 56) hx hb d_Wi_appliedTo_6 (by decide) (fun c_1 => ?_) (fun c_1 => ?_)
  · exact absurd c_1 (by decide)
  · refine lv_aload_n hx hb d_Wi_appliedTo_9 rfl (lv_at hl 2 rfl) ?_
    refine va_get (D := (dC, dI)) (ci := 1) (v := .ref h4) (C := R_Wi) (T := F_Wi) (N := 2) hx hb hts in_Wi hown hK hP 0 rfl rfl 0 (by decide) (hts (.fieldLink R_Wi 9 "TorqueRows$Wishes" "least" "[I") mw_16) (fun _ h9 => h9) rfl d_Wi_appliedTo_10 ?_
    refine lv_iload_n hx hb d_Wi_appliedTo_13 rfl (lv_at hl 0 rfl) ?_
    refine va_iald hx hb hK hP 1 0 rfl rfl (by unfold vp_in; decide) d_Wi_appliedTo_14 ?_
    refine lv_iconst (v := (-1)) hx hb d_Wi_appliedTo_15 (by decide) ?_
    refine jn 4 [(3, .int 1), (2, .int (vWi_appliedTo_0 le p0)), (0, .ref h3), (1, .int p0)] [(h3, .inr (1, [.ref h4, .int wt])), (h4, .inl (kW, 6, .inl le))] 50 [] (D := (dC, dI)) (A := A) (H0 := s.heap) (fun ls H locs hl hP hD hS => ?_) (fun J_4 => ?_)
    · refine lv_iinc (v := 2) (lv' := [(3, .int 2), (2, .int (vWi_appliedTo_0 le p0)), (0, .ref h3), (1, .int p0)]) hx hb d_Wi_appliedTo_50 hl (k := 0) rfl (by decide) (by decide) rfl (fun ls hl => ?_)
      refine lv_goto (tgt := 4) hx hb d_Wi_appliedTo_53 (by decide) ?_
      refine lv_iload_n hx hb d_Wi_appliedTo_4 rfl (lv_at hl 0 rfl) ?_
      refine lv_iconst (v := 5) hx hb d_Wi_appliedTo_5 (by decide) ?_
      refine lv_icmp_gt (tgt := 56) hx hb d_Wi_appliedTo_6 (by decide) (fun c_5 => ?_) (fun c_5 => ?_)
      · exact absurd c_5 (by decide)
      · refine lv_aload_n hx hb d_Wi_appliedTo_9 rfl (lv_at hl 2 rfl) ?_
        refine va_get (D := (dC, dI)) (ci := 1) (v := .ref h4) (C := R_Wi) (T := F_Wi) (N := 2) hx hb hts in_Wi hown hK hP 0 rfl rfl 0 (by decide) (hts (.fieldLink R_Wi 9 "TorqueRows$Wishes" "least" "[I") mw_16) (fun _ h9 => h9) rfl d_Wi_appliedTo_10 ?_
        refine lv_iload_n hx hb d_Wi_appliedTo_13 rfl (lv_at hl 0 rfl) ?_
        refine va_iald hx hb hK hP 1 0 rfl rfl (by unfold vp_in; decide) d_Wi_appliedTo_14 ?_
        refine lv_iconst (v := (-1)) hx hb d_Wi_appliedTo_15 (by decide) ?_
        refine jn 4 [(3, .int 2), (2, .int (vWi_appliedTo_2 le p0)), (0, .ref h3), (1, .int p0)] [(h3, .inr (1, [.ref h4, .int wt])), (h4, .inl (kW, 6, .inl le))] 50 [] (D := (dC, dI)) (A := A) (H0 := s.heap) (fun ls H locs hl hP hD hS => ?_) (fun J_8 => ?_)
        · refine lv_iinc (v := 3) (lv' := [(3, .int 3), (2, .int (vWi_appliedTo_2 le p0)), (0, .ref h3), (1, .int p0)]) hx hb d_Wi_appliedTo_50 hl (k := 0) rfl (by decide) (by decide) rfl (fun ls hl => ?_)
          refine lv_goto (tgt := 4) hx hb d_Wi_appliedTo_53 (by decide) ?_
          refine lv_iload_n hx hb d_Wi_appliedTo_4 rfl (lv_at hl 0 rfl) ?_
          refine lv_iconst (v := 5) hx hb d_Wi_appliedTo_5 (by decide) ?_
          refine lv_icmp_gt (tgt := 56) hx hb d_Wi_appliedTo_6 (by decide) (fun c_9 => ?_) (fun c_9 => ?_)
          · exact absurd c_9 (by decide)
          · refine lv_aload_n hx hb d_Wi_appliedTo_9 rfl (lv_at hl 2 rfl) ?_
            refine va_get (D := (dC, dI)) (ci := 1) (v := .ref h4) (C := R_Wi) (T := F_Wi) (N := 2) hx hb hts in_Wi hown hK hP 0 rfl rfl 0 (by decide) (hts (.fieldLink R_Wi 9 "TorqueRows$Wishes" "least" "[I") mw_16) (fun _ h9 => h9) rfl d_Wi_appliedTo_10 ?_
            refine lv_iload_n hx hb d_Wi_appliedTo_13 rfl (lv_at hl 0 rfl) ?_
            refine va_iald hx hb hK hP 1 0 rfl rfl (by unfold vp_in; decide) d_Wi_appliedTo_14 ?_
            refine lv_iconst (v := (-1)) hx hb d_Wi_appliedTo_15 (by decide) ?_
            refine jn 4 [(3, .int 3), (2, .int (vWi_appliedTo_4 le p0)), (0, .ref h3), (1, .int p0)] [(h3, .inr (1, [.ref h4, .int wt])), (h4, .inl (kW, 6, .inl le))] 50 [] (D := (dC, dI)) (A := A) (H0 := s.heap) (fun ls H locs hl hP hD hS => ?_) (fun J_12 => ?_)
            · refine lv_iinc (v := 4) (lv' := [(3, .int 4), (2, .int (vWi_appliedTo_4 le p0)), (0, .ref h3), (1, .int p0)]) hx hb d_Wi_appliedTo_50 hl (k := 0) rfl (by decide) (by decide) rfl (fun ls hl => ?_)
              refine lv_goto (tgt := 4) hx hb d_Wi_appliedTo_53 (by decide) ?_
              refine lv_iload_n hx hb d_Wi_appliedTo_4 rfl (lv_at hl 0 rfl) ?_
              refine lv_iconst (v := 5) hx hb d_Wi_appliedTo_5 (by decide) ?_
              refine lv_icmp_gt (tgt := 56) hx hb d_Wi_appliedTo_6 (by decide) (fun c_13 => ?_) (fun c_13 => ?_)
              · exact absurd c_13 (by decide)
              · refine lv_aload_n hx hb d_Wi_appliedTo_9 rfl (lv_at hl 2 rfl) ?_
                refine va_get (D := (dC, dI)) (ci := 1) (v := .ref h4) (C := R_Wi) (T := F_Wi) (N := 2) hx hb hts in_Wi hown hK hP 0 rfl rfl 0 (by decide) (hts (.fieldLink R_Wi 9 "TorqueRows$Wishes" "least" "[I") mw_16) (fun _ h9 => h9) rfl d_Wi_appliedTo_10 ?_
                refine lv_iload_n hx hb d_Wi_appliedTo_13 rfl (lv_at hl 0 rfl) ?_
                refine va_iald hx hb hK hP 1 0 rfl rfl (by unfold vp_in; decide) d_Wi_appliedTo_14 ?_
                refine lv_iconst (v := (-1)) hx hb d_Wi_appliedTo_15 (by decide) ?_
                refine jn 4 [(3, .int 4), (2, .int (vWi_appliedTo_6 le p0)), (0, .ref h3), (1, .int p0)] [(h3, .inr (1, [.ref h4, .int wt])), (h4, .inl (kW, 6, .inl le))] 50 [] (D := (dC, dI)) (A := A) (H0 := s.heap) (fun ls H locs hl hP hD hS => ?_) (fun J_16 => ?_)
                · refine lv_iinc (v := 5) (lv' := [(3, .int 5), (2, .int (vWi_appliedTo_6 le p0)), (0, .ref h3), (1, .int p0)]) hx hb d_Wi_appliedTo_50 hl (k := 0) rfl (by decide) (by decide) rfl (fun ls hl => ?_)
                  refine lv_goto (tgt := 4) hx hb d_Wi_appliedTo_53 (by decide) ?_
                  refine lv_iload_n hx hb d_Wi_appliedTo_4 rfl (lv_at hl 0 rfl) ?_
                  refine lv_iconst (v := 5) hx hb d_Wi_appliedTo_5 (by decide) ?_
                  refine lv_icmp_gt (tgt := 56) hx hb d_Wi_appliedTo_6 (by decide) (fun c_17 => ?_) (fun c_17 => ?_)
                  · exact absurd c_17 (by decide)
                  · refine lv_aload_n hx hb d_Wi_appliedTo_9 rfl (lv_at hl 2 rfl) ?_
                    refine va_get (D := (dC, dI)) (ci := 1) (v := .ref h4) (C := R_Wi) (T := F_Wi) (N := 2) hx hb hts in_Wi hown hK hP 0 rfl rfl 0 (by decide) (hts (.fieldLink R_Wi 9 "TorqueRows$Wishes" "least" "[I") mw_16) (fun _ h9 => h9) rfl d_Wi_appliedTo_10 ?_
                    refine lv_iload_n hx hb d_Wi_appliedTo_13 rfl (lv_at hl 0 rfl) ?_
                    refine va_iald hx hb hK hP 1 0 rfl rfl (by unfold vp_in; decide) d_Wi_appliedTo_14 ?_
                    refine lv_iconst (v := (-1)) hx hb d_Wi_appliedTo_15 (by decide) ?_
                    refine jn 4 [(3, .int 5), (2, .int (vWi_appliedTo_8 le p0)), (0, .ref h3), (1, .int p0)] [(h3, .inr (1, [.ref h4, .int wt])), (h4, .inl (kW, 6, .inl le))] 50 [] (D := (dC, dI)) (A := A) (H0 := s.heap) (fun ls H locs hl hP hD hS => ?_) (fun J_20 => ?_)
                    · refine lv_iinc (v := 6) (lv' := [(3, .int 6), (2, .int (vWi_appliedTo_8 le p0)), (0, .ref h3), (1, .int p0)]) hx hb d_Wi_appliedTo_50 hl (k := 0) rfl (by decide) (by decide) rfl (fun ls hl => ?_)
                      refine lv_goto (tgt := 4) hx hb d_Wi_appliedTo_53 (by decide) ?_
                      refine lv_iload_n hx hb d_Wi_appliedTo_4 rfl (lv_at hl 0 rfl) ?_
                      refine lv_iconst (v := 5) hx hb d_Wi_appliedTo_5 (by decide) ?_
                      refine lv_icmp_gt (tgt := 56) hx hb d_Wi_appliedTo_6 (by decide) (fun c_21 => ?_) (fun c_21 => ?_)
                      · refine lv_iload_n hx hb d_Wi_appliedTo_56 rfl (lv_at hl 1 rfl) ?_
                        have h9 : va_P (dC, dI) classes [(h3, .inr (1, [.ref h4, .int wt])), (h4, .inl (kW, 6, .inl le))] H ∧ va_D A [(h3, .inr (1, [.ref h4, .int wt])), (h4, .inl (kW, 6, .inl le))] := ⟨hP, hD⟩
                        exact W.iret (v := (vWi_appliedTo_8 le p0)) hx hb hr (fun t ht hW => ⟨⟨(vWi_appliedTo_8 le p0), (), rfl, rfl, by rw [ht]; exact h9.1, va_K.moved hW.alike hK, h9.2⟩, hS.F ht⟩) hS.2.2 d_Wi_appliedTo_57
                      · exact absurd (by decide) c_21
                    · refine lv_icmp_eq (tgt := 50) hx hb d_Wi_appliedTo_16 (by decide) (fun c_18 => ?_) (fun c_18 => ?_)
                      · exact J_20 _ _ _ (by rw [show (vWi_appliedTo_8 le p0) = (vWi_appliedTo_6 le p0) from (if_pos c_18)]; exact lv_sub hl [0, 1, 2, 3] rfl) hP hD hS
                      · refine lv_iload_n hx hb d_Wi_appliedTo_19 rfl (lv_at hl 0 rfl) ?_
                        refine lv_iconst (v := 2) hx hb d_Wi_appliedTo_20 (by decide) ?_
                        refine lv_irem hx hb d_Wi_appliedTo_21 (by decide) ?_
                        refine tpi (y := 1) (by decide) ?_
                        refine lv_iconst (v := 1) hx hb d_Wi_appliedTo_22 (by decide) ?_
                        refine lv_icmp_ne (tgt := 39) hx hb d_Wi_appliedTo_23 (by decide) (fun c_22 => ?_) (fun c_22 => ?_)
                        · exact absurd (by decide) c_22
                        · refine lv_iload_n hx hb d_Wi_appliedTo_26 rfl (lv_at hl 1 rfl) ?_
                          refine lv_aload_n hx hb d_Wi_appliedTo_27 rfl (lv_at hl 2 rfl) ?_
                          refine va_get (D := (dC, dI)) (ci := 1) (v := .ref h4) (C := R_Wi) (T := F_Wi) (N := 2) hx hb hts in_Wi hown hK hP 0 rfl rfl 0 (by decide) (hts (.fieldLink R_Wi 9 "TorqueRows$Wishes" "least" "[I") mw_16) (fun _ h9 => h9) rfl d_Wi_appliedTo_28 ?_
                          refine lv_iload_n hx hb d_Wi_appliedTo_31 rfl (lv_at hl 0 rfl) ?_
                          refine va_iald hx hb hK hP 1 0 rfl rfl (by unfold vp_in; decide) d_Wi_appliedTo_32 ?_
                          refine va_mmax hx hb (by rw [hml]; exact hl.1.symm) hown (hts (.methodLink R_Wi 20 Lib.Math.max.name) mw_18) (hts (.static Lib.Math.max.name) mw_5) (hts (.initialized "java/lang/Math") mw_2) (hts (.code Lib.Math.max.name Lib.Math.max.code 2 (some .int)) mw_6) (Nat.le_of_ble_eq_true rfl) (Nat.le_of_ble_eq_true rfl) (Nat.le_of_ble_eq_true rfl) (Nat.le_of_ble_eq_true rfl) d_Wi_appliedTo_33 ?_
                          refine tpi (y := (mx (vWi_appliedTo_6 le p0) (le (5 : Int32).toNatClampNeg))) rfl ?_
                          refine lv_goto (tgt := 49) hx hb d_Wi_appliedTo_36 (by decide) ?_
                          refine lv_istore_n (lv' := [(2, .int (vWi_appliedTo_7 le p0)), (3, .int 5), (0, .ref h3), (1, .int p0)]) hx hb d_Wi_appliedTo_49 rfl hl (by decide) rfl (fun ls hl => ?_)
                          exact J_20 _ _ _ (by rw [show (vWi_appliedTo_8 le p0) = (vWi_appliedTo_7 le p0) from (if_neg c_18)]; exact lv_sub hl [1, 0, 2, 3] rfl) hP hD hS
                · refine lv_icmp_eq (tgt := 50) hx hb d_Wi_appliedTo_16 (by decide) (fun c_14 => ?_) (fun c_14 => ?_)
                  · exact J_16 _ _ _ (by rw [show (vWi_appliedTo_6 le p0) = (vWi_appliedTo_4 le p0) from (if_pos c_14)]; exact lv_sub hl [0, 1, 2, 3] rfl) hP hD hS
                  · refine lv_iload_n hx hb d_Wi_appliedTo_19 rfl (lv_at hl 0 rfl) ?_
                    refine lv_iconst (v := 2) hx hb d_Wi_appliedTo_20 (by decide) ?_
                    refine lv_irem hx hb d_Wi_appliedTo_21 (by decide) ?_
                    refine tpi (y := 0) (by decide) ?_
                    refine lv_iconst (v := 1) hx hb d_Wi_appliedTo_22 (by decide) ?_
                    refine lv_icmp_ne (tgt := 39) hx hb d_Wi_appliedTo_23 (by decide) (fun c_23 => ?_) (fun c_23 => ?_)
                    · refine lv_iload_n hx hb d_Wi_appliedTo_39 rfl (lv_at hl 1 rfl) ?_
                      refine lv_aload_n hx hb d_Wi_appliedTo_40 rfl (lv_at hl 2 rfl) ?_
                      refine va_get (D := (dC, dI)) (ci := 1) (v := .ref h4) (C := R_Wi) (T := F_Wi) (N := 2) hx hb hts in_Wi hown hK hP 0 rfl rfl 0 (by decide) (hts (.fieldLink R_Wi 9 "TorqueRows$Wishes" "least" "[I") mw_16) (fun _ h9 => h9) rfl d_Wi_appliedTo_41 ?_
                      refine lv_iload_n hx hb d_Wi_appliedTo_44 rfl (lv_at hl 0 rfl) ?_
                      refine va_iald hx hb hK hP 1 0 rfl rfl (by unfold vp_in; decide) d_Wi_appliedTo_45 ?_
                      refine va_mmin hx hb (by rw [hml]; exact hl.1.symm) hown (hts (.methodLink R_Wi 26 Lib.Math.min.name) mw_19) (hts (.static Lib.Math.min.name) mw_1) (hts (.initialized "java/lang/Math") mw_2) (hts (.code Lib.Math.min.name Lib.Math.min.code 2 (some .int)) mw_3) (Nat.le_of_ble_eq_true rfl) (Nat.le_of_ble_eq_true rfl) (Nat.le_of_ble_eq_true rfl) (Nat.le_of_ble_eq_true rfl) d_Wi_appliedTo_46 ?_
                      refine tpi (y := (mn (vWi_appliedTo_4 le p0) (le (4 : Int32).toNatClampNeg))) rfl ?_
                      refine lv_istore_n (lv' := [(2, .int (vWi_appliedTo_5 le p0)), (3, .int 4), (0, .ref h3), (1, .int p0)]) hx hb d_Wi_appliedTo_49 rfl hl (by decide) rfl (fun ls hl => ?_)
                      exact J_16 _ _ _ (by rw [show (vWi_appliedTo_6 le p0) = (vWi_appliedTo_5 le p0) from (if_neg c_14)]; exact lv_sub hl [1, 0, 2, 3] rfl) hP hD hS
                    · exact absurd c_23 (by decide)
            · refine lv_icmp_eq (tgt := 50) hx hb d_Wi_appliedTo_16 (by decide) (fun c_10 => ?_) (fun c_10 => ?_)
              · exact J_12 _ _ _ (by rw [show (vWi_appliedTo_4 le p0) = (vWi_appliedTo_2 le p0) from (if_pos c_10)]; exact lv_sub hl [0, 1, 2, 3] rfl) hP hD hS
              · refine lv_iload_n hx hb d_Wi_appliedTo_19 rfl (lv_at hl 0 rfl) ?_
                refine lv_iconst (v := 2) hx hb d_Wi_appliedTo_20 (by decide) ?_
                refine lv_irem hx hb d_Wi_appliedTo_21 (by decide) ?_
                refine tpi (y := 1) (by decide) ?_
                refine lv_iconst (v := 1) hx hb d_Wi_appliedTo_22 (by decide) ?_
                refine lv_icmp_ne (tgt := 39) hx hb d_Wi_appliedTo_23 (by decide) (fun c_24 => ?_) (fun c_24 => ?_)
                · exact absurd (by decide) c_24
                · refine lv_iload_n hx hb d_Wi_appliedTo_26 rfl (lv_at hl 1 rfl) ?_
                  refine lv_aload_n hx hb d_Wi_appliedTo_27 rfl (lv_at hl 2 rfl) ?_
                  refine va_get (D := (dC, dI)) (ci := 1) (v := .ref h4) (C := R_Wi) (T := F_Wi) (N := 2) hx hb hts in_Wi hown hK hP 0 rfl rfl 0 (by decide) (hts (.fieldLink R_Wi 9 "TorqueRows$Wishes" "least" "[I") mw_16) (fun _ h9 => h9) rfl d_Wi_appliedTo_28 ?_
                  refine lv_iload_n hx hb d_Wi_appliedTo_31 rfl (lv_at hl 0 rfl) ?_
                  refine va_iald hx hb hK hP 1 0 rfl rfl (by unfold vp_in; decide) d_Wi_appliedTo_32 ?_
                  refine va_mmax hx hb (by rw [hml]; exact hl.1.symm) hown (hts (.methodLink R_Wi 20 Lib.Math.max.name) mw_18) (hts (.static Lib.Math.max.name) mw_5) (hts (.initialized "java/lang/Math") mw_2) (hts (.code Lib.Math.max.name Lib.Math.max.code 2 (some .int)) mw_6) (Nat.le_of_ble_eq_true rfl) (Nat.le_of_ble_eq_true rfl) (Nat.le_of_ble_eq_true rfl) (Nat.le_of_ble_eq_true rfl) d_Wi_appliedTo_33 ?_
                  refine tpi (y := (mx (vWi_appliedTo_2 le p0) (le (3 : Int32).toNatClampNeg))) rfl ?_
                  refine lv_goto (tgt := 49) hx hb d_Wi_appliedTo_36 (by decide) ?_
                  refine lv_istore_n (lv' := [(2, .int (vWi_appliedTo_3 le p0)), (3, .int 3), (0, .ref h3), (1, .int p0)]) hx hb d_Wi_appliedTo_49 rfl hl (by decide) rfl (fun ls hl => ?_)
                  exact J_12 _ _ _ (by rw [show (vWi_appliedTo_4 le p0) = (vWi_appliedTo_3 le p0) from (if_neg c_10)]; exact lv_sub hl [1, 0, 2, 3] rfl) hP hD hS
        · refine lv_icmp_eq (tgt := 50) hx hb d_Wi_appliedTo_16 (by decide) (fun c_6 => ?_) (fun c_6 => ?_)
          · exact J_8 _ _ _ (by rw [show (vWi_appliedTo_2 le p0) = (vWi_appliedTo_0 le p0) from (if_pos c_6)]; exact lv_sub hl [0, 1, 2, 3] rfl) hP hD hS
          · refine lv_iload_n hx hb d_Wi_appliedTo_19 rfl (lv_at hl 0 rfl) ?_
            refine lv_iconst (v := 2) hx hb d_Wi_appliedTo_20 (by decide) ?_
            refine lv_irem hx hb d_Wi_appliedTo_21 (by decide) ?_
            refine tpi (y := 0) (by decide) ?_
            refine lv_iconst (v := 1) hx hb d_Wi_appliedTo_22 (by decide) ?_
            refine lv_icmp_ne (tgt := 39) hx hb d_Wi_appliedTo_23 (by decide) (fun c_25 => ?_) (fun c_25 => ?_)
            · refine lv_iload_n hx hb d_Wi_appliedTo_39 rfl (lv_at hl 1 rfl) ?_
              refine lv_aload_n hx hb d_Wi_appliedTo_40 rfl (lv_at hl 2 rfl) ?_
              refine va_get (D := (dC, dI)) (ci := 1) (v := .ref h4) (C := R_Wi) (T := F_Wi) (N := 2) hx hb hts in_Wi hown hK hP 0 rfl rfl 0 (by decide) (hts (.fieldLink R_Wi 9 "TorqueRows$Wishes" "least" "[I") mw_16) (fun _ h9 => h9) rfl d_Wi_appliedTo_41 ?_
              refine lv_iload_n hx hb d_Wi_appliedTo_44 rfl (lv_at hl 0 rfl) ?_
              refine va_iald hx hb hK hP 1 0 rfl rfl (by unfold vp_in; decide) d_Wi_appliedTo_45 ?_
              refine va_mmin hx hb (by rw [hml]; exact hl.1.symm) hown (hts (.methodLink R_Wi 26 Lib.Math.min.name) mw_19) (hts (.static Lib.Math.min.name) mw_1) (hts (.initialized "java/lang/Math") mw_2) (hts (.code Lib.Math.min.name Lib.Math.min.code 2 (some .int)) mw_3) (Nat.le_of_ble_eq_true rfl) (Nat.le_of_ble_eq_true rfl) (Nat.le_of_ble_eq_true rfl) (Nat.le_of_ble_eq_true rfl) d_Wi_appliedTo_46 ?_
              refine tpi (y := (mn (vWi_appliedTo_0 le p0) (le (2 : Int32).toNatClampNeg))) rfl ?_
              refine lv_istore_n (lv' := [(2, .int (vWi_appliedTo_1 le p0)), (3, .int 2), (0, .ref h3), (1, .int p0)]) hx hb d_Wi_appliedTo_49 rfl hl (by decide) rfl (fun ls hl => ?_)
              exact J_8 _ _ _ (by rw [show (vWi_appliedTo_2 le p0) = (vWi_appliedTo_1 le p0) from (if_neg c_6)]; exact lv_sub hl [1, 0, 2, 3] rfl) hP hD hS
            · exact absurd c_25 (by decide)
    · refine lv_icmp_eq (tgt := 50) hx hb d_Wi_appliedTo_16 (by decide) (fun c_2 => ?_) (fun c_2 => ?_)
      · exact J_4 _ _ _ (by rw [show (vWi_appliedTo_0 le p0) = p0 from (if_pos c_2)]; exact lv_sub hl [0, 1, 2, 3] rfl) hP hD hS
      · refine lv_iload_n hx hb d_Wi_appliedTo_19 rfl (lv_at hl 0 rfl) ?_
        refine lv_iconst (v := 2) hx hb d_Wi_appliedTo_20 (by decide) ?_
        refine lv_irem hx hb d_Wi_appliedTo_21 (by decide) ?_
        refine tpi (y := 1) (by decide) ?_
        refine lv_iconst (v := 1) hx hb d_Wi_appliedTo_22 (by decide) ?_
        refine lv_icmp_ne (tgt := 39) hx hb d_Wi_appliedTo_23 (by decide) (fun c_26 => ?_) (fun c_26 => ?_)
        · exact absurd (by decide) c_26
        · refine lv_iload_n hx hb d_Wi_appliedTo_26 rfl (lv_at hl 1 rfl) ?_
          refine lv_aload_n hx hb d_Wi_appliedTo_27 rfl (lv_at hl 2 rfl) ?_
          refine va_get (D := (dC, dI)) (ci := 1) (v := .ref h4) (C := R_Wi) (T := F_Wi) (N := 2) hx hb hts in_Wi hown hK hP 0 rfl rfl 0 (by decide) (hts (.fieldLink R_Wi 9 "TorqueRows$Wishes" "least" "[I") mw_16) (fun _ h9 => h9) rfl d_Wi_appliedTo_28 ?_
          refine lv_iload_n hx hb d_Wi_appliedTo_31 rfl (lv_at hl 0 rfl) ?_
          refine va_iald hx hb hK hP 1 0 rfl rfl (by unfold vp_in; decide) d_Wi_appliedTo_32 ?_
          refine va_mmax hx hb (by rw [hml]; exact hl.1.symm) hown (hts (.methodLink R_Wi 20 Lib.Math.max.name) mw_18) (hts (.static Lib.Math.max.name) mw_5) (hts (.initialized "java/lang/Math") mw_2) (hts (.code Lib.Math.max.name Lib.Math.max.code 2 (some .int)) mw_6) (Nat.le_of_ble_eq_true rfl) (Nat.le_of_ble_eq_true rfl) (Nat.le_of_ble_eq_true rfl) (Nat.le_of_ble_eq_true rfl) d_Wi_appliedTo_33 ?_
          refine tpi (y := (mx p0 (le (1 : Int32).toNatClampNeg))) rfl ?_
          refine lv_goto (tgt := 49) hx hb d_Wi_appliedTo_36 (by decide) ?_
          refine lv_istore_n (lv' := [(2, .int (mx p0 (le (1 : Int32).toNatClampNeg))), (3, .int 1), (0, .ref h3), (1, .int p0)]) hx hb d_Wi_appliedTo_49 rfl hl (by decide) rfl (fun ls hl => ?_)
          exact J_4 _ _ _ (by rw [show (vWi_appliedTo_0 le p0) = (mx p0 (le (1 : Int32).toNatClampNeg)) from (if_neg c_2)]; exact lv_sub hl [1, 0, 2, 3] rfl) hP hD hS
set_option maxHeartbeats 4000000 in
set_option maxRecDepth 100000 in
theorem c_Ma_floorDiv (l : Launch) (dC : Nat → ClassId) (dI : Nat → Nat → Nat) (sz : Nat) (p0 : Int32) (p1 : Int32) (h0 : ¬ p1 = 0) : Met l y_Ma_floorDiv w_Ma_floorDiv { frames := 0, cells := 0, slots := 0, locals := 0 } (va_Pc [.int p0, .int p1] (pr_ (dC, dI) [] [] sz)) (va_Qi (fun r (_ : Unit) => r = (fMa_floorDiv p0 p1)) (fun _ t => at_ (dC, dI) (va_A [] sz) [] [] t) (va_A [] sz)) 0 0 (va_A [] sz) := by
  refine va_MetF (cc := b_Ma_floorDiv) (maxL := 3) (ret := (some .int)) (by decide +kernel) rfl ?_
  intro p e s m args below meth c s₁ B hml hv
  obtain ⟨rfl, hsz, hP, hK, hD0, hN⟩ := hv
  have hx := B.exec
  have hb := B.bytes
  have hr := B.returns
  have hts0 := atoms_spec (ws := w_Ma_floorDiv) B.pre
  have hts : ∀ w ∈ wA_, w.before _ s = true := fun w h => hts0 w (List.mem_cons_of_mem _ h)
  have hown : s.vm.findClass "java/lang/Math" = some m.cls := findClass_of_methodNamed B.named
  have hlocks := B.notSynchronized
  subst hsz
  have hD := hD0.self (sz := s.heap.size)
  generalize hAe : va_A [] s.heap.size = A at hD ⊢
  have hA : ∀ q : Nat, s.heap.size ≤ q → A q := fun q h => by rw [← hAe]; exact Or.inr h
  have hS : va_S A s.heap s.heap [] := va_S.rf
  have hP : va_P (dC, dI) classes [] s.heap := hP
  have hl := lv_entry ([.int p0, .int p1]) (n := 3) (Nat.le_of_ble_eq_true rfl)
  rw [lg_entry_eq]
  generalize (lg_sl ([.int p0, .int p1]) ++ List.replicate (3 - (lg_sl ([.int p0, .int p1])).length) Slot.unset).toArray = ls at hl ⊢
  have hl : lv_has ls 3 [(0, .int p0), (1, .int p1)] := hl
  have hS : va_S A s.heap s.heap [] := hS
  refine st_ hP hS (fun H locs hP hS => ?_)
  refine lv_iload_n hx hb d_Ma_floorDiv_0 rfl (lv_at hl 0 rfl) ?_
  refine lv_iload_n hx hb d_Ma_floorDiv_1 rfl (lv_at hl 1 rfl) ?_
  refine lv_idiv hx hb d_Ma_floorDiv_2 h0 ?_
  refine lv_istore_n (lv' := [(2, .int (p0 / p1)), (0, .int p0), (1, .int p1)]) hx hb d_Ma_floorDiv_3 rfl hl (by decide) rfl (fun ls hl => ?_)
  refine lv_iload_n hx hb d_Ma_floorDiv_4 rfl (lv_at hl 1 rfl) ?_
  refine lv_iload_n hx hb d_Ma_floorDiv_5 rfl (lv_at hl 2 rfl) ?_
  refine lv_ixor hx hb d_Ma_floorDiv_6 ?_
  refine lv_if_ge (tgt := 21) hx hb d_Ma_floorDiv_7 (by decide) (fun c_1 => ?_) (fun c_1 => ?_)
  · refine lv_iload_n hx hb d_Ma_floorDiv_21 rfl (lv_at hl 0 rfl) ?_
    have h9 : va_P (dC, dI) classes [] H ∧ va_D A [] := ⟨hP, hD⟩
    exact W.iret (v := (p0 / p1)) hx hb hr (fun t ht hW => ⟨⟨(p0 / p1), (), rfl, ((if_pos c_1)).symm, by rw [ht]; exact h9.1, va_K.moved hW.alike hK, h9.2⟩, hS.F ht⟩) hS.2.2 d_Ma_floorDiv_22
  · refine lv_iload_n hx hb d_Ma_floorDiv_10 rfl (lv_at hl 0 rfl) ?_
    refine lv_iload_n hx hb d_Ma_floorDiv_11 rfl (lv_at hl 2 rfl) ?_
    refine lv_imul hx hb d_Ma_floorDiv_12 ?_
    refine lv_iload_n hx hb d_Ma_floorDiv_13 rfl (lv_at hl 1 rfl) ?_
    refine lv_icmp_eq (tgt := 21) hx hb d_Ma_floorDiv_14 (by decide) (fun c_2 => ?_) (fun c_2 => ?_)
    · refine lv_iload_n hx hb d_Ma_floorDiv_21 rfl (lv_at hl 0 rfl) ?_
      have h9 : va_P (dC, dI) classes [] H ∧ va_D A [] := ⟨hP, hD⟩
      exact W.iret (v := (p0 / p1)) hx hb hr (fun t ht hW => ⟨⟨(p0 / p1), (), rfl, (((if_neg c_1).trans (if_pos c_2))).symm, by rw [ht]; exact h9.1, va_K.moved hW.alike hK, h9.2⟩, hS.F ht⟩) hS.2.2 d_Ma_floorDiv_22
    · refine lv_iload_n hx hb d_Ma_floorDiv_17 rfl (lv_at hl 0 rfl) ?_
      refine lv_iconst (v := 1) hx hb d_Ma_floorDiv_18 (by decide) ?_
      refine lv_isub hx hb d_Ma_floorDiv_19 ?_
      have h9 : va_P (dC, dI) classes [] H ∧ va_D A [] := ⟨hP, hD⟩
      exact W.iret (v := ((p0 / p1) - 1)) hx hb hr (fun t ht hW => ⟨⟨((p0 / p1) - 1), (), rfl, (((if_neg c_1).trans (if_neg c_2))).symm, by rw [ht]; exact h9.1, va_K.moved hW.alike hK, h9.2⟩, hS.F ht⟩) hS.2.2 d_Ma_floorDiv_20
set_option maxHeartbeats 4000000 in
set_option maxRecDepth 100000 in
theorem c_Id_forget (l : Launch) (dC : Nat → ClassId) (dI : Nat → Nat → Nat) (h5 : Nat) (sz : Nat) (am : Int32) (sd : Int32) : Met l y_Id_forget w_Id_forget { frames := 0, cells := 0, slots := 0, locals := 0 } (va_Pc [.ref h5] (pr_ (dC, dI) [(h5, .inr (2, [.int am, .int sd]))] [] sz)) (va_Qv (fun (_ : Unit) => True) (fun _ t => at_ (dC, dI) (va_A [(h5, .inr (2, [.int am, .int sd]))] sz) [(h5, .inr (2, [.int am, .int 0]))] [] t) (va_A [(h5, .inr (2, [.int am, .int sd]))] sz)) 0 0 (va_A [(h5, .inr (2, [.int am, .int sd]))] sz) := by
  refine Met.ofW (cc := b_Id_forget) (maxL := 1) (ret := none) (by decide) rfl ?_
  intro p e s m args below meth c s₁ B hml hv
  obtain ⟨rfl, hsz, hP, hK, hD0, hN⟩ := hv
  have hx := B.exec
  have hb := B.bytes
  have hr := B.returns
  have hts0 := atoms_spec (ws := w_Id_forget) B.pre
  have hts : ∀ w ∈ wA_, w.before _ s = true := fun w h => hts0 w (List.mem_cons_of_mem _ h)
  have hown : s.vm.findClass R_Id = some m.cls := findClass_of_methodNamed B.named
  have hlocks := B.notSynchronized
  subst hsz
  have hD := hD0.self (sz := s.heap.size)
  generalize hAe : va_A [(h5, .inr (2, [.int am, .int sd]))] s.heap.size = A at hD ⊢
  have hA : ∀ q : Nat, s.heap.size ≤ q → A q := fun q h => by rw [← hAe]; exact Or.inr h
  have hS : va_S A s.heap s.heap [] := va_S.rf
  have hP : va_P (dC, dI) classes [(h5, .inr (2, [.int am, .int sd]))] s.heap := hP
  have hl := lv_entry ([.ref h5]) (n := 1) (Nat.le_of_ble_eq_true rfl)
  rw [lg_entry_eq]
  generalize (lg_sl ([.ref h5]) ++ List.replicate (1 - (lg_sl ([.ref h5])).length) Slot.unset).toArray = ls at hl ⊢
  have hl : lv_has ls 1 [(0, .ref h5)] := hl
  have hS : va_S A s.heap s.heap [] := hS
  refine st_ hP hS (fun H locs hP hS => ?_)
  refine lv_aload_n hx hb d_Id_forget_0 rfl (lv_at hl 0 rfl) ?_
  refine lv_iconst (v := 0) hx hb d_Id_forget_1 (by decide) ?_
  refine va_put (D := (dC, dI)) (ci := 2) (v := .int 0) (ty := .int) (C := R_Id) (T := F_Id) (N := 2) hx hb hts in_Id t_Id t_Id_ok n_Id hown hK hP hD hS 0 rfl rfl 1 (by decide) (hts (.fieldLink R_Id 13 "TorqueRows$Idling" "stored" "I") mw_20) (fun _ h9 => h9) rfl (by decide +kernel) rfl rfl (Nat.le_of_ble_eq_true rfl) d_Id_forget_2 (fun H locs hP hD hS => ?_)
  have hP : va_P (dC, dI) classes [(h5, .inr (2, [.int am, .int 0]))] H := hP
  have hD : va_D A [(h5, .inr (2, [.int am, .int 0]))] := hD
  have h9 : va_P (dC, dI) classes [(h5, .inr (2, [.int am, .int 0]))] H ∧ va_D A [(h5, .inr (2, [.int am, .int 0]))] := ⟨hP, hD⟩
  exact W.vret hx hb hr (fun t ht hW => ⟨⟨(), rfl, trivial, by rw [ht]; exact h9.1, va_K.moved hW.alike hK, h9.2⟩, hS.F ht⟩) hS.2.2 d_Id_forget_5
set_option maxHeartbeats 4000000 in
set_option maxRecDepth 100000 in
theorem c_Id_torqueAt (l : Launch) (dC : Nat → ClassId) (dI : Nat → Nat → Nat) (h5 : Nat) (sz : Nat) (am : Int32) (sd : Int32) (p0 : Int32) : Met l y_Id_torqueAt w_Id_torqueAt { frames := 1, cells := 0, slots := 0, locals := 22 } (va_Pc [.ref h5, .int p0] (pr_ (dC, dI) [(h5, .inr (2, [.int am, .int sd]))] [] sz)) (va_Qi (fun r (_ : Unit) => r = (fId_torqueAt am p0 sd)) (fun _ t => at_ (dC, dI) (va_A [(h5, .inr (2, [.int am, .int sd]))] sz) [(h5, .inr (2, [.int am, .int (vId_torqueAt_1 am p0 sd)]))] [] t) (va_A [(h5, .inr (2, [.int am, .int sd]))] sz)) 0 0 (va_A [(h5, .inr (2, [.int am, .int sd]))] sz) := by
  refine Met.ofW (cc := b_Id_torqueAt) (maxL := 5) (ret := (some .int)) (by decide) rfl ?_
  intro p e s m args below meth c s₁ B hml hv
  obtain ⟨rfl, hsz, hP, hK, hD0, hN⟩ := hv
  have hx := B.exec
  have hb := B.bytes
  have hr := B.returns
  have hts0 := atoms_spec (ws := w_Id_torqueAt) B.pre
  have hts : ∀ w ∈ wA_, w.before _ s = true := fun w h => hts0 w (List.mem_cons_of_mem _ h)
  have hown : s.vm.findClass R_Id = some m.cls := findClass_of_methodNamed B.named
  have hlocks := B.notSynchronized
  subst hsz
  have hD := hD0.self (sz := s.heap.size)
  generalize hAe : va_A [(h5, .inr (2, [.int am, .int sd]))] s.heap.size = A at hD ⊢
  have hA : ∀ q : Nat, s.heap.size ≤ q → A q := fun q h => by rw [← hAe]; exact Or.inr h
  have hS : va_S A s.heap s.heap [] := va_S.rf
  have hP : va_P (dC, dI) classes [(h5, .inr (2, [.int am, .int sd]))] s.heap := hP
  have hl := lv_entry ([.ref h5, .int p0]) (n := 5) (Nat.le_of_ble_eq_true rfl)
  rw [lg_entry_eq]
  generalize (lg_sl ([.ref h5, .int p0]) ++ List.replicate (5 - (lg_sl ([.ref h5, .int p0])).length) Slot.unset).toArray = ls at hl ⊢
  have hl : lv_has ls 5 [(0, .ref h5), (1, .int p0)] := hl
  have hS : va_S A s.heap s.heap [] := hS
  refine st_ hP hS (fun H locs hP hS => ?_)
  refine lv_aload_n hx hb d_Id_torqueAt_0 rfl (lv_at hl 0 rfl) ?_
  refine va_get (D := (dC, dI)) (ci := 2) (v := .int am) (C := R_Id) (T := F_Id) (N := 2) hx hb hts in_Id hown hK hP 0 rfl rfl 0 (by decide) (hts (.fieldLink R_Id 7 "TorqueRows$Idling" "aim" "I") mw_21) (fun _ h9 => h9) rfl d_Id_torqueAt_1 ?_
  refine lv_iload_n hx hb d_Id_torqueAt_4 rfl (lv_at hl 1 rfl) ?_
  refine lv_isub hx hb d_Id_torqueAt_5 ?_
  refine lv_istore_n (lv' := [(2, .int (am - p0)), (0, .ref h5), (1, .int p0)]) hx hb d_Id_torqueAt_6 rfl hl (by decide) rfl (fun ls hl => ?_)
  refine lv_iconst (v := 4) hx hb d_Id_torqueAt_7 (by decide) ?_
  refine lv_iload_n hx hb d_Id_torqueAt_8 rfl (lv_at hl 0 rfl) ?_
  refine lv_imul hx hb d_Id_torqueAt_9 ?_
  refine lv_aload_n hx hb d_Id_torqueAt_10 rfl (lv_at hl 1 rfl) ?_
  refine va_get (D := (dC, dI)) (ci := 2) (v := .int sd) (C := R_Id) (T := F_Id) (N := 2) hx hb hts in_Id hown hK hP 0 rfl rfl 1 (by decide) (hts (.fieldLink R_Id 13 "TorqueRows$Idling" "stored" "I") mw_20) (fun _ h9 => h9) rfl d_Id_torqueAt_11 ?_
  refine lv_iadd hx hb d_Id_torqueAt_14 ?_
  refine lv_bipush (v := 16) hx hb d_Id_torqueAt_15 (by decide) ?_
  have hPc := hP.sub (ws' := []) [] rfl
  have hDc := hD.sub (ws' := []) [] (by decide) rfl
  have hKc := hK.sub (tys' := []) [] rfl
  have hFc := va_free (wc := []) hD hS hA [] rfl
  refine ca_i (va_runS (As := [.int ((4 * (am - p0)) + sd), .int 16]) (rest := []) ⟨hx, hb, hml, hown, hts⟩ (c_Ma_floorDiv l dC dI H.size ((4 * (am - p0)) + sd) 16 (by decide)) (va_cwS 2 hts (gS_ mw_26 mw_25 mw_2 mw_24) rfl rfl rfl (by decide +kernel) ⟨Nat.le_of_ble_eq_true rfl, Nat.le_of_ble_eq_true rfl⟩) ⟨fb_, pu_ hPc hKc hDc hN⟩ rfl rfl hl.1 rfl (lv_room (Nat.le_of_ble_eq_true rfl)) d_Id_torqueAt_17 ⟨Nat.le_of_ble_eq_true rfl, Nat.le_of_ble_eq_true rfl⟩) hS (fun q _ h => hFc q h) hFc (fun t H locs ht hvm hB hz1 hk1 hS => ?_)
  obtain ⟨hP, hD⟩ := aft_ (wr := [(h5, .inr (2, [.int am, .int sd]))]) (w1 := []) (w2 := [(h5, .inr (2, [.int am, .int sd]))]) hP hD [] [0] [0] rfl rfl (by decide) (by decide) hk1 hFc hB ht rfl (by decide)
  refine lv_istore_n (lv' := [(3, .int (fMa_floorDiv ((4 * (am - p0)) + sd) 16)), (2, .int (am - p0)), (0, .ref h5), (1, .int p0)]) hx hb d_Id_torqueAt_20 rfl hl (by decide) rfl (fun ls hl => ?_)
  refine lv_iload_n hx hb d_Id_torqueAt_21 rfl (lv_at hl 0 rfl) ?_
  refine lv_sipush (v := 200) hx hb d_Id_torqueAt_22 (by decide) ?_
  refine jn 5 [(3, .int (fMa_floorDiv ((4 * (am - p0)) + sd) 16)), (2, .int (am - p0)), (0, .ref h5), (1, .int p0)] [(h5, .inr (2, [.int am, .int sd]))] 45 [.int (vId_torqueAt_0 am p0 sd)] (D := (dC, dI)) (A := A) (H0 := s.heap) (fun ls H locs hl hP hD hS => ?_) (fun J_7 => ?_)
  · refine lv_istore (lv' := [(4, .int (vId_torqueAt_0 am p0 sd)), (3, .int (fMa_floorDiv ((4 * (am - p0)) + sd) 16)), (2, .int (am - p0)), (0, .ref h5), (1, .int p0)]) hx hb d_Id_torqueAt_45 hl (by decide) rfl (fun ls hl => ?_)
    refine lv_iload hx hb d_Id_torqueAt_47 (lv_at hl 0 rfl) ?_
    refine jn 5 [(4, .int (vId_torqueAt_0 am p0 sd)), (3, .int (fMa_floorDiv ((4 * (am - p0)) + sd) 16)), (2, .int (am - p0)), (0, .ref h5), (1, .int p0)] [(h5, .inr (2, [.int am, .int (vId_torqueAt_1 am p0 sd)]))] 62 [] (D := (dC, dI)) (A := A) (H0 := s.heap) (fun ls H locs hl hP hD hS => ?_) (fun J_9 => ?_)
    · refine lv_iconst (v := 0) hx hb d_Id_torqueAt_62 (by decide) ?_
      refine lv_iload_n hx hb d_Id_torqueAt_63 rfl (lv_at hl 1 rfl) ?_
      refine lv_sipush (v := 200) hx hb d_Id_torqueAt_64 (by decide) ?_
      refine va_mmin hx hb (by rw [hml]; exact hl.1.symm) hown (hts (.methodLink R_Id 22 Lib.Math.min.name) mw_22) (hts (.static Lib.Math.min.name) mw_1) (hts (.initialized "java/lang/Math") mw_2) (hts (.code Lib.Math.min.name Lib.Math.min.code 2 (some .int)) mw_3) (Nat.le_of_ble_eq_true rfl) (Nat.le_of_ble_eq_true rfl) (Nat.le_of_ble_eq_true rfl) (Nat.le_of_ble_eq_true rfl) d_Id_torqueAt_67 ?_
      refine tpi (y := (mn (fMa_floorDiv ((4 * (am - p0)) + sd) 16) 200)) rfl ?_
      refine va_mmax hx hb (by rw [hml]; exact hl.1.symm) hown (hts (.methodLink R_Id 25 Lib.Math.max.name) mw_23) (hts (.static Lib.Math.max.name) mw_5) (hts (.initialized "java/lang/Math") mw_2) (hts (.code Lib.Math.max.name Lib.Math.max.code 2 (some .int)) mw_6) (Nat.le_of_ble_eq_true rfl) (Nat.le_of_ble_eq_true rfl) (Nat.le_of_ble_eq_true rfl) (Nat.le_of_ble_eq_true rfl) d_Id_torqueAt_70 ?_
      refine tpi (y := (mx 0 (mn (fMa_floorDiv ((4 * (am - p0)) + sd) 16) 200))) rfl ?_
      have h9 : va_P (dC, dI) classes [(h5, .inr (2, [.int am, .int (vId_torqueAt_1 am p0 sd)]))] H ∧ va_D A [(h5, .inr (2, [.int am, .int (vId_torqueAt_1 am p0 sd)]))] := ⟨hP, hD⟩
      exact W.iret (v := (mx 0 (mn (fMa_floorDiv ((4 * (am - p0)) + sd) 16) 200))) hx hb hr (fun t ht hW => ⟨⟨(mx 0 (mn (fMa_floorDiv ((4 * (am - p0)) + sd) 16) 200)), (), rfl, rfl, by rw [ht]; exact h9.1, va_K.moved hW.alike hK, h9.2⟩, hS.F ht⟩) hS.2.2 d_Id_torqueAt_73
    · refine lv_if_ne (tgt := 62) hx hb d_Id_torqueAt_49 (by decide) (fun c_8 => ?_) (fun c_8 => ?_)
      · exact J_9 _ _ _ (lv_sub hl [0, 1, 2, 3, 4] rfl) (by rw [show (vId_torqueAt_1 am p0 sd) = sd from (if_neg c_8)]; exact hP) (by rw [show (vId_torqueAt_1 am p0 sd) = sd from (if_neg c_8)]; exact hD) hS
      · refine lv_aload_n hx hb d_Id_torqueAt_52 rfl (lv_at hl 3 rfl) ?_
        refine lv_dup hx hb d_Id_torqueAt_53 rfl ?_
        refine va_get (D := (dC, dI)) (ci := 2) (v := .int sd) (C := R_Id) (T := F_Id) (N := 2) hx hb hts in_Id hown hK hP 0 rfl rfl 1 (by decide) (hts (.fieldLink R_Id 13 "TorqueRows$Idling" "stored" "I") mw_20) (fun _ h9 => h9) rfl d_Id_torqueAt_54 ?_
        refine lv_iload_n hx hb d_Id_torqueAt_57 rfl (lv_at hl 2 rfl) ?_
        refine lv_iadd hx hb d_Id_torqueAt_58 ?_
        refine va_put (D := (dC, dI)) (ci := 2) (v := .int (sd + (am - p0))) (ty := .int) (C := R_Id) (T := F_Id) (N := 2) hx hb hts in_Id t_Id t_Id_ok n_Id hown hK hP hD hS 0 rfl rfl 1 (by decide) (hts (.fieldLink R_Id 13 "TorqueRows$Idling" "stored" "I") mw_20) (fun _ h9 => h9) rfl (by decide +kernel) rfl rfl (Nat.le_of_ble_eq_true rfl) d_Id_torqueAt_59 (fun H locs hP hD hS => ?_)
        have hP : va_P (dC, dI) classes [(h5, .inr (2, [.int am, .int (sd + (am - p0))]))] H := hP
        have hD : va_D A [(h5, .inr (2, [.int am, .int (sd + (am - p0))]))] := hD
        exact J_9 _ _ _ (lv_sub hl [0, 1, 2, 3, 4] rfl) (by rw [show (vId_torqueAt_1 am p0 sd) = (sd + (am - p0)) from (if_pos c_8)]; exact hP) (by rw [show (vId_torqueAt_1 am p0 sd) = (sd + (am - p0)) from (if_pos c_8)]; exact hD) hS
  · refine lv_icmp_le (tgt := 32) hx hb d_Id_torqueAt_25 (by decide) (fun c_1 => ?_) (fun c_1 => ?_)
    · refine lv_iload_n hx hb d_Id_torqueAt_32 rfl (lv_at hl 0 rfl) ?_
      refine lv_if_ge (tgt := 44) hx hb d_Id_torqueAt_33 (by decide) (fun c_10 => ?_) (fun c_10 => ?_)
      · refine lv_iconst (v := 0) hx hb d_Id_torqueAt_44 (by decide) ?_
        refine W.eq (g2 := F0 m 45 ls [.int (vId_torqueAt_0 am p0 sd)]) (by rw [show (vId_torqueAt_0 am p0 sd) = 0 from ((if_pos c_1).trans (if_pos c_10))]) ?_
        exact J_7 _ _ _ (lv_sub hl [0, 1, 2, 3] rfl) hP hD hS
      · refine lv_iload_n hx hb d_Id_torqueAt_36 rfl (lv_at hl 1 rfl) ?_
        refine lv_if_ge (tgt := 44) hx hb d_Id_torqueAt_37 (by decide) (fun c_11 => ?_) (fun c_11 => ?_)
        · refine lv_iconst (v := 0) hx hb d_Id_torqueAt_44 (by decide) ?_
          refine W.eq (g2 := F0 m 45 ls [.int (vId_torqueAt_0 am p0 sd)]) (by rw [show (vId_torqueAt_0 am p0 sd) = 0 from ((if_pos c_1).trans ((if_neg c_10).trans (if_pos c_11)))]) ?_
          exact J_7 _ _ _ (lv_sub hl [0, 1, 2, 3] rfl) hP hD hS
        · refine lv_iconst (v := 1) hx hb d_Id_torqueAt_40 (by decide) ?_
          refine lv_goto (tgt := 45) hx hb d_Id_torqueAt_41 (by decide) ?_
          refine W.eq (g2 := F0 m 45 ls [.int (vId_torqueAt_0 am p0 sd)]) (by rw [show (vId_torqueAt_0 am p0 sd) = 1 from ((if_pos c_1).trans ((if_neg c_10).trans (if_neg c_11)))]) ?_
          exact J_7 _ _ _ (lv_sub hl [0, 1, 2, 3] rfl) hP hD hS
    · refine lv_iload_n hx hb d_Id_torqueAt_28 rfl (lv_at hl 1 rfl) ?_
      refine lv_if_gt (tgt := 40) hx hb d_Id_torqueAt_29 (by decide) (fun c_12 => ?_) (fun c_12 => ?_)
      · refine lv_iconst (v := 1) hx hb d_Id_torqueAt_40 (by decide) ?_
        refine lv_goto (tgt := 45) hx hb d_Id_torqueAt_41 (by decide) ?_
        refine W.eq (g2 := F0 m 45 ls [.int (vId_torqueAt_0 am p0 sd)]) (by rw [show (vId_torqueAt_0 am p0 sd) = 1 from ((if_neg c_1).trans (if_pos c_12))]) ?_
        exact J_7 _ _ _ (lv_sub hl [0, 1, 2, 3] rfl) hP hD hS
      · refine lv_iload_n hx hb d_Id_torqueAt_32 rfl (lv_at hl 0 rfl) ?_
        refine lv_if_ge (tgt := 44) hx hb d_Id_torqueAt_33 (by decide) (fun c_13 => ?_) (fun c_13 => ?_)
        · refine lv_iconst (v := 0) hx hb d_Id_torqueAt_44 (by decide) ?_
          refine W.eq (g2 := F0 m 45 ls [.int (vId_torqueAt_0 am p0 sd)]) (by rw [show (vId_torqueAt_0 am p0 sd) = 0 from ((if_neg c_1).trans ((if_neg c_12).trans (if_pos c_13)))]) ?_
          exact J_7 _ _ _ (lv_sub hl [0, 1, 2, 3] rfl) hP hD hS
        · refine lv_iload_n hx hb d_Id_torqueAt_36 rfl (lv_at hl 1 rfl) ?_
          refine lv_if_ge (tgt := 44) hx hb d_Id_torqueAt_37 (by decide) (fun c_14 => ?_) (fun c_14 => ?_)
          · refine lv_iconst (v := 0) hx hb d_Id_torqueAt_44 (by decide) ?_
            refine W.eq (g2 := F0 m 45 ls [.int (vId_torqueAt_0 am p0 sd)]) (by rw [show (vId_torqueAt_0 am p0 sd) = 0 from ((if_neg c_1).trans ((if_neg c_12).trans ((if_neg c_13).trans (if_pos c_14))))]) ?_
            exact J_7 _ _ _ (lv_sub hl [0, 1, 2, 3] rfl) hP hD hS
          · refine lv_iconst (v := 1) hx hb d_Id_torqueAt_40 (by decide) ?_
            refine lv_goto (tgt := 45) hx hb d_Id_torqueAt_41 (by decide) ?_
            refine W.eq (g2 := F0 m 45 ls [.int (vId_torqueAt_0 am p0 sd)]) (by rw [show (vId_torqueAt_0 am p0 sd) = 1 from ((if_neg c_1).trans ((if_neg c_12).trans ((if_neg c_13).trans (if_neg c_14))))]) ?_
            exact J_7 _ _ _ (lv_sub hl [0, 1, 2, 3] rfl) hP hD hS
set_option maxHeartbeats 4000000 in
set_option maxRecDepth 100000 in
theorem c_To_count (l : Launch) (dC : Nat → ClassId) (dI : Nat → Nat → Nat) (h6 : Nat) (sz : Nat) (s0 : Int64) (s1 : Int64) (s2 : Int64) (s3 : Int64) (p0 : Int32) (p1 : Int32) (p2 : Int32) (p3 : Int32) : Met l y_To_count w_To_count { frames := 0, cells := 0, slots := 0, locals := 0 } (va_Pc [.ref h6, .int p0, .int p1, .int p2, .int p3] (pr_ (dC, dI) [(h6, .inr (3, [.long s0, .long s1, .long s2, .long s3]))] [] sz)) (va_Qv (fun (_ : Unit) => True) (fun _ t => at_ (dC, dI) (va_A [(h6, .inr (3, [.long s0, .long s1, .long s2, .long s3]))] sz) [(h6, .inr (3, [.long (s0 + 1), .long (s1 + ((p0.toInt64) * (p1.toInt64))), .long (s2 + (p2.toInt64)), .long (gTo_count_0_3 p3 s3)]))] [] t) (va_A [(h6, .inr (3, [.long s0, .long s1, .long s2, .long s3]))] sz)) 0 0 (va_A [(h6, .inr (3, [.long s0, .long s1, .long s2, .long s3]))] sz) := by
  refine Met.ofW (cc := b_To_count) (maxL := 5) (ret := none) (by decide) rfl ?_
  intro p e s m args below meth c s₁ B hml hv
  obtain ⟨rfl, hsz, hP, hK, hD0, hN⟩ := hv
  have hx := B.exec
  have hb := B.bytes
  have hr := B.returns
  have hts0 := atoms_spec (ws := w_To_count) B.pre
  have hts : ∀ w ∈ wA_, w.before _ s = true := fun w h => hts0 w (List.mem_cons_of_mem _ h)
  have hown : s.vm.findClass R_To = some m.cls := findClass_of_methodNamed B.named
  have hlocks := B.notSynchronized
  subst hsz
  have hD := hD0.self (sz := s.heap.size)
  generalize hAe : va_A [(h6, .inr (3, [.long s0, .long s1, .long s2, .long s3]))] s.heap.size = A at hD ⊢
  have hA : ∀ q : Nat, s.heap.size ≤ q → A q := fun q h => by rw [← hAe]; exact Or.inr h
  have hS : va_S A s.heap s.heap [] := va_S.rf
  have hP : va_P (dC, dI) classes [(h6, .inr (3, [.long s0, .long s1, .long s2, .long s3]))] s.heap := hP
  have hl := lv_entry ([.ref h6, .int p0, .int p1, .int p2, .int p3]) (n := 5) (Nat.le_of_ble_eq_true rfl)
  rw [lg_entry_eq]
  generalize (lg_sl ([.ref h6, .int p0, .int p1, .int p2, .int p3]) ++ List.replicate (5 - (lg_sl ([.ref h6, .int p0, .int p1, .int p2, .int p3])).length) Slot.unset).toArray = ls at hl ⊢
  have hl : lv_has ls 5 [(0, .ref h6), (1, .int p0), (2, .int p1), (3, .int p2), (4, .int p3)] := hl
  have hS : va_S A s.heap s.heap [] := hS
  refine st_ hP hS (fun H locs hP hS => ?_)
  refine lv_aload_n hx hb d_To_count_0 rfl (lv_at hl 0 rfl) ?_
  refine lv_dup hx hb d_To_count_1 rfl ?_
  refine va_get (D := (dC, dI)) (ci := 3) (v := .long s0) (C := R_To) (T := F_To) (N := 4) hx hb hts in_To hown hK hP 0 rfl rfl 0 (by decide) (hts (.fieldLink R_To 7 "TorqueRows$Totals" "steps" "J") mw_27) (fun _ h9 => h9) rfl d_To_count_2 ?_
  refine lv_lconst (v := 1) hx hb d_To_count_5 (by decide) ?_
  refine lv_ladd hx hb d_To_count_6 ?_
  refine va_put (D := (dC, dI)) (ci := 3) (v := .long (s0 + 1)) (ty := .long) (C := R_To) (T := F_To) (N := 4) hx hb hts in_To t_To t_To_ok n_To hown hK hP hD hS 0 rfl rfl 0 (by decide) (hts (.fieldLink R_To 7 "TorqueRows$Totals" "steps" "J") mw_27) (fun _ h9 => h9) rfl (by decide +kernel) rfl rfl (Nat.le_of_ble_eq_true rfl) d_To_count_7 (fun H locs hP hD hS => ?_)
  have hP : va_P (dC, dI) classes [(h6, .inr (3, [.long (s0 + 1), .long s1, .long s2, .long s3]))] H := hP
  have hD : va_D A [(h6, .inr (3, [.long (s0 + 1), .long s1, .long s2, .long s3]))] := hD
  refine lv_aload_n hx hb d_To_count_10 rfl (lv_at hl 0 rfl) ?_
  refine lv_dup hx hb d_To_count_11 rfl ?_
  refine va_get (D := (dC, dI)) (ci := 3) (v := .long s1) (C := R_To) (T := F_To) (N := 4) hx hb hts in_To hown hK hP 0 rfl rfl 1 (by decide) (hts (.fieldLink R_To 13 "TorqueRows$Totals" "work" "J") mw_28) (fun _ h9 => h9) rfl d_To_count_12 ?_
  refine lv_iload_n hx hb d_To_count_15 rfl (lv_at hl 1 rfl) ?_
  refine lv_i2l (v := (p0.toInt64)) hx hb d_To_count_16 rfl ?_
  refine lv_iload_n hx hb d_To_count_17 rfl (lv_at hl 2 rfl) ?_
  refine lv_i2l (v := (p1.toInt64)) hx hb d_To_count_18 rfl ?_
  refine lv_lmul hx hb d_To_count_19 ?_
  refine lv_ladd hx hb d_To_count_20 ?_
  refine va_put (D := (dC, dI)) (ci := 3) (v := .long (s1 + ((p0.toInt64) * (p1.toInt64)))) (ty := .long) (C := R_To) (T := F_To) (N := 4) hx hb hts in_To t_To t_To_ok n_To hown hK hP hD hS 0 rfl rfl 1 (by decide) (hts (.fieldLink R_To 13 "TorqueRows$Totals" "work" "J") mw_28) (fun _ h9 => h9) rfl (by decide +kernel) rfl rfl (Nat.le_of_ble_eq_true rfl) d_To_count_21 (fun H locs hP hD hS => ?_)
  have hP : va_P (dC, dI) classes [(h6, .inr (3, [.long (s0 + 1), .long (s1 + ((p0.toInt64) * (p1.toInt64))), .long s2, .long s3]))] H := hP
  have hD : va_D A [(h6, .inr (3, [.long (s0 + 1), .long (s1 + ((p0.toInt64) * (p1.toInt64))), .long s2, .long s3]))] := hD
  refine lv_aload_n hx hb d_To_count_24 rfl (lv_at hl 0 rfl) ?_
  refine lv_dup hx hb d_To_count_25 rfl ?_
  refine va_get (D := (dC, dI)) (ci := 3) (v := .long s2) (C := R_To) (T := F_To) (N := 4) hx hb hts in_To hown hK hP 0 rfl rfl 2 (by decide) (hts (.fieldLink R_To 16 "TorqueRows$Totals" "fuel" "J") mw_29) (fun _ h9 => h9) rfl d_To_count_26 ?_
  refine lv_iload_n hx hb d_To_count_29 rfl (lv_at hl 3 rfl) ?_
  refine lv_i2l (v := (p2.toInt64)) hx hb d_To_count_30 rfl ?_
  refine lv_ladd hx hb d_To_count_31 ?_
  refine va_put (D := (dC, dI)) (ci := 3) (v := .long (s2 + (p2.toInt64))) (ty := .long) (C := R_To) (T := F_To) (N := 4) hx hb hts in_To t_To t_To_ok n_To hown hK hP hD hS 0 rfl rfl 2 (by decide) (hts (.fieldLink R_To 16 "TorqueRows$Totals" "fuel" "J") mw_29) (fun _ h9 => h9) rfl (by decide +kernel) rfl rfl (Nat.le_of_ble_eq_true rfl) d_To_count_32 (fun H locs hP hD hS => ?_)
  have hP : va_P (dC, dI) classes [(h6, .inr (3, [.long (s0 + 1), .long (s1 + ((p0.toInt64) * (p1.toInt64))), .long (s2 + (p2.toInt64)), .long s3]))] H := hP
  have hD : va_D A [(h6, .inr (3, [.long (s0 + 1), .long (s1 + ((p0.toInt64) * (p1.toInt64))), .long (s2 + (p2.toInt64)), .long s3]))] := hD
  refine lv_iload hx hb d_To_count_35 (lv_at hl 4 rfl) ?_
  refine lv_if_eq (tgt := 50) hx hb d_To_count_37 (by decide) (fun c_1 => ?_) (fun c_1 => ?_)
  · have h9 : va_P (dC, dI) classes [(h6, .inr (3, [.long (s0 + 1), .long (s1 + ((p0.toInt64) * (p1.toInt64))), .long (s2 + (p2.toInt64)), .long (gTo_count_0_3 p3 s3)]))] H ∧ va_D A [(h6, .inr (3, [.long (s0 + 1), .long (s1 + ((p0.toInt64) * (p1.toInt64))), .long (s2 + (p2.toInt64)), .long (gTo_count_0_3 p3 s3)]))] := by rw [show (gTo_count_0_3 p3 s3) = s3 from (if_pos c_1)]; exact ⟨hP, hD⟩
    exact W.vret hx hb hr (fun t ht hW => ⟨⟨(), rfl, trivial, by rw [ht]; exact h9.1, va_K.moved hW.alike hK, h9.2⟩, hS.F ht⟩) hS.2.2 d_To_count_50
  · refine lv_aload_n hx hb d_To_count_40 rfl (lv_at hl 0 rfl) ?_
    refine lv_dup hx hb d_To_count_41 rfl ?_
    refine va_get (D := (dC, dI)) (ci := 3) (v := .long s3) (C := R_To) (T := F_To) (N := 4) hx hb hts in_To hown hK hP 0 rfl rfl 3 (by decide) (hts (.fieldLink R_To 19 "TorqueRows$Totals" "stops" "J") mw_30) (fun _ h9 => h9) rfl d_To_count_42 ?_
    refine lv_lconst (v := 1) hx hb d_To_count_45 (by decide) ?_
    refine lv_ladd hx hb d_To_count_46 ?_
    refine va_put (D := (dC, dI)) (ci := 3) (v := .long (s3 + 1)) (ty := .long) (C := R_To) (T := F_To) (N := 4) hx hb hts in_To t_To t_To_ok n_To hown hK hP hD hS 0 rfl rfl 3 (by decide) (hts (.fieldLink R_To 19 "TorqueRows$Totals" "stops" "J") mw_30) (fun _ h9 => h9) rfl (by decide +kernel) rfl rfl (Nat.le_of_ble_eq_true rfl) d_To_count_47 (fun H locs hP hD hS => ?_)
    have hP : va_P (dC, dI) classes [(h6, .inr (3, [.long (s0 + 1), .long (s1 + ((p0.toInt64) * (p1.toInt64))), .long (s2 + (p2.toInt64)), .long (s3 + 1)]))] H := hP
    have hD : va_D A [(h6, .inr (3, [.long (s0 + 1), .long (s1 + ((p0.toInt64) * (p1.toInt64))), .long (s2 + (p2.toInt64)), .long (s3 + 1)]))] := hD
    have h9 : va_P (dC, dI) classes [(h6, .inr (3, [.long (s0 + 1), .long (s1 + ((p0.toInt64) * (p1.toInt64))), .long (s2 + (p2.toInt64)), .long (gTo_count_0_3 p3 s3)]))] H ∧ va_D A [(h6, .inr (3, [.long (s0 + 1), .long (s1 + ((p0.toInt64) * (p1.toInt64))), .long (s2 + (p2.toInt64)), .long (gTo_count_0_3 p3 s3)]))] := by rw [show (gTo_count_0_3 p3 s3) = (s3 + 1) from (if_neg c_1)]; exact ⟨hP, hD⟩
    exact W.vret hx hb hr (fun t ht hW => ⟨⟨(), rfl, trivial, by rw [ht]; exact h9.1, va_K.moved hW.alike hK, h9.2⟩, hS.F ht⟩) hS.2.2 d_To_count_50
set_option maxHeartbeats 4000000 in
set_option maxRecDepth 100000 in
theorem c_Wi_init (l : Launch) (dC : Nat → ClassId) (dI : Nat → Nat → Nat) (h3 : Nat) (sz : Nat) : Met l y_Wi_init w_Wi_init { frames := 1, cells := 1, slots := 6, locals := 21 } (va_Pc [.ref h3] (pr_ (dC, dI) [(h3, .inr (1, [.null, .int 0]))] [] sz)) (va_Qv (fun (_ : Unit) => True) (fun _ t => ∃ (qx0 : Nat), ∃ (kx0 : ClassId), at_ (dC, dI) (va_A [(h3, .inr (1, [.null, .int 0]))] sz) [(h3, .inr (1, [.ref qx0, .int 0])), (qx0, .inl (kx0, 6, .inl (vWi_clear_4 (fun _ => 0))))] [(kx0, .int)] t) (va_A [(h3, .inr (1, [.null, .int 0]))] sz)) 1 6 (va_A [(h3, .inr (1, [.null, .int 0]))] sz) := by
  refine Met.ofW (cc := b_Wi_init) (maxL := 1) (ret := none) (by decide) rfl ?_
  intro p e s m args below meth c s₁ B hml hv
  obtain ⟨rfl, hsz, hP, hK, hD0, hN⟩ := hv
  have hx := B.exec
  have hb := B.bytes
  have hr := B.returns
  have hts0 := atoms_spec (ws := w_Wi_init) B.pre
  have hts : ∀ w ∈ wA_, w.before _ s = true := fun w h => hts0 w (List.mem_cons_of_mem _ h)
  have hown : s.vm.findClass R_Wi = some m.cls := findClass_of_methodNamed B.named
  have hlocks := B.notSynchronized
  have hin : meth.name = "<init>" := (name_of_methodNamed B.named B.method).1
  subst hsz
  have hD := hD0.self (sz := s.heap.size)
  generalize hAe : va_A [(h3, .inr (1, [.null, .int 0]))] s.heap.size = A at hD ⊢
  have hA : ∀ q : Nat, s.heap.size ≤ q → A q := fun q h => by rw [← hAe]; exact Or.inr h
  have hS : va_S A s.heap s.heap [] := va_S.rf
  have hP : va_P (dC, dI) classes [(h3, .inr (1, [.null, .int 0]))] s.heap := hP
  have hl := lv_entry ([.ref h3]) (n := 1) (Nat.le_of_ble_eq_true rfl)
  rw [lg_entry_eq]
  generalize (lg_sl ([.ref h3]) ++ List.replicate (1 - (lg_sl ([.ref h3])).length) Slot.unset).toArray = ls at hl ⊢
  have hl : lv_has ls 1 [(0, .ref h3)] := hl
  have hS : va_S A s.heap s.heap [] := hS
  refine st_ hP hS (fun H locs hP hS => ?_)
  refine lv_aload_n hx hb d_Wi_init_0 rfl (lv_at hl 0 rfl) ?_
  refine W.objInit hx hb hown (hts (.methodLink R_Wi 1 Lib.objectInit) mw_139) (hts (.instanceMethod Lib.objectInit) mw_136) (hts (.code Lib.objectInit ⟨#[0xb1]⟩ 1 none) mw_137) rfl (by rw [hml]; exact hl.1) rfl d_Wi_init_1 (Nat.le_of_ble_eq_true rfl) (Nat.le_of_ble_eq_true rfl) ?_
  refine W.eq (g2 := F0 m 4 ls []) rfl ?_
  refine lv_aload_n hx hb d_Wi_init_4 rfl (lv_at hl 0 rfl) ?_
  refine lv_bipush (v := 6) hx hb d_Wi_init_5 (by decide) ?_
  refine va_newa (atype := .int) (N' := 6) (a0 := (6, .inl (fun _ => 0))) (ty := .int) (n := 6) hx hb (hts (.arrayClass .int) mw_138) rfl hK hP hD hS hA (fun _ => rfl) (by decide) (by decide) (by decide) (Nat.le_of_ble_eq_true rfl) (Nat.le_of_ble_eq_true rfl) d_Wi_init_7 (fun qx0 kx0 H hK hP hD hS => ?_)
  have hP : va_P (dC, dI) classes [(h3, .inr (1, [.null, .int 0])), (qx0, .inl (kx0, 6, .inl (fun _ => 0)))] H := hP
  have hD : va_D A [(h3, .inr (1, [.null, .int 0])), (qx0, .inl (kx0, 6, .inl (fun _ => 0)))] := hD
  have hK : va_K (dC, dI) classes [(kx0, .int)] s := hK
  refine W.widen (k := 1) (n := 6) (Nat.le_of_ble_eq_true rfl) (Nat.le_of_ble_eq_true rfl) ?_
  refine va_putF (D := (dC, dI)) (ci := 1) (v := .ref qx0) (ty := (.array .int)) (C := R_Wi) (T := F_Wi) (N := 2) hx hb hts in_Wi t_Wi t_Wi_ok n_Wi hown hK hP hD hS 0 rfl rfl 0 (by decide) (hts (.fieldLink R_Wi 9 "TorqueRows$Wishes" "least" "[I") mw_16) (fun _ h9 => h9) rfl hin rfl (by decide +kernel) rfl rfl (Nat.le_of_ble_eq_true rfl) d_Wi_init_9 (fun H locs hP hD hS => ?_)
  have hP : va_P (dC, dI) classes [(h3, .inr (1, [.ref qx0, .int 0])), (qx0, .inl (kx0, 6, .inl (fun _ => 0)))] H := hP
  have hD : va_D A [(h3, .inr (1, [.ref qx0, .int 0])), (qx0, .inl (kx0, 6, .inl (fun _ => 0)))] := hD
  refine lv_aload_n hx hb d_Wi_init_12 rfl (lv_at hl 0 rfl) ?_
  have hPc := hP.sub (ws' := [(h3, .inr (1, [.ref qx0, .int 0])), (qx0, .inl (kx0, 6, .inl (fun _ => 0)))]) [0, 1] rfl
  have hDc := hD.sub (ws' := [(h3, .inr (1, [.ref qx0, .int 0])), (qx0, .inl (kx0, 6, .inl (fun _ => 0)))]) [0, 1] (by decide) rfl
  have hKc := hK.sub (tys' := [(kx0, .int)]) [0] rfl
  have hFc := va_free (wc := [(h3, .inr (1, [.ref qx0, .int 0])), (qx0, .inl (kx0, 6, .inl (fun _ => 0)))]) hD hS hA [0, 1] rfl
  refine ca_v (va_runV (As := []) (rest := []) ⟨hx, hb, hml, hown, hts⟩ (c_Wi_clear l dC dI h3 qx0 kx0 H.size 0 (fun _ => 0)) (cwV 0 hts (gV_ mw_140 mw_58 mw_59 mw_57 mw_56) rfl rfl rfl (by decide +kernel) ⟨Nat.le_of_ble_eq_true rfl, Nat.le_of_ble_eq_true rfl⟩) ⟨fb_, va_recv hKc hPc (ci := 1) (q0 := 0) rfl rfl, pu_ hPc hKc hDc hN⟩ rfl rfl hl.1 rfl (lv_room (Nat.le_of_ble_eq_true rfl)) d_Wi_init_13 ⟨Nat.le_of_ble_eq_true rfl, Nat.le_of_ble_eq_true rfl⟩) hS (fun q _ h => hFc q h) hFc (fun t H locs ht hvm hB hz1 hk1 hS => ?_)
  obtain ⟨hP, hD⟩ := aft_ (wr := []) (w1 := [(h3, .inr (1, [.ref qx0, .int 0])), (qx0, .inl (kx0, 6, .inl (vWi_clear_4 (fun _ => 0))))]) (w2 := [(h3, .inr (1, [.ref qx0, .int 0])), (qx0, .inl (kx0, 6, .inl (vWi_clear_4 (fun _ => 0))))]) hP hD [0, 1] [] [0, 1] rfl rfl (by decide) (by decide) hk1 hFc hB ht rfl (by decide)
  have h9 : va_P (dC, dI) classes [(h3, .inr (1, [.ref qx0, .int 0])), (qx0, .inl (kx0, 6, .inl (vWi_clear_4 (fun _ => 0))))] H ∧ va_D A [(h3, .inr (1, [.ref qx0, .int 0])), (qx0, .inl (kx0, 6, .inl (vWi_clear_4 (fun _ => 0))))] := ⟨hP, hD⟩
  exact W.vret hx hb hr (fun t ht hW => ⟨⟨(), rfl, trivial, qx0, kx0, by rw [ht]; exact h9.1, va_K.moved hW.alike hK, h9.2⟩, hS.F ht⟩) hS.2.2 d_Wi_init_16
set_option maxHeartbeats 4000000 in
set_option maxRecDepth 100000 in
theorem c_Id_init (l : Launch) (dC : Nat → ClassId) (dI : Nat → Nat → Nat) (h5 : Nat) (sz : Nat) : Met l y_Id_init w_Id_init { frames := 1, cells := 0, slots := 0, locals := 20 } (va_Pc [.ref h5] (pr_ (dC, dI) [(h5, .inr (2, [.int 0, .int 0]))] [] sz)) (va_Qv (fun (_ : Unit) => True) (fun _ t => at_ (dC, dI) (va_A [(h5, .inr (2, [.int 0, .int 0]))] sz) [(h5, .inr (2, [.int 800, .int 0]))] [] t) (va_A [(h5, .inr (2, [.int 0, .int 0]))] sz)) 0 0 (va_A [(h5, .inr (2, [.int 0, .int 0]))] sz) := by
  refine Met.ofW (cc := b_Id_init) (maxL := 1) (ret := none) (by decide) rfl ?_
  intro p e s m args below meth c s₁ B hml hv
  obtain ⟨rfl, hsz, hP, hK, hD0, hN⟩ := hv
  have hx := B.exec
  have hb := B.bytes
  have hr := B.returns
  have hts0 := atoms_spec (ws := w_Id_init) B.pre
  have hts : ∀ w ∈ wA_, w.before _ s = true := fun w h => hts0 w (List.mem_cons_of_mem _ h)
  have hown : s.vm.findClass R_Id = some m.cls := findClass_of_methodNamed B.named
  have hlocks := B.notSynchronized
  have hin : meth.name = "<init>" := (name_of_methodNamed B.named B.method).1
  subst hsz
  have hD := hD0.self (sz := s.heap.size)
  generalize hAe : va_A [(h5, .inr (2, [.int 0, .int 0]))] s.heap.size = A at hD ⊢
  have hA : ∀ q : Nat, s.heap.size ≤ q → A q := fun q h => by rw [← hAe]; exact Or.inr h
  have hS : va_S A s.heap s.heap [] := va_S.rf
  have hP : va_P (dC, dI) classes [(h5, .inr (2, [.int 0, .int 0]))] s.heap := hP
  have hl := lv_entry ([.ref h5]) (n := 1) (Nat.le_of_ble_eq_true rfl)
  rw [lg_entry_eq]
  generalize (lg_sl ([.ref h5]) ++ List.replicate (1 - (lg_sl ([.ref h5])).length) Slot.unset).toArray = ls at hl ⊢
  have hl : lv_has ls 1 [(0, .ref h5)] := hl
  have hS : va_S A s.heap s.heap [] := hS
  refine st_ hP hS (fun H locs hP hS => ?_)
  refine lv_aload_n hx hb d_Id_init_0 rfl (lv_at hl 0 rfl) ?_
  refine W.objInit hx hb hown (hts (.methodLink R_Id 1 Lib.objectInit) mw_141) (hts (.instanceMethod Lib.objectInit) mw_136) (hts (.code Lib.objectInit ⟨#[0xb1]⟩ 1 none) mw_137) rfl (by rw [hml]; exact hl.1) rfl d_Id_init_1 (Nat.le_of_ble_eq_true rfl) (Nat.le_of_ble_eq_true rfl) ?_
  refine W.eq (g2 := F0 m 4 ls []) rfl ?_
  refine lv_aload_n hx hb d_Id_init_4 rfl (lv_at hl 0 rfl) ?_
  refine lv_sipush (v := 800) hx hb d_Id_init_5 (by decide) ?_
  refine va_put (D := (dC, dI)) (ci := 2) (v := .int 800) (ty := .int) (C := R_Id) (T := F_Id) (N := 2) hx hb hts in_Id t_Id t_Id_ok n_Id hown hK hP hD hS 0 rfl rfl 0 (by decide) (hts (.fieldLink R_Id 7 "TorqueRows$Idling" "aim" "I") mw_21) (fun _ h9 => h9) rfl (by decide +kernel) rfl rfl (Nat.le_of_ble_eq_true rfl) d_Id_init_8 (fun H locs hP hD hS => ?_)
  have hP : va_P (dC, dI) classes [(h5, .inr (2, [.int 800, .int 0]))] H := hP
  have hD : va_D A [(h5, .inr (2, [.int 800, .int 0]))] := hD
  have h9 : va_P (dC, dI) classes [(h5, .inr (2, [.int 800, .int 0]))] H ∧ va_D A [(h5, .inr (2, [.int 800, .int 0]))] := ⟨hP, hD⟩
  exact W.vret hx hb hr (fun t ht hW => ⟨⟨(), rfl, trivial, by rw [ht]; exact h9.1, va_K.moved hW.alike hK, h9.2⟩, hS.F ht⟩) hS.2.2 d_Id_init_11
set_option maxHeartbeats 4000000 in
set_option maxRecDepth 100000 in
theorem c_To_init (l : Launch) (dC : Nat → ClassId) (dI : Nat → Nat → Nat) (h6 : Nat) (sz : Nat) : Met l y_To_init w_To_init { frames := 1, cells := 0, slots := 0, locals := 20 } (va_Pc [.ref h6] (pr_ (dC, dI) [(h6, .inr (3, [.long 0, .long 0, .long 0, .long 0]))] [] sz)) (va_Qv (fun (_ : Unit) => True) (fun _ t => at_ (dC, dI) (va_A [(h6, .inr (3, [.long 0, .long 0, .long 0, .long 0]))] sz) [(h6, .inr (3, [.long 0, .long 0, .long 0, .long 0]))] [] t) (va_A [(h6, .inr (3, [.long 0, .long 0, .long 0, .long 0]))] sz)) 0 0 (va_A [(h6, .inr (3, [.long 0, .long 0, .long 0, .long 0]))] sz) := by
  refine Met.ofW (cc := b_To_init) (maxL := 1) (ret := none) (by decide) rfl ?_
  intro p e s m args below meth c s₁ B hml hv
  obtain ⟨rfl, hsz, hP, hK, hD0, hN⟩ := hv
  have hx := B.exec
  have hb := B.bytes
  have hr := B.returns
  have hts0 := atoms_spec (ws := w_To_init) B.pre
  have hts : ∀ w ∈ wA_, w.before _ s = true := fun w h => hts0 w (List.mem_cons_of_mem _ h)
  have hown : s.vm.findClass R_To = some m.cls := findClass_of_methodNamed B.named
  have hlocks := B.notSynchronized
  have hin : meth.name = "<init>" := (name_of_methodNamed B.named B.method).1
  subst hsz
  have hD := hD0.self (sz := s.heap.size)
  generalize hAe : va_A [(h6, .inr (3, [.long 0, .long 0, .long 0, .long 0]))] s.heap.size = A at hD ⊢
  have hA : ∀ q : Nat, s.heap.size ≤ q → A q := fun q h => by rw [← hAe]; exact Or.inr h
  have hS : va_S A s.heap s.heap [] := va_S.rf
  have hP : va_P (dC, dI) classes [(h6, .inr (3, [.long 0, .long 0, .long 0, .long 0]))] s.heap := hP
  have hl := lv_entry ([.ref h6]) (n := 1) (Nat.le_of_ble_eq_true rfl)
  rw [lg_entry_eq]
  generalize (lg_sl ([.ref h6]) ++ List.replicate (1 - (lg_sl ([.ref h6])).length) Slot.unset).toArray = ls at hl ⊢
  have hl : lv_has ls 1 [(0, .ref h6)] := hl
  have hS : va_S A s.heap s.heap [] := hS
  refine st_ hP hS (fun H locs hP hS => ?_)
  refine lv_aload_n hx hb d_To_init_0 rfl (lv_at hl 0 rfl) ?_
  refine W.objInit hx hb hown (hts (.methodLink R_To 1 Lib.objectInit) mw_142) (hts (.instanceMethod Lib.objectInit) mw_136) (hts (.code Lib.objectInit ⟨#[0xb1]⟩ 1 none) mw_137) rfl (by rw [hml]; exact hl.1) rfl d_To_init_1 (Nat.le_of_ble_eq_true rfl) (Nat.le_of_ble_eq_true rfl) ?_
  refine W.eq (g2 := F0 m 4 ls []) rfl ?_
  have h9 : va_P (dC, dI) classes [(h6, .inr (3, [.long 0, .long 0, .long 0, .long 0]))] H ∧ va_D A [(h6, .inr (3, [.long 0, .long 0, .long 0, .long 0]))] := ⟨hP, hD⟩
  exact W.vret hx hb hr (fun t ht hW => ⟨⟨(), rfl, trivial, by rw [ht]; exact h9.1, va_K.moved hW.alike hK, h9.2⟩, hS.F ht⟩) hS.2.2 d_To_init_4
