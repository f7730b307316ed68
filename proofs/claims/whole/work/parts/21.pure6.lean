-- shares of a motor, both ways; wishes, the watch
theorem co_ {tb : Nat → Int32} (hb : bd_ tb) (pw sp m k : Int32) (hk : m + ((m * m) / 200) = k) : k + (fZ_valueAt tb 4 ((pw - m).toInt64) (sp.toInt64)) = fX_costTogether m tb pw sp := by
  unfold fX_costTogether
  rw [hk, (e_val hb 4 (pw - m) sp).1]
theorem co0 {tb : Nat → Int32} (hb : bd_ tb) (pw sp : Int32) : fZ_valueAt tb 4 (pw.toInt64) (sp.toInt64) = fX_costTogether 0 tb pw sp := by
  have h := co_ hb pw sp 0 0 (by decide)
  rw [Int32.sub_zero, Int32.zero_add] at h
  exact h
set_option maxHeartbeats 1000000 in
theorem e_split {tb : Nat → Int32} (hb : bd_ tb) (pv : Int64) (px sp : Int32) : fX_split pv px tb sp = fZ_split pv px tb sp := by
  have z0 : vZ_split_0 tb pv sp = fX_costTogether 0 tb pv.toInt32 sp := co0 hb _ _
  have z50 : vZ_split_1 tb pv sp = fX_costTogether 50 tb pv.toInt32 sp := co_ hb _ _ 50 62 (by decide)
  have z100 : vZ_split_4 tb pv sp = fX_costTogether 100 tb pv.toInt32 sp := co_ hb _ _ 100 150 (by decide)
  have z150 : vZ_split_7 tb pv sp = fX_costTogether 150 tb pv.toInt32 sp := co_ hb _ _ 150 262 (by decide)
  have z200 : vZ_split_10 tb pv sp = fX_costTogether 200 tb pv.toInt32 sp := co_ hb _ _ 200 400 (by decide)
  have z250 : vZ_split_13 tb pv sp = fX_costTogether 250 tb pv.toInt32 sp := co_ hb _ _ 250 562 (by decide)
  have z300 : vZ_split_16 tb pv sp = fX_costTogether 300 tb pv.toInt32 sp := co_ hb _ _ 300 750 (by decide)
  have z350 : vZ_split_19 tb pv sp = fX_costTogether 350 tb pv.toInt32 sp := co_ hb _ _ 350 962 (by decide)
  have z400 : vZ_split_22 tb pv sp = fX_costTogether 400 tb pv.toInt32 sp := co_ hb _ _ 400 1200 (by decide)
  have c0 : vZ_split_2 tb pv sp = vX_cheapestMotor_0 tb pv.toInt32 sp := by unfold vZ_split_2 vX_cheapestMotor_0; rw [z0, z50]
  have b0 : vZ_split_3 tb pv sp = vX_cheapestMotor_1 tb pv.toInt32 sp := by unfold vZ_split_3 vX_cheapestMotor_1; rw [z0, z50]
  have k0 : fX_costTogether (vX_cheapestMotor_1 tb pv.toInt32 sp) tb pv.toInt32 sp = vX_cheapestMotor_0 tb pv.toInt32 sp := by
    unfold vX_cheapestMotor_1 vX_cheapestMotor_0
    split
    · rfl
    · rfl
  have c1 : vZ_split_5 tb pv sp = vX_cheapestMotor_2 tb pv.toInt32 sp := by unfold vZ_split_5 vX_cheapestMotor_2; rw [c0, z100]
  have b1 : vZ_split_6 tb pv sp = vX_cheapestMotor_3 tb pv.toInt32 sp := by unfold vZ_split_6 vX_cheapestMotor_3; rw [c0, z100, b0]
  have k1 : fX_costTogether (vX_cheapestMotor_3 tb pv.toInt32 sp) tb pv.toInt32 sp = vX_cheapestMotor_2 tb pv.toInt32 sp := by
    unfold vX_cheapestMotor_3 vX_cheapestMotor_2
    split
    · exact k0
    · rfl
  have c2 : vZ_split_8 tb pv sp = vX_cheapestMotor_4 tb pv.toInt32 sp := by unfold vZ_split_8 vX_cheapestMotor_4; rw [c1, z150]
  have b2 : vZ_split_9 tb pv sp = vX_cheapestMotor_5 tb pv.toInt32 sp := by unfold vZ_split_9 vX_cheapestMotor_5; rw [c1, z150, b1]
  have k2 : fX_costTogether (vX_cheapestMotor_5 tb pv.toInt32 sp) tb pv.toInt32 sp = vX_cheapestMotor_4 tb pv.toInt32 sp := by
    unfold vX_cheapestMotor_5 vX_cheapestMotor_4
    split
    · exact k1
    · rfl
  have c3 : vZ_split_11 tb pv sp = vX_cheapestMotor_6 tb pv.toInt32 sp := by unfold vZ_split_11 vX_cheapestMotor_6; rw [c2, z200]
  have b3 : vZ_split_12 tb pv sp = vX_cheapestMotor_7 tb pv.toInt32 sp := by unfold vZ_split_12 vX_cheapestMotor_7; rw [c2, z200, b2]
  have k3 : fX_costTogether (vX_cheapestMotor_7 tb pv.toInt32 sp) tb pv.toInt32 sp = vX_cheapestMotor_6 tb pv.toInt32 sp := by
    unfold vX_cheapestMotor_7 vX_cheapestMotor_6
    split
    · exact k2
    · rfl
  have c4 : vZ_split_14 tb pv sp = vX_cheapestMotor_8 tb pv.toInt32 sp := by unfold vZ_split_14 vX_cheapestMotor_8; rw [c3, z250]
  have b4 : vZ_split_15 tb pv sp = vX_cheapestMotor_9 tb pv.toInt32 sp := by unfold vZ_split_15 vX_cheapestMotor_9; rw [c3, z250, b3]
  have k4 : fX_costTogether (vX_cheapestMotor_9 tb pv.toInt32 sp) tb pv.toInt32 sp = vX_cheapestMotor_8 tb pv.toInt32 sp := by
    unfold vX_cheapestMotor_9 vX_cheapestMotor_8
    split
    · exact k3
    · rfl
  have c5 : vZ_split_17 tb pv sp = vX_cheapestMotor_10 tb pv.toInt32 sp := by unfold vZ_split_17 vX_cheapestMotor_10; rw [c4, z300]
  have b5 : vZ_split_18 tb pv sp = vX_cheapestMotor_11 tb pv.toInt32 sp := by unfold vZ_split_18 vX_cheapestMotor_11; rw [c4, z300, b4]
  have k5 : fX_costTogether (vX_cheapestMotor_11 tb pv.toInt32 sp) tb pv.toInt32 sp = vX_cheapestMotor_10 tb pv.toInt32 sp := by
    unfold vX_cheapestMotor_11 vX_cheapestMotor_10
    split
    · exact k4
    · rfl
  have c6 : vZ_split_20 tb pv sp = vX_cheapestMotor_12 tb pv.toInt32 sp := by unfold vZ_split_20 vX_cheapestMotor_12; rw [c5, z350]
  have b6 : vZ_split_21 tb pv sp = vX_cheapestMotor_13 tb pv.toInt32 sp := by unfold vZ_split_21 vX_cheapestMotor_13; rw [c5, z350, b5]
  have k6 : fX_costTogether (vX_cheapestMotor_13 tb pv.toInt32 sp) tb pv.toInt32 sp = vX_cheapestMotor_12 tb pv.toInt32 sp := by
    unfold vX_cheapestMotor_13 vX_cheapestMotor_12
    split
    · exact k5
    · rfl
  have c7 : vZ_split_23 tb pv sp = vX_cheapestMotor_14 tb pv.toInt32 sp := by unfold vZ_split_23 vX_cheapestMotor_14; rw [c6, z400]
  have b7 : vZ_split_24 tb pv sp = vX_cheapestMotor_15 tb pv.toInt32 sp := by unfold vZ_split_24 vX_cheapestMotor_15; rw [c6, z400, b6]
  have k7 : fX_costTogether (vX_cheapestMotor_15 tb pv.toInt32 sp) tb pv.toInt32 sp = vX_cheapestMotor_14 tb pv.toInt32 sp := by
    unfold vX_cheapestMotor_15 vX_cheapestMotor_14
    split
    · exact k6
    · rfl
  have f1 : fX_cheapestMotor pv.toInt32 tb sp = vZ_split_27 pv tb sp := by
    unfold fX_cheapestMotor vZ_split_27
    rw [b0, b1, b2, b3, b4, b5, b6, b7]
  have f2 : fX_costTogether (fX_cheapestMotor pv.toInt32 tb sp) tb pv.toInt32 sp = vZ_split_26 pv tb sp := by
    unfold fX_cheapestMotor vZ_split_26
    rw [z0, c0, c1, c2, c3, c4, c5, c6, c7]
    repeat' split
    · rfl
    · exact k0
    · exact k1
    · exact k2
    · exact k3
    · exact k4
    · exact k5
    · exact k6
    · exact k7
  unfold fX_split fZ_split
  rw [f2, f1]
  by_cases h1 : lg_cmp pv 0 < 0
  · rw [iu_f1 h1, if_pos rfl, if_pos h1]
  rw [if_neg h1]
  by_cases h2 : lg_cmp pv 1000 ≤ 0
  · rw [iu_t h1 h2, if_neg i01, if_neg (k2_nlt h2)]
  · rw [iu_f2 h1 h2, if_pos rfl, if_pos (k2_lt h2)]
theorem e_wish {le zr zd : Nat → Int32} {wt rk : Int32} {pv : Int64} (H : wr_ le zr zd wt) : fX_wish rk pv wt = fZ_wish rk pv wt ∧ gX_wish_3_1 rk wt pv = gZ_wish_0_3 rk wt pv ∧ wr_ (gX_wish_4 rk le pv wt) (gZ_wish_3 rk zr pv wt) (gZ_wish_4 rk zd pv wt) (gX_wish_3_1 rk wt pv) := by
  obtain ⟨N, hN, rfl, hd, h1, h2, h3, h4, h5⟩ := id H
  unfold fX_wish fZ_wish gX_wish_3_1 gZ_wish_0_3 gX_wish_4 gZ_wish_3 gZ_wish_4
  by_cases g1 : rk < 1
  · simp only [if_pos g1]; exact ⟨trivial, trivial, H⟩
  simp only [if_neg g1]
  by_cases g2 : rk ≤ 5
  · simp only [if_pos g2]
    by_cases g3 : lg_cmp pv 0 < 0
    · simp only [iu_f1 g3, if_pos g3, if_pos]; exact ⟨trivial, trivial, H⟩
    simp only [if_neg g3]
    by_cases g4 : lg_cmp pv 1000 ≤ 0
    · simp only [iu_t g3 g4, if_pos g4, if_neg i01]
      by_cases g5 : N = 16
      · subst g5
        have a : ¬ nI 16 < 16 := by decide
        have b : nI 16 = 16 := rfl
        simp only [if_neg a, if_pos b]; exact ⟨trivial, trivial, H⟩
      · have a : nI N < 16 := nI_lt (b := 16) (by omega) (by decide)
        have b : ¬ nI N = 16 := fun q => g5 ((nI_eq (b := 16) (by omega) (by decide)).mp q)
        simp only [if_pos a, if_neg b]
        refine ⟨trivial, trivial, N + 1, by omega, nI_1 N, ?_, ?_⟩
        · obtain ⟨v, hv, -, ev⟩ := iu_n (M := 1000) (by decide) g3 g4
          intro k hk
          rw [nI_clamp (by omega)]
          by_cases e : k = N
          · subst e; rw [pk_us]; exact ⟨v, hv, ev⟩
          · rw [pk_un e]; exact hd k (by omega)
        · obtain ⟨v, hv, -, ev⟩ := iu_n (M := 1000) (by decide) g3 g4
          rw [nI_clamp (by omega)]
          obtain ⟨r, hr, er⟩ : ∃ r : Nat, r < 6 ∧ rk = nI r := by
            have q := wi_in g1 g2
            exact vp_in_of q (by decide)
          have hs : ∀ i : Nat, i < 6 → (nI i).toNatClampNeg = rk.toNatClampNeg → nI i = rk := by
            intro i hi q
            rw [er, nI_clamp (by omega), nI_clamp (by omega)] at q
            rw [er, q]
          exact ⟨lst_add zr zd le rk _ ev hv hd 1 h1 (hs 1 (by decide)), lst_add zr zd le rk _ ev hv hd 2 h2 (hs 2 (by decide)), lst_add zr zd le rk _ ev hv hd 3 h3 (hs 3 (by decide)), lst_add zr zd le rk _ ev hv hd 4 h4 (hs 4 (by decide)), lst_add zr zd le rk _ ev hv hd 5 h5 (hs 5 (by decide))⟩
    · simp only [iu_f2 g3 g4, if_neg g4, if_pos]; exact ⟨trivial, trivial, H⟩
  · simp only [if_neg g2]; exact ⟨trivial, trivial, H⟩
theorem e_mon0 (p0 : Int64) (wa tp tm : Int32) : vX_monitor_0 p0 wa tp tm = vZ_monitor_0 p0 wa tp tm := by
  unfold vX_monitor_0 vZ_monitor_0 fX_isTooMuch
  by_cases h1 : lg_cmp p0 ((wa + 30).toInt64) ≤ 0
  · simp only [if_pos h1, if_pos]
  · simp only [if_neg h1]
    by_cases h2 : lg_cmp p0 (tp.toInt64) ≤ 0
    · simp only [if_pos h2, if_pos]
    · simp only [if_neg h2, if_neg i01]
theorem e_mon {st tm : Int32} (hs : st = 0 ∨ st = 1) (hm : st = 0 → ∃ k : Nat, k < 8 ∧ tm = nI k) (p0 : Int64) (wa tp : Int32) : fX_monitor st p0 wa tp tm = fZ_monitor st p0 wa tp tm ∧ gX_monitor_0_8 st p0 wa tp tm = gZ_monitor_0_9 st p0 wa tp tm ∧ gX_monitor_0_10 st p0 wa tp tm = gZ_monitor_0_21 st p0 wa tp tm
    ∧ (gX_monitor_0_8 st p0 wa tp tm = 0 ∨ gX_monitor_0_8 st p0 wa tp tm = 1) ∧ (gX_monitor_0_8 st p0 wa tp tm = 0 → st = 0 ∧ ∃ k : Nat, k < 8 ∧ gX_monitor_0_10 st p0 wa tp tm = nI k) := by
  unfold fX_monitor fZ_monitor gX_monitor_0_8 gZ_monitor_0_9 gX_monitor_0_10 gZ_monitor_0_21 vX_monitor_1 vZ_monitor_1
  rw [e_mon0]
  rcases hs with rfl | rfl
  · simp only [if_pos]
    obtain ⟨k, hk, rfl⟩ := hm rfl
    have C : ∃ j : Nat, j ≤ 8 ∧ vZ_monitor_0 p0 wa tp (nI k) = nI j := by
      unfold vZ_monitor_0
      split
      · exact ⟨0, by omega, rfl⟩
      · split
        · exact ⟨0, by omega, rfl⟩
        · exact ⟨k + 1, by omega, nI_1 k⟩
    obtain ⟨j, hj, e⟩ := C
    rw [e]
    by_cases h : j = 8
    · subst h
      refine ⟨trivial, rfl, trivial, Or.inr rfl, fun q => absurd q (by decide)⟩
    · have h1 : nI j < 8 := nI_lt (b := 8) (by omega) (by decide)
      have h2 : ¬ nI j = 8 := fun q => h ((nI_eq (b := 8) (by omega) (by decide)).mp q)
      rw [if_pos h1, if_neg h2]
      exact ⟨trivial, rfl, trivial, Or.inl rfl, fun _ => ⟨trivial, j, by omega, rfl⟩⟩
  · simp only [if_neg i01]
    exact ⟨trivial, trivial, trivial, Or.inr trivial, fun q => absurd q i01⟩
