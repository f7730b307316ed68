-- pure rows that the walks of the class ask for: places of arrays
theorem mn_nI {a b : Nat} (ha : a < 2 ^ 31) (hb : b < 2 ^ 31) : mn (nI a) (nI b) = nI (min a b) := by
  unfold mn
  by_cases h : nI b < nI a
  · rw [if_pos h]
    have := (nI_ltI hb ha).mp h
    rw [Nat.min_eq_right (by omega)]
  · rw [if_neg h]
    have : ¬ b < a := fun q => h ((nI_ltI hb ha).mpr q)
    rw [Nat.min_eq_left (by omega)]
theorem mx_nI {a b : Nat} (ha : a < 2 ^ 31) (hb : b < 2 ^ 31) : mx (nI a) (nI b) = nI (max a b) := by
  unfold mx
  by_cases h : nI a < nI b
  · rw [if_pos h]
    have := (nI_ltI ha hb).mp h
    rw [Nat.max_eq_right (by omega)]
  · rw [if_neg h]
    have : ¬ a < b := fun q => h ((nI_ltI ha hb).mpr q)
    rw [Nat.max_eq_left (by omega)]
theorem bt_nI (a : Int32) {n : Nat} (hn : n + 1 < 2 ^ 31) : ∃ j : Nat, j ≤ n ∧ fTa_between a (nI n) = nI j := by
  unfold fTa_between
  rcases pk_ix a (n := n + 1) hn with h | h | ⟨j, hj, rfl⟩
  · refine ⟨0, Nat.zero_le _, ?_⟩
    have h1 : ¬ nI n < a := by
      rw [Int32.lt_iff_toInt_lt, nI_toInt (by omega)]
      rw [Int32.lt_iff_toInt_lt, Int32.toInt_zero] at h
      omega
    rw [show mn a (nI n) = a from if_neg h1]
    exact if_neg (by
      rw [Int32.lt_iff_toInt_lt, Int32.toInt_zero]
      rw [Int32.lt_iff_toInt_lt, Int32.toInt_zero] at h
      omega)
  · refine ⟨n, Nat.le_refl _, ?_⟩
    have h1 : nI n < a := by
      rw [Int32.lt_iff_toInt_lt, nI_toInt (by omega)]
      rw [Int32.le_iff_toInt_le, nI_toInt hn] at h
      omega
    rw [show mn a (nI n) = nI n from if_pos h1]
    exact (mx_nI (a := 0) (by decide) (by omega)).trans (by rw [Nat.zero_max])
  · refine ⟨j, by omega, ?_⟩
    rw [mn_nI (by omega) (by omega), Nat.min_eq_left (by omega)]
    exact (mx_nI (a := 0) (by decide) (by omega)).trans (by rw [Nat.zero_max])
/-- the cell in which a lies, and the place in it -/
theorem ji_nI (a : Int32) : ∃ j : Nat, j ≤ 6 ∧ mn ((fTa_between a 896) / 128) 6 = nI j := by
  obtain ⟨j, hj, e⟩ := bt_nI a (n := 896) (by decide)
  have e : fTa_between a 896 = nI j := e
  refine ⟨min (j / 128) 6, Nat.min_le_right _ _, ?_⟩
  rw [e]
  show mn (nI j / nI 128) (nI 6) = _
  rw [pk_div (by omega) (by decide) (by decide), mn_nI (by omega) (by decide)]
theorem jj_nI (a : Int32) : ∃ j : Nat, j ≤ 6 ∧ mn ((fTa_between a 7000) / 1000) 6 = nI j := by
  obtain ⟨j, hj, e⟩ := bt_nI a (n := 7000) (by decide)
  have e : fTa_between a 7000 = nI j := e
  refine ⟨min (j / 1000) 6, Nat.min_le_right _ _, ?_⟩
  rw [e]
  show mn (nI j / nI 1000) (nI 6) = _
  rw [pk_div (by omega) (by decide) (by decide), mn_nI (by omega) (by decide)]
theorem ix_nI (k i j : Nat) : fTa_indexOf (nI k) (nI i) (nI j) = nI ((k * 8 + i) * 8 + j) := by
  show ((nI k * nI 8 + nI i) * nI 8 + nI j) = _
  rw [pk_mul, nI_add, pk_mul, nI_add]
theorem ix_in {k i j : Nat} (hk : k < 5) (hi : i < 8) (hj : j < 8) : vp_in (fTa_indexOf (nI k) (nI i) (nI j)) 320 := by
  rw [ix_nI]; exact vp_in_nI (by omega) (by decide)
theorem jo_78 {ki pa ps : Int32} (hk : vp_in ki 5) : vp_in (fTa_indexOf ki (mn ((fTa_between pa 896) / 128) 6) (mn ((fTa_between ps 7000) / 1000) 6)) 320 := by
  obtain ⟨k, h1, rfl⟩ := vp_in_of hk (by decide)
  obtain ⟨i, h2, e2⟩ := ji_nI pa
  obtain ⟨j, h3, e3⟩ := jj_nI ps
  rw [e2, e3]; exact ix_in h1 (by omega) (by omega)
theorem jo_100 {ki pa ps : Int32} (hk : vp_in ki 5) : vp_in (fTa_indexOf ki ((mn ((fTa_between pa 896) / 128) 6) + 1) (mn ((fTa_between ps 7000) / 1000) 6)) 320 := by
  obtain ⟨k, h1, rfl⟩ := vp_in_of hk (by decide)
  obtain ⟨i, h2, e2⟩ := ji_nI pa
  obtain ⟨j, h3, e3⟩ := jj_nI ps
  rw [e2, e3, nI_1]; exact ix_in h1 (by omega) (by omega)
theorem jo_121 {ki pa ps : Int32} (hk : vp_in ki 5) : vp_in (fTa_indexOf ki (mn ((fTa_between pa 896) / 128) 6) ((mn ((fTa_between ps 7000) / 1000) 6) + 1)) 320 := by
  obtain ⟨k, h1, rfl⟩ := vp_in_of hk (by decide)
  obtain ⟨i, h2, e2⟩ := ji_nI pa
  obtain ⟨j, h3, e3⟩ := jj_nI ps
  rw [e2, e3, nI_1]; exact ix_in h1 (by omega) (by omega)
theorem jo_145 {ki pa ps : Int32} (hk : vp_in ki 5) : vp_in (fTa_indexOf ki ((mn ((fTa_between pa 896) / 128) 6) + 1) ((mn ((fTa_between ps 7000) / 1000) 6) + 1)) 320 := by
  obtain ⟨k, h1, rfl⟩ := vp_in_of hk (by decide)
  obtain ⟨i, h2, e2⟩ := ji_nI pa
  obtain ⟨j, h3, e3⟩ := jj_nI ps
  rw [e2, e3, nI_1, nI_1]; exact ix_in h1 (by omega) (by omega)
theorem up_ {x : Int32} {n : Nat} (hn : n < 2 ^ 31) (h0 : ¬ x < 0) (h1 : ¬ nI n ≤ x) : ∃ j : Nat, j < n ∧ x = nI j := by
  rcases pk_ix x hn with h | h | h
  · exact absurd h h0
  · exact absurd h h1
  · exact h
theorem pl_ {px py : Int32} (h : ¬ fTa_isPlace px py = 0) : ∃ i j : Nat, i < 8 ∧ j < 8 ∧ px = nI i ∧ py = nI j := by
  unfold fTa_isPlace at h
  by_cases h1 : px < 0
  · exact absurd (if_pos h1) h
  rw [if_neg h1] at h
  by_cases h2 : 8 ≤ px
  · exact absurd (if_pos h2) h
  rw [if_neg h2] at h
  by_cases h3 : py < 0
  · exact absurd (if_pos h3) h
  rw [if_neg h3] at h
  by_cases h4 : 8 ≤ py
  · exact absurd (if_pos h4) h
  obtain ⟨i, hi, ei⟩ := up_ (n := 8) (by decide) h1 h2
  obtain ⟨j, hj, ej⟩ := up_ (n := 8) (by decide) h3 h4
  exact ⟨i, j, hi, hj, ei, ej⟩
theorem tb_in {ki px py : Int32} (h1 : ¬ ki < 0) (h2 : ki < 5) (h3 : ¬ fTa_isPlace px py = 0) : vp_in (fTa_indexOf ki px py) 320 := by
  obtain ⟨k, hk, rfl⟩ := up_ (n := 5) (by decide) h1 (k2_nle h2)
  obtain ⟨i, j, hi, hj, rfl, rfl⟩ := pl_ h3
  exact ix_in hk hi hj
theorem wi_in {rk : Int32} (h1 : ¬ rk < 1) (h2 : rk ≤ 5) : vp_in rk 6 := by
  rw [vp_in_iff]
  rw [Int32.lt_iff_toInt_lt] at h1
  rw [Int32.le_iff_toInt_le] at h2
  have e1 : (1 : Int32).toInt = 1 := by decide
  have e5 : (5 : Int32).toInt = 5 := by decide
  omega
theorem se_in {wh : Int32} (h1 : ¬ wh < 0) (h2 : wh < 3) : vp_in wh 3 := by
  rw [vp_in_iff]
  rw [Int32.lt_iff_toInt_lt] at h1 h2
  have e1 : (0 : Int32).toInt = 0 := by decide
  have e5 : (3 : Int32).toInt = 3 := by decide
  omega
