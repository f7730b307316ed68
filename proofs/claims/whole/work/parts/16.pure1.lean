-- both sides' functions agree: ranges, tables, small methods
theorem iu_f1 {v M : Int64} (h1 : lg_cmp v 0 < 0) : fX_isUpTo v M = 0 := if_pos h1
theorem iu_f2 {v M : Int64} (h1 : ¬ lg_cmp v 0 < 0) (h2 : ¬ lg_cmp v M ≤ 0) : fX_isUpTo v M = 0 := (if_neg h1).trans (if_pos (k2_lt h2))
theorem iu_t {v M : Int64} (h1 : ¬ lg_cmp v 0 < 0) (h2 : lg_cmp v M ≤ 0) : fX_isUpTo v M = 1 := (if_neg h1).trans (if_neg (k2_nlt h2))
theorem i01 : ¬ (1 : Int32) = 0 := by decide
/-- a number between 0 and M, as a Nat -/
theorem iu_n {v : Int64} {M : Nat} (hM : M < 2 ^ 31) (h1 : ¬ lg_cmp v 0 < 0) (h2 : lg_cmp v (lN M) ≤ 0) : ∃ k : Nat, k ≤ M ∧ v = lN k ∧ v.toInt32 = nI k := by
  have g1 : ¬ v < 0 := fun q => h1 ((lg_cmp_lt v 0).mpr q)
  obtain ⟨k, hk, rfl⟩ := pk_lOf g1
  exact ⟨k, (pk_lLE hk (by omega)).mp ((lg_cmp_le _ _).mp h2), rfl, lN_i k⟩
theorem e_bound (p0 : Int64) (bn : Int32) : fX_bound p0 bn = fZ_bound p0 bn ∧ gX_bound_0_5 p0 bn = gZ_bound_0_7 p0 bn := by
  unfold fX_bound fZ_bound gX_bound_0_5 gZ_bound_0_7
  by_cases h1 : lg_cmp p0 0 < 0
  · rw [iu_f1 h1, if_pos h1, if_pos h1, if_pos rfl, if_pos rfl]; exact ⟨rfl, rfl⟩
  · by_cases h2 : lg_cmp p0 1000 ≤ 0
    · rw [iu_t h1 h2, if_neg h1, if_pos h2, if_neg h1, if_pos h2, if_neg i01, if_neg i01]; exact ⟨rfl, rfl⟩
    · rw [iu_f2 h1 h2, if_neg h1, if_neg h2, if_neg h1, if_neg h2, if_pos rfl, if_pos rfl]; exact ⟨rfl, rfl⟩
theorem e_idle (p0 : Int64) (am : Int32) : fX_idle p0 am = fZ_idle p0 am ∧ gX_idle_5_0 p0 am = gZ_idle_0_6 p0 am := by
  unfold fX_idle fZ_idle gX_idle_5_0 gZ_idle_0_6
  by_cases h1 : lg_cmp p0 0 < 0
  · rw [iu_f1 h1, if_pos h1, if_pos h1, if_pos rfl, if_pos rfl]; exact ⟨rfl, rfl⟩
  · by_cases h2 : lg_cmp p0 3000 ≤ 0
    · rw [iu_t h1 h2, if_neg h1, if_pos h2, if_neg h1, if_pos h2, if_neg i01, if_neg i01]; exact ⟨rfl, rfl⟩
    · rw [iu_f2 h1 h2, if_neg h1, if_neg h2, if_neg h1, if_neg h2, if_pos rfl, if_pos rfl]; exact ⟨rfl, rfl⟩
theorem e_idx (ki px py : Int32) : fTa_indexOf ki px py = ((64 * ki) + (8 * px)) + py := by
  unfold fTa_indexOf
  grind
theorem pl_t {px py : Int32} (h1 : ¬ px < 0) (h2 : ¬ 7 < px) (h3 : ¬ py < 0) (h4 : ¬ 7 < py) : fTa_isPlace px py = 1 := by
  have n : ∀ x : Int32, ¬ 7 < x → ¬ 8 ≤ x := by
    intro x h
    rw [Int32.lt_iff_toInt_lt] at h
    rw [Int32.le_iff_toInt_le]
    have e1 : (7 : Int32).toInt = 7 := by decide
    have e2 : (8 : Int32).toInt = 8 := by decide
    omega
  exact (if_neg h1).trans ((if_neg (n _ h2)).trans ((if_neg h3).trans (if_neg (n _ h4))))
theorem g78 {x : Int32} (h : 7 < x) : 8 ≤ x := by
  rw [Int32.lt_iff_toInt_lt] at h
  rw [Int32.le_iff_toInt_le]
  have e1 : (7 : Int32).toInt = 7 := by decide
  have e2 : (8 : Int32).toInt = 8 := by decide
  omega
theorem pl_1 {px py : Int32} (h1 : px < 0) : fTa_isPlace px py = 0 := if_pos h1
theorem pl_2 {px py : Int32} (h1 : ¬ px < 0) (h2 : 7 < px) : fTa_isPlace px py = 0 := (if_neg h1).trans (if_pos (g78 h2))
theorem pl_3 {px py : Int32} (h1 : ¬ px < 0) (h2 : ¬ 7 < px) (h3 : py < 0) : fTa_isPlace px py = 0 := by
  unfold fTa_isPlace
  rw [if_neg h1, if_pos h3, ite_self]
theorem pl_4 {px py : Int32} (h1 : ¬ px < 0) (h2 : ¬ 7 < px) (h3 : ¬ py < 0) (h4 : 7 < py) : fTa_isPlace px py = 0 := by
  unfold fTa_isPlace
  rw [if_neg h1, if_neg h3, if_pos (g78 h4), ite_self]
theorem lt5 {x : Int32} : x < 5 ↔ x ≤ 4 := by
  rw [Int32.lt_iff_toInt_lt, Int32.le_iff_toInt_le]
  have e1 : (5 : Int32).toInt = 5 := by decide
  have e2 : (4 : Int32).toInt = 4 := by decide
  omega
theorem lt3 {x : Int32} : x < 3 ↔ x ≤ 2 := by
  rw [Int32.lt_iff_toInt_lt, Int32.le_iff_toInt_le]
  have e1 : (3 : Int32).toInt = 3 := by decide
  have e2 : (2 : Int32).toInt = 2 := by decide
  omega
theorem e_table (ki px py : Int32) (pv : Int64) (tb : Nat → Int32) : fX_table ki px py pv tb = fZ_table ki px py pv tb ∧ gX_table_2 ki tb px py pv = gZ_table_1 ki tb px py pv := by
  unfold fX_table fZ_table gX_table_2 gZ_table_1
  by_cases h1 : ki < 0
  · simp only [if_pos h1, and_self]
  simp only [if_neg h1]
  by_cases h2 : ki ≤ 4
  · simp only [if_pos (lt5.mpr h2), if_pos h2]
    by_cases h3 : px < 0
    · simp only [if_pos h3, pl_1 h3, if_pos, and_self]
    by_cases h4 : 7 < px
    · simp only [if_neg h3, if_pos h4, pl_2 h3 h4, if_pos, and_self]
    by_cases h5 : py < 0
    · simp only [if_neg h3, if_neg h4, if_pos h5, pl_3 h3 h4 h5, if_pos, and_self]
    by_cases h6 : 7 < py
    · simp only [if_neg h3, if_neg h4, if_neg h5, if_pos h6, pl_4 h3 h4 h5 h6, if_pos, and_self]
    simp only [if_neg h3, if_neg h4, if_neg h5, if_neg h6, pl_t h3 h4 h5 h6, if_neg i01]
    by_cases h7 : lg_cmp pv 0 < 0
    · simp only [iu_f1 h7, if_pos h7, if_pos, and_self]
    by_cases h8 : lg_cmp pv 1000 ≤ 0
    · simp only [iu_t h7 h8, if_neg h7, if_pos h8, if_neg i01]
      unfold fTa_put fZ_v vTa_put_0 vZ_table_0
      rw [e_idx]
      exact ⟨rfl, rfl⟩
    · simp only [iu_f2 h7 h8, if_neg h7, if_neg h8, if_pos, and_self]
  · simp only [if_neg (fun q => h2 (lt5.mp q)), if_neg h2, and_self]
theorem e_sensor (wh pk : Int32) (lo : Nat → Int32) : fX_sensor wh pk lo = fZ_sensor wh pk lo ∧ gX_sensor_7 wh lo pk = gZ_sensor_2 wh lo pk := by
  unfold fX_sensor fZ_sensor gX_sensor_7 gZ_sensor_2 vX_sensor_0 vZ_sensor_0
  have key : ∀ x : Int32, x = 0 ∨ x = 1 ∨ (¬ x = 0 ∧ ¬ x = 1 ∧ (x < 0 ∨ ¬ x ≤ 1)) := by
    intro x
    by_cases a : x = 0
    · exact Or.inl a
    by_cases b : x = 1
    · exact Or.inr (Or.inl b)
    refine Or.inr (Or.inr ⟨a, b, ?_⟩)
    by_cases c : x < 0
    · exact Or.inl c
    refine Or.inr (fun q => ?_)
    obtain ⟨j, hj, rfl⟩ := le_in (n := 1) (by decide) c q
    rcases (show j = 0 ∨ j = 1 by omega) with rfl | rfl
    · exact a rfl
    · exact b rfl
  by_cases h1 : wh < 0
  · simp only [if_pos h1, and_self]
  simp only [if_neg h1]
  by_cases h2 : wh ≤ 2
  · simp only [if_pos (lt3.mpr h2), if_pos h2]
    rcases key pk with rfl | rfl | ⟨a, b, c⟩
    · exact ⟨rfl, rfl⟩
    · exact ⟨rfl, rfl⟩
    · simp only [if_neg a, if_neg b]
      rcases c with c | c
      · simp only [if_pos c, and_self]
      · by_cases c2 : pk < 0
        · simp only [if_pos c2, and_self]
        · simp only [if_neg c2, if_neg c, and_self]
  · simp only [if_neg (fun q => h2 (lt3.mp q)), if_neg h2, and_self]
theorem e_limp (on li st : Int32) : fX_limp on li st = fZ_limp li on st := by
  unfold fX_limp fZ_limp vX_limp_2 vX_limp_1 vX_limp_0
  by_cases h1 : li = on <;> by_cases h2 : on = 0 <;> by_cases h3 : st = 0 <;> simp [h1, h2, h3]
