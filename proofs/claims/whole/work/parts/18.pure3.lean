-- wishes applied, the idle, one step
def sm_ (x : Int32) : Prop := ∃ v : Nat, v ≤ 1000 ∧ x = nI v
theorem up1 (w : Int32) {l : Int32} (h : l = -1 ∨ ∃ v : Nat, v ≤ 1000 ∧ l = nI v) : (if l = (-1) then w else (mx w l)) = (if 0 ≤ l then (if l ≤ w then w else l) else w) := by
  rcases h with rfl | ⟨v, hv, rfl⟩
  · rw [if_pos rfl, if_neg (by decide)]
  · have n1 : ¬ nI v = -1 := fun q => by
      have := congrArg Int32.toInt q
      rw [nI_toInt (by omega)] at this
      have e2 : (-1 : Int32).toInt = -1 := by decide
      omega
    rw [if_neg n1, if_pos (nI_pos' (by omega))]
    unfold mx
    by_cases h : nI v ≤ w
    · rw [if_pos h, if_neg (k2_nlt h)]
    · rw [if_neg h, if_pos (k2_lt h)]
theorem dn1 (w : Int32) {l : Int32} (h : l = -1 ∨ ∃ v : Nat, v ≤ 1000 ∧ l = nI v) : (if l = (-1) then w else (mn w l)) = (if 0 ≤ l then (if w ≤ l then w else l) else w) := by
  rcases h with rfl | ⟨v, hv, rfl⟩
  · rw [if_pos rfl, if_neg (by decide)]
  · have n1 : ¬ nI v = -1 := fun q => by
      have := congrArg Int32.toInt q
      rw [nI_toInt (by omega)] at this
      have e2 : (-1 : Int32).toInt = -1 := by decide
      omega
    rw [if_neg n1, if_pos (nI_pos' (by omega))]
    unfold mn
    by_cases h : w ≤ nI v
    · rw [if_pos h, if_neg (k2_nlt h)]
    · rw [if_neg h, if_pos (k2_lt h)]
theorem up2 {w l : Int32} (hw : sm_ w) (h : l = -1 ∨ ∃ v : Nat, v ≤ 1000 ∧ l = nI v) (b : Prop) [Decidable b] : sm_ (if 0 ≤ l then (if b then w else l) else w) := by
  rcases h with rfl | ⟨v, hv, rfl⟩
  · rw [if_neg (by decide)]; exact hw
  · rw [if_pos (nI_pos' (by omega))]
    by_cases hb : b
    · rw [if_pos hb]; exact hw
    · rw [if_neg hb]; exact ⟨v, hv, rfl⟩
/-- what the class keeps of the wishes is what the reference would find -/
def wr_ (le zr zd : Nat → Int32) (zw : Int32) : Prop := ∃ N : Nat, N ≤ 16 ∧ zw = nI N ∧ (∀ k, k < N → ∃ v : Nat, v ≤ 1000 ∧ zd k = nI v) ∧ le (1 : Int32).toNatClampNeg = lst zr zd 1 N ∧ le (2 : Int32).toNatClampNeg = lst zr zd 2 N ∧ le (3 : Int32).toNatClampNeg = lst zr zd 3 N ∧ le (4 : Int32).toNatClampNeg = lst zr zd 4 N ∧ le (5 : Int32).toNatClampNeg = lst zr zd 5 N
theorem e_app {le zr zd : Nat → Int32} {zw : Int32} (H : wr_ le zr zd zw) {w : Int32} (hw : sm_ w) : fWi_appliedTo le w = vZ_takeWishes_4 zr zd zw w ∧ sm_ (vZ_takeWishes_4 zr zd zw w) := by
  obtain ⟨N, hN, rfl, hd, h1, h2, h3, h4, h5⟩ := H
  have o := fun r => lst_or zr zd r N hd
  have c : (nI N).toNatClampNeg = N := nI_clamp (by omega)
  have a0 : vWi_appliedTo_0 le w = vZ_takeWishes_0 zr zd (nI N) w := by
    unfold vWi_appliedTo_0 vZ_takeWishes_0
    rw [h1, c]; exact up1 _ (o 1)
  have b0 : sm_ (vZ_takeWishes_0 zr zd (nI N) w) := by
    unfold vZ_takeWishes_0
    rw [c]; exact up2 hw (o 1) _
  have a1 : vWi_appliedTo_2 le w = vZ_takeWishes_1 zr zd (nI N) w := by
    unfold vWi_appliedTo_2 vWi_appliedTo_1 vZ_takeWishes_1
    rw [a0, h2, c]; exact dn1 _ (o 2)
  have b1 : sm_ (vZ_takeWishes_1 zr zd (nI N) w) := by
    unfold vZ_takeWishes_1
    rw [c]; exact up2 b0 (o 2) _
  have a2 : vWi_appliedTo_4 le w = vZ_takeWishes_2 zr zd (nI N) w := by
    unfold vWi_appliedTo_4 vWi_appliedTo_3 vZ_takeWishes_2
    rw [a1, h3, c]; exact up1 _ (o 3)
  have b2 : sm_ (vZ_takeWishes_2 zr zd (nI N) w) := by
    unfold vZ_takeWishes_2
    rw [c]; exact up2 b1 (o 3) _
  have a3 : vWi_appliedTo_6 le w = vZ_takeWishes_3 zr zd (nI N) w := by
    unfold vWi_appliedTo_6 vWi_appliedTo_5 vZ_takeWishes_3
    rw [a2, h4, c]; exact dn1 _ (o 4)
  have b3 : sm_ (vZ_takeWishes_3 zr zd (nI N) w) := by
    unfold vZ_takeWishes_3
    rw [c]; exact up2 b2 (o 4) _
  refine ⟨?_, ?_⟩
  · unfold fWi_appliedTo vWi_appliedTo_8 vWi_appliedTo_7 vZ_takeWishes_4
    rw [a3, h5, c]; exact up1 _ (o 5)
  · unfold vZ_takeWishes_4
    rw [c]; exact up2 b3 (o 5) _
theorem nn_ (y : Int32) : 0 ≤ y ↔ y.toBitVec.msb = false := by
  rw [Int32.le_iff_toInt_le, Int32.toInt_zero, BitVec.msb_eq_toInt]
  show 0 ≤ y.toBitVec.toInt ↔ _
  simp
theorem xs_ (x : Int32) : 0 ≤ (x ^^^ 16) ↔ 0 ≤ x := by
  rw [nn_, nn_, Int32.toBitVec_xor, BitVec.msb_xor, show (16 : Int32).toBitVec.msb = false by decide, Bool.xor_false]
theorem td16 (a : Int) : a.tdiv 16 = if 0 ≤ a then a / 16 else -((-a) / 16) := by
  by_cases h : 0 ≤ a
  · rw [if_pos h, Int.tdiv_eq_ediv_of_nonneg h]
  · rw [if_neg h]
    have : a = -(-a) := by omega
    rw [this, Int.neg_tdiv, Int.tdiv_eq_ediv_of_nonneg (by omega)]
    omega
theorem fd16 (x : Int32) : (fMa_floorDiv x 16).toInt = x.toInt / 16 := by
  have e16 : (16 : Int32).toInt = 16 := by decide
  have x1 := x.toInt_lt
  have x2 := x.le_toInt
  have hd : (x / 16).toInt = x.toInt.tdiv 16 := by rw [Kit.i32_div (by rw [e16]; omega), e16]
  have ht := td16 x.toInt
  unfold fMa_floorDiv
  by_cases h : 0 ≤ x
  · rw [if_pos ((xs_ x).mpr h), hd, ht]
    rw [Int32.le_iff_toInt_le, Int32.toInt_zero] at h
    rw [if_pos h]
  · rw [if_neg (fun q => h ((xs_ x).mp q))]
    rw [Int32.le_iff_toInt_le, Int32.toInt_zero] at h
    rw [if_neg h] at ht
    have hm : (x / 16 * 16).toInt = x.toInt.tdiv 16 * 16 := by rw [Kit.i32_mul (by rw [hd, e16]; omega) (by rw [hd, e16]; omega), hd, e16]
    by_cases h2 : x / 16 * 16 = x
    · rw [if_pos h2, hd]
      have := congrArg Int32.toInt h2
      rw [hm] at this
      omega
    · rw [if_neg h2]
      have h3 : x.toInt.tdiv 16 * 16 ≠ x.toInt := fun q => h2 (Int32.toInt_inj.mp (by rw [hm]; exact q))
      have e1 : (1 : Int32).toInt = 1 := by decide
      rw [Kit.i32_sub (by rw [hd, e1]; omega) (by rw [hd, e1]; omega), hd, e1]
      omega
theorem dn16 (x : Int64) (h1 : -2 ^ 40 ≤ x.toInt) (h2 : x.toInt ≤ 2 ^ 40) : (fZ_down x 16).toInt = x.toInt / 16 := by
  have e16 : (16 : Int64).toInt = 16 := by decide
  have hd : (x / 16).toInt = x.toInt.tdiv 16 := by rw [Kit.i64_div (by rw [e16]; omega), e16]
  have ht := td16 x.toInt
  have hm : (x / 16 * 16).toInt = x.toInt.tdiv 16 * 16 := by rw [Kit.i64_mul (by rw [hd, e16]; split at ht <;> omega) (by rw [hd, e16]; split at ht <;> omega), hd, e16]
  unfold fZ_down
  by_cases h : lg_cmp (x / 16 * 16) x ≤ 0
  · rw [if_pos h, hd]
    have h := (lg_cmp_le _ _).mp h
    rw [Int64.le_iff_toInt_le, hm] at h
    split at ht <;> omega
  · rw [if_neg h]
    have h : ¬ x.toInt.tdiv 16 * 16 ≤ x.toInt := fun q => h ((lg_cmp_le _ _).mpr (by rw [Int64.le_iff_toInt_le, hm]; exact q))
    have e1 : (1 : Int64).toInt = 1 := by decide
    rw [Kit.i64_sub (by rw [hd, e1]; split at ht <;> omega) (by rw [hd, e1]; split at ht <;> omega), hd, e1]
    split at ht <;> omega
/-- the idle: both regulators, their stores -/
theorem e_idl {am sp sd : Int32} {a s : Nat} (ha : a ≤ 3000) (hs : s ≤ 10000) (ea : am = nI a) (es : sp = nI s) {n : Nat} (hn : n ≤ 512) (h1 : -(10000 * (n : Int)) ≤ sd.toInt) (h2 : sd.toInt ≤ 10000 * (n : Int)) :
    vZ_idles_1 am sp sd.toInt64 = fId_torqueAt am sp sd ∧ vZ_idles_0 am sp sd.toInt64 = (vId_torqueAt_1 am sp sd).toInt64 ∧ -(10000 * ((n + 1 : Nat) : Int)) ≤ (vId_torqueAt_1 am sp sd).toInt ∧ (vId_torqueAt_1 am sp sd).toInt ≤ 10000 * ((n + 1 : Nat) : Int) := by
  have e0 : (am - sp).toInt = (a : Int) - s := by
    have q1 : am.toInt = a := by rw [ea]; exact nI_toInt (by omega)
    have q2 : sp.toInt = s := by rw [es]; exact nI_toInt (by omega)
    rw [Kit.i32_sub (by rw [q1, q2]; omega) (by rw [q1, q2]; omega), q1, q2]
  obtain ⟨e, he⟩ : ∃ e, e = am - sp := ⟨_, rfl⟩
  have k4 : (4 : Int32).toInt = 4 := by decide
  have k4l : (4 : Int64).toInt = 4 := by decide
  have m4 : (4 * e).toInt = 4 * e.toInt := by rw [Kit.i32_mul (by rw [k4, he, e0]; omega) (by rw [k4, he, e0]; omega), k4]
  have m4l : (4 * e.toInt64).toInt = 4 * e.toInt := by rw [Kit.i64_mul (by rw [k4l, Kit.i64_of_i32, he, e0]; omega) (by rw [k4l, Kit.i64_of_i32, he, e0]; omega), k4l, Kit.i64_of_i32]
  have x1 : (4 * e + sd).toInt = 4 * e.toInt + sd.toInt := by rw [Kit.i32_add (by rw [m4, he, e0]; omega) (by rw [m4, he, e0]; omega), m4]
  have x2 : (4 * e.toInt64 + sd.toInt64).toInt = 4 * e.toInt + sd.toInt := by rw [Kit.i64_add (by rw [m4l, Kit.i64_of_i32, he, e0]; omega) (by rw [m4l, Kit.i64_of_i32, he, e0]; omega), m4l, Kit.i64_of_i32]
  obtain ⟨o, ho⟩ : ∃ o, o = fMa_floorDiv (4 * e + sd) 16 := ⟨_, rfl⟩
  have eo : o.toInt = (4 * e.toInt + sd.toInt) / 16 := by rw [ho, fd16, x1]
  have eO : fZ_down (4 * e.toInt64 + sd.toInt64) 16 = o.toInt64 := by
    apply Int64.toInt_inj.mp
    rw [dn16 _ (by rw [x2, he, e0]; omega) (by rw [x2, he, e0]; omega), x2, Kit.i64_of_i32, eo]
  have ad : (sd + e).toInt = sd.toInt + e.toInt := by rw [Kit.i32_add (by rw [he, e0]; omega) (by rw [he, e0]; omega)]
  have adl : sd.toInt64 + e.toInt64 = (sd + e).toInt64 := by
    apply Int64.toInt_inj.mp
    rw [Kit.i64_add (by rw [Kit.i64_of_i32, Kit.i64_of_i32, he, e0]; omega) (by rw [Kit.i64_of_i32, Kit.i64_of_i32, he, e0]; omega), Kit.i64_of_i32, Kit.i64_of_i32, Kit.i64_of_i32, ad]
  have c200 : lg_cmp o.toInt64 200 ≤ 0 ↔ o ≤ 200 := by
    rw [lg_cmp_le, Int64.le_iff_toInt_le, Int32.le_iff_toInt_le, Kit.i64_of_i32, show (200 : Int64).toInt = 200 by decide, show (200 : Int32).toInt = 200 by decide]
  have c0 : 0 ≤ lg_cmp o.toInt64 0 ↔ 0 ≤ o := by
    rw [lg_cmp_ge, Int64.le_iff_toInt_le, Int32.le_iff_toInt_le, Kit.i64_of_i32, Int64.toInt_zero, Int32.toInt_zero]
  have d0 : lg_cmp e.toInt64 0 < 0 ↔ ¬ 0 ≤ e := by
    rw [lg_cmp_lt, Int64.lt_iff_toInt_lt, Int32.le_iff_toInt_le, Kit.i64_of_i32, Int64.toInt_zero, Int32.toInt_zero]
    omega
  have d1 : 0 < lg_cmp e.toInt64 0 ↔ 0 < e := by
    rw [lg_cmp_gt, Int64.lt_iff_toInt_lt, Int32.lt_iff_toInt_lt, Kit.i64_of_i32, Int64.toInt_zero, Int32.toInt_zero]
  have r1 : vZ_idles_1 am sp sd.toInt64 = fId_torqueAt am sp sd := by
    unfold vZ_idles_1 fId_torqueAt
    rw [← he, eO, ← ho]
    exact e_clip o (n := 200) (by decide)
  have r2 : vZ_idles_0 am sp sd.toInt64 = (vId_torqueAt_1 am sp sd).toInt64 := by
    unfold vZ_idles_0 vId_torqueAt_1 vId_torqueAt_0
    rw [← he, eO, ← ho, adl]
    by_cases g1 : o ≤ 200
    · simp only [if_pos (c200.mpr g1), if_pos g1]
      by_cases g2 : 0 ≤ o
      · simp only [if_pos (c0.mpr g2), if_pos g2, if_pos]
      · simp only [if_neg (fun q => g2 (c0.mp q)), if_neg g2]
        by_cases g3 : 0 ≤ e
        · simp only [if_neg (fun q => d0.mp q g3), if_pos g3, if_pos]
        · simp only [if_pos (d0.mpr g3), if_neg g3, if_neg i01]
    · simp only [if_neg (fun q => g1 (c200.mp q)), if_neg g1]
      by_cases g4 : 0 < e
      · simp only [if_pos (d1.mpr g4), if_pos g4, if_neg i01]
      · simp only [if_neg (fun q => g4 (d1.mp q)), if_neg g4]
        by_cases g2 : 0 ≤ o
        · simp only [if_pos (c0.mpr g2), if_pos g2, if_pos]
        · simp only [if_neg (fun q => g2 (c0.mp q)), if_neg g2]
          by_cases g3 : 0 ≤ e
          · simp only [if_neg (fun q => d0.mp q g3), if_pos g3, if_pos]
          · simp only [if_pos (d0.mpr g3), if_neg g3, if_neg i01]
  refine ⟨r1, r2, ?_⟩
  unfold vId_torqueAt_1
  rw [← he]
  by_cases g : vId_torqueAt_0 am sp sd = 0
  · rw [if_pos g, ad, he, e0]; omega
  · rw [if_neg g]; omega
