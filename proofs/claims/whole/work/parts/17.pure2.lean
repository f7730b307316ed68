-- THE VALUE of a table, both ways
def bd_ (tb : Nat → Int32) : Prop := ∀ j : Nat, ∃ v : Nat, v ≤ 1000 ∧ tb j = nI v
theorem e_clip (a : Int32) {n : Nat} (hn : n + 1 < 2 ^ 31) : (if 0 ≤ (lg_cmp a.toInt64 0) then (if (lg_cmp a.toInt64 (lN n)) ≤ 0 then (a.toInt64.toInt32) else nI n) else 0) = fTa_between a (nI n) := by
  have eM : (lN n).toInt = (n : Int) := lN_toInt (by omega)
  have e3 : (nI n).toInt = (n : Int) := nI_toInt (by omega)
  have ea : a.toInt64.toInt = a.toInt := Kit.i64_of_i32 a
  have eb : a.toInt64.toInt32 = a := by
    apply Int32.toInt_inj.mp
    have a1 := a.toInt_lt
    have a2 := a.le_toInt
    rw [Kit.i32_of_i64 (by rw [ea]; omega) (by rw [ea]; omega), ea]
  unfold fTa_between mx mn
  by_cases h1 : 0 ≤ lg_cmp a.toInt64 0
  · rw [if_pos h1]
    have g1 := (lg_cmp_ge _ _).mp h1
    rw [Int64.le_iff_toInt_le, ea, Int64.toInt_zero] at g1
    by_cases h2 : lg_cmp a.toInt64 (lN n) ≤ 0
    · rw [if_pos h2, eb]
      have g2 := (lg_cmp_le _ _).mp h2
      rw [Int64.le_iff_toInt_le, ea, eM] at g2
      have g3 : ¬ nI n < a := by rw [Int32.lt_iff_toInt_lt, e3]; omega
      rw [if_neg g3]
      by_cases g4 : 0 < a
      · rw [if_pos g4]
      · rw [if_neg g4]
        rw [Int32.lt_iff_toInt_lt, Int32.toInt_zero] at g4
        exact Int32.toInt_inj.mp (by rw [Int32.toInt_zero]; omega)
    · rw [if_neg h2]
      have g2 : ¬ a.toInt ≤ n := fun q => h2 ((lg_cmp_le _ _).mpr (by rw [Int64.le_iff_toInt_le, ea, eM]; exact q))
      have g3 : nI n < a := by rw [Int32.lt_iff_toInt_lt, e3]; omega
      rw [if_pos g3]
      by_cases g4 : 0 < nI n
      · rw [if_pos g4]
      · rw [if_neg g4]
        rw [Int32.lt_iff_toInt_lt, Int32.toInt_zero, e3] at g4
        exact Int32.toInt_inj.mp (by rw [Int32.toInt_zero, e3]; omega)
  · rw [if_neg h1]
    have g1 : ¬ 0 ≤ a.toInt := fun q => h1 ((lg_cmp_ge _ _).mpr (by rw [Int64.le_iff_toInt_le, ea, Int64.toInt_zero]; exact q))
    have g3 : ¬ nI n < a := by rw [Int32.lt_iff_toInt_lt, e3]; omega
    rw [if_neg g3]
    have g4 : ¬ 0 < a := by rw [Int32.lt_iff_toInt_lt, Int32.toInt_zero]; omega
    rw [if_neg g4]
theorem e_six (x : Int32) : (if x ≤ 6 then x else 6) = mn x 6 := by
  unfold mn
  by_cases h : x ≤ 6
  · rw [if_pos h, if_neg (k2_nlt h)]
  · rw [if_neg h, if_pos (k2_lt h)]
theorem e_sum (u v w z p q : Nat) (hp : p ≤ 128) (hq : q ≤ 1000) : (u * (128 - p) + v * p) * (1000 - q) + (w * (128 - p) + z * p) * q = u * (128 - p) * (1000 - q) + v * p * (1000 - q) + w * (128 - p) * q + z * p * q := by
  rw [Nat.add_mul, Nat.add_mul]
  omega
theorem e_le (u v w z p q : Nat) (hu : u ≤ 1000) (hv : v ≤ 1000) (hw : w ≤ 1000) (hz : z ≤ 1000) (hp : p ≤ 128) (hq : q ≤ 1000) : u * (128 - p) + v * p ≤ 128000 ∧ w * (128 - p) + z * p ≤ 128000 ∧ (u * (128 - p) + v * p) * (1000 - q) + (w * (128 - p) + z * p) * q ≤ 128000000 := by
  have h : ∀ a b c d s : Nat, a ≤ s → b ≤ s → c + d ≤ 1000 → a * c + b * d ≤ s * 1000 := by
    intro a b c d s h1 h2 h3
    have k1 := Nat.mul_le_mul_right c h1
    have k2 := Nat.mul_le_mul_right d h2
    have k3 : s * c + s * d ≤ s * 1000 := by rw [← Nat.mul_add]; exact Nat.mul_le_mul_left s h3
    omega
  have h' : ∀ a b c d : Nat, a ≤ 1000 → b ≤ 1000 → c + d ≤ 128 → a * c + b * d ≤ 128000 := by
    intro a b c d h1 h2 h3
    have k1 := Nat.mul_le_mul_right c h1
    have k2 := Nat.mul_le_mul_right d h2
    omega
  have a1 := h' u v (128 - p) p hu hv (by omega)
  have a2 := h' w z (128 - p) p hw hz (by omega)
  exact ⟨a1, a2, h _ _ _ _ 128000 a1 a2 (by omega)⟩
theorem e_val {tb : Nat → Int32} (hb : bd_ tb) (ki a s : Int32) : fTa_joined tb ki a s = fZ_valueAt tb ki a.toInt64 s.toInt64 ∧ ∃ r : Nat, r ≤ 1000 ∧ fTa_joined tb ki a s = nI r := by
  have ca : vZ_valueAt_0 a.toInt64 = fTa_between a 896 := e_clip a (n := 896) (by decide)
  have cs : vZ_valueAt_1 s.toInt64 = fTa_between s 7000 := e_clip s (n := 7000) (by decide)
  have ci : vZ_valueAt_2 a.toInt64 = mn ((fTa_between a 896) / 128) 6 := by unfold vZ_valueAt_2; rw [ca]; exact e_six _
  have cj : vZ_valueAt_3 s.toInt64 = mn ((fTa_between s 7000) / 1000) 6 := by unfold vZ_valueAt_3; rw [cs]; exact e_six _
  obtain ⟨a', ha, ea⟩ := bt_nI a (n := 896) (by decide)
  obtain ⟨s', hs, es⟩ := bt_nI s (n := 7000) (by decide)
  have ea : fTa_between a 896 = nI a' := ea
  have es : fTa_between s 7000 = nI s' := es
  have ei : mn ((fTa_between a 896) / 128) 6 = nI (min (a' / 128) 6) := by
    rw [ea]
    show mn (nI a' / nI 128) (nI 6) = _
    rw [pk_div (by omega) (by decide) (by decide), mn_nI (by omega) (by decide)]
  have ej : mn ((fTa_between s 7000) / 1000) 6 = nI (min (s' / 1000) 6) := by
    rw [es]
    show mn (nI s' / nI 1000) (nI 6) = _
    rw [pk_div (by omega) (by decide) (by decide), mn_nI (by omega) (by decide)]
  obtain ⟨i, hi⟩ : ∃ i, i = min (a' / 128) 6 := ⟨_, rfl⟩
  obtain ⟨j, hj⟩ : ∃ j, j = min (s' / 1000) 6 := ⟨_, rfl⟩
  rw [← hi] at ei
  rw [← hj] at ej
  obtain ⟨p, hp⟩ : ∃ p, p = a' - 128 * i := ⟨_, rfl⟩
  obtain ⟨q, hq⟩ : ∃ q, q = s' - 1000 * j := ⟨_, rfl⟩
  have hp1 : 128 * i ≤ a' ∧ p ≤ 128 := by omega
  have hq1 : 1000 * j ≤ s' ∧ q ≤ 1000 := by omega
  have ep : vTa_joined_0 a = nI p := by
    unfold vTa_joined_0
    rw [ei, ea]
    show nI a' - nI 128 * nI i = _
    rw [pk_mul, pk_sub hp1.1, hp]
  have eq : vTa_joined_1 s = nI q := by
    unfold vTa_joined_1
    rw [ej, es]
    show nI s' - nI 1000 * nI j = _
    rw [pk_mul, pk_sub hq1.1, hq]
  have lp : vZ_valueAt_4 a.toInt64 = lN p := by
    unfold vZ_valueAt_4
    rw [ca, ci]
    exact (congrArg Int32.toInt64 ep).trans (nI_l (by omega))
  have lq : vZ_valueAt_5 s.toInt64 = lN q := by
    unfold vZ_valueAt_5
    rw [cs, cj]
    exact (congrArg Int32.toInt64 eq).trans (nI_l (by omega))
  obtain ⟨u, hu, eu⟩ := hb (fTa_indexOf ki (nI i) (nI j)).toNatClampNeg
  obtain ⟨v, hv, ev⟩ := hb (fTa_indexOf ki (nI i + 1) (nI j)).toNatClampNeg
  obtain ⟨w, hw, ew⟩ := hb (fTa_indexOf ki (nI i) (nI j + 1)).toNatClampNeg
  obtain ⟨z, hz, ez⟩ := hb (fTa_indexOf ki (nI i + 1) (nI j + 1)).toNatClampNeg
  obtain ⟨b1, b2, b3⟩ := e_le u v w z p q hu hv hw hz hp1.2 hq1.2
  have el : vTa_joined_2 tb ki a s = nI (u * (128 - p) + v * p) := by
    unfold vTa_joined_2
    rw [ei, ej, ep, eu, ev]
    show nI u * (nI 128 - nI p) + nI v * nI p = _
    rw [pk_sub (by omega), pk_mul, pk_mul, nI_add]
  have eh : vTa_joined_3 tb ki a s = nI (w * (128 - p) + z * p) := by
    unfold vTa_joined_3
    rw [ei, ej, ep, ew, ez]
    show nI w * (nI 128 - nI p) + nI z * nI p = _
    rw [pk_sub (by omega), pk_mul, pk_mul, nI_add]
  have ex : fTa_joined tb ki a s = nI (((u * (128 - p) + v * p) * (1000 - q) + (w * (128 - p) + z * p) * q) / 128000) := by
    unfold fTa_joined
    rw [el, eh, eq]
    show (nI (u * (128 - p) + v * p) * (nI 1000 - nI q) + nI (w * (128 - p) + z * p) * nI q) / nI 128000 = _
    rw [pk_sub (by omega), pk_mul, pk_mul, nI_add, pk_div (by omega) (by decide) (by decide)]
  have ey : vZ_valueAt_6 tb ki a.toInt64 s.toInt64 = lN (u * (128 - p) * (1000 - q) + v * p * (1000 - q) + w * (128 - p) * q + z * p * q) := by
    unfold vZ_valueAt_6 fZ_v
    rw [ci, cj, ei, ej, lp, lq, ← e_idx, ← e_idx, ← e_idx, ← e_idx, eu, ev, ew, ez, nI_l (by omega), nI_l (by omega), nI_l (by omega), nI_l (by omega)]
    show lN u * (lN 128 - lN p) * (lN 1000 - lN q) + lN v * lN p * (lN 1000 - lN q) + lN w * (lN 128 - lN p) * lN q + lN z * lN p * lN q = _
    rw [lN_sub (by omega), lN_sub (by omega)]
    simp only [lN_mul, lN_add]
  refine ⟨?_, _, ?_, ex⟩
  · rw [ex]
    unfold fZ_valueAt
    rw [ey, ← e_sum u v w z p q hp1.2 hq1.2]
    show _ = (lN _ / lN 128000).toInt32
    rw [pk_lDiv (by omega) (by decide) (by decide), lN_i]
  · omega
-- wishes
theorem lst_or (zr zd : Nat → Int32) (rr : Int32) : ∀ N : Nat, (∀ k, k < N → ∃ v : Nat, v ≤ 1000 ∧ zd k = nI v) → lst zr zd rr N = -1 ∨ ∃ v : Nat, v ≤ 1000 ∧ lst zr zd rr N = nI v
  | 0, _ => Or.inl rfl
  | N + 1, h => by
    have ih := lst_or zr zd rr N (fun k hk => h k (by omega))
    obtain ⟨v, hv, ev⟩ := h N (by omega)
    show (if zr N = rr then (if lst zr zd rr N < 0 then zd N else (if lst zr zd rr N ≤ zd N then lst zr zd rr N else zd N)) else lst zr zd rr N) = -1 ∨ ∃ v : Nat, v ≤ 1000 ∧ (if zr N = rr then (if lst zr zd rr N < 0 then zd N else (if lst zr zd rr N ≤ zd N then lst zr zd rr N else zd N)) else lst zr zd rr N) = nI v
    by_cases h1 : zr N = rr
    · rw [if_pos h1]
      by_cases h2 : lst zr zd rr N < 0
      · rw [if_pos h2]; exact Or.inr ⟨v, hv, ev⟩
      · rw [if_neg h2]
        by_cases h3 : lst zr zd rr N ≤ zd N
        · rw [if_pos h3]; exact ih
        · rw [if_neg h3]; exact Or.inr ⟨v, hv, ev⟩
    · rw [if_neg h1]; exact ih
theorem lst_old (zr zd : Nat → Int32) (rr a b : Int32) (M : Nat) : ∀ N : Nat, N ≤ M → lst (upd zr M a) (upd zd M b) rr N = lst zr zd rr N
  | 0, _ => rfl
  | N + 1, h => by
    have ih := lst_old zr zd rr a b M N (by omega)
    have e1 : upd zr M a N = zr N := pk_un (by omega)
    have e2 : upd zd M b N = zd N := pk_un (by omega)
    show (if upd zr M a N = rr then (if lst (upd zr M a) (upd zd M b) rr N < 0 then upd zd M b N else (if lst (upd zr M a) (upd zd M b) rr N ≤ upd zd M b N then lst (upd zr M a) (upd zd M b) rr N else upd zd M b N)) else lst (upd zr M a) (upd zd M b) rr N) = _
    rw [ih, e1, e2]
    rfl
/-- one wish more: what the class keeps of it -/
theorem lst_add (zr zd le : Nat → Int32) (rk b : Int32) {N v : Nat} (hb : b = nI v) (hv : v ≤ 1000) (hd : ∀ k, k < N → ∃ v : Nat, v ≤ 1000 ∧ zd k = nI v) (rr : Int32) (hr : le rr.toNatClampNeg = lst zr zd rr N) (hs : rr.toNatClampNeg = rk.toNatClampNeg → rr = rk) : vWi_add_0 le rk b rr.toNatClampNeg = lst (upd zr N rk) (upd zd N b) rr (N + 1) := by
  show _ = (if upd zr N rk N = rr then (if lst (upd zr N rk) (upd zd N b) rr N < 0 then upd zd N b N else (if lst (upd zr N rk) (upd zd N b) rr N ≤ upd zd N b N then lst (upd zr N rk) (upd zd N b) rr N else upd zd N b N)) else lst (upd zr N rk) (upd zd N b) rr N)
  rw [lst_old zr zd rr rk b N N (Nat.le_refl N), pk_us, pk_us]
  unfold vWi_add_0
  by_cases h : rk = rr
  · subst h
    rw [if_pos rfl, hr]
    rcases lst_or zr zd rk N hd with e | ⟨x, hx, e⟩
    · rw [e, if_pos rfl, pk_us, if_pos (by decide)]
    · rw [e]
      have n1 : ¬ nI x = -1 := fun q => by
        have := congrArg Int32.toInt q
        rw [nI_toInt (by omega)] at this
        have e2 : (-1 : Int32).toInt = -1 := by decide
        omega
      have n2 : ¬ nI x < 0 := nI_pos (by omega)
      rw [if_neg n1, if_neg n2]
      by_cases h3 : nI x ≤ b
      · rw [if_pos h3, if_pos h3, hr, e]
      · rw [if_neg h3, if_neg h3, pk_us]
  · have hne : rr.toNatClampNeg ≠ rk.toNatClampNeg := fun q => h (hs q).symm
    rw [if_neg h]
    by_cases h1 : le rk.toNatClampNeg = -1
    · rw [if_pos h1, pk_un hne, hr]
    · rw [if_neg h1]
      by_cases h2 : le rk.toNatClampNeg ≤ b
      · rw [if_pos h2, hr]
      · rw [if_neg h2, pk_un hne, hr]
