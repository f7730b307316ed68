-- pure rows that the walks of the class ask for: places of arrays
theorem mn_nI {a b : Nat} (ha : a < 2 ^ 31) (hb : b < 2 ^ 31) : mn (nI a) (nI b) = nI (min a b) := by
  unfold mn
  by_cases h : nI b < nI a
  · rw [if_pos h]
    have := (nI_ltI hb ha).mp h
    rw [Nat.min_eq_right (by omega)]
  · rw [if_neg h]
    have : ¬ b < a := fun q => h ((nI_ltI hb ha).mpr q)
    rw [Nat.min_eq_left (by omega)]
theorem mx_nI {a b : Nat} (ha : a < 2 ^ 31) (hb : b < 2 ^ 31) : mx (nI a) (nI b) = nI (max a b) := by
  unfold mx
  by_cases h : nI a < nI b
  · rw [if_pos h]
    have := (nI_ltI ha hb).mp h
    rw [Nat.max_eq_right (by omega)]
  · rw [if_neg h]
    have : ¬ a < b := fun q => h ((nI_ltI ha hb).mpr q)
    rw [Nat.max_eq_left (by omega)]
theorem bt_nI (a : Int32) {n : Nat} (hn : n + 1 < 2 ^ 31) : ∃ j : Nat, j ≤ n ∧ fTa_between a (nI n) = nI j := by
  unfold fTa_between
  rcases pk_ix a (n := n + 1) hn with h | h | ⟨j, hj, rfl⟩
  · refine ⟨0, Nat.zero_le _, ?_⟩
    have h1 : ¬ nI n < a := by
      rw [Int32.lt_iff_toInt_lt, nI_toInt (by omega)]
      rw [Int32.lt_iff_toInt_lt, Int32.toInt_zero] at h
      omega
    rw [show mn a (nI n) = a from if_neg h1]
    exact if_neg (by
      rw [Int32.lt_iff_toInt_lt, Int32.toInt_zero]
      rw [Int32.lt_iff_toInt_lt, Int32.toInt_zero] at h
      omega)
  · refine ⟨n, Nat.le_refl _, ?_⟩
    have h1 : nI n < a := by
      rw [Int32.lt_iff_toInt_lt, nI_toInt (by omega)]
      rw [Int32.le_iff_toInt_le, nI_toInt hn] at h
      omega
    rw [show mn a (nI n) = nI n from if_pos h1]
    exact (mx_nI (a := 0) (by decide) (by omega)).trans (by rw [Nat.zero_max])
  · refine ⟨j, by omega, ?_⟩
    rw [mn_nI (by omega) (by omega), Nat.min_eq_left (by omega)]
    exact (mx_nI (a := 0) (by decide) (by omega)).trans (by rw [Nat.zero_max])
/-- the cell in which a lies, and the place in it -/
theorem ji_nI (a : Int32) : ∃ j : Nat, j ≤ 6 ∧ mn ((fTa_between a 896) / 128) 6 = nI j := by
  obtain ⟨j, hj, e⟩ := bt_nI a (n := 896) (by decide)
  have e : fTa_between a 896 = nI j := e
  refine ⟨min (j / 128) 6, Nat.min_le_right _ _, ?_⟩
  rw [e]
  show mn (nI j / nI 128) (nI 6) = _
  rw [pk_div (by omega) (by decide) (by decide), mn_nI (by omega) (by decide)]
theorem jj_nI (a : Int32) : ∃ j : Nat, j ≤ 6 ∧ mn ((fTa_between a 7000) / 1000) 6 = nI j := by
  obtain ⟨j, hj, e⟩ := bt_nI a (n := 7000) (by decide)
  have e : fTa_between a 7000 = nI j := e
  refine ⟨min (j / 1000) 6, Nat.min_le_right _ _, ?_⟩
  rw [e]
  show mn (nI j / nI 1000) (nI 6) = _
  rw [pk_div (by omega) (by decide) (by decide), mn_nI (by omega) (by decide)]
theorem ix_nI (k i j : Nat) : fTa_indexOf (nI k) (nI i) (nI j) = nI ((k * 8 + i) * 8 + j) := by
  show ((nI k * nI 8 + nI i) * nI 8 + nI j) = _
  rw [pk_mul, nI_add, pk_mul, nI_add]
theorem ix_in {k i j : Nat} (hk : k < 5) (hi : i < 8) (hj : j < 8) : vp_in (fTa_indexOf (nI k) (nI i) (nI j)) 320 := by
  rw [ix_nI]; exact vp_in_nI (by omega) (by decide)
theorem jo_78 {ki pa ps : Int32} (hk : vp_in ki 5) : vp_in (fTa_indexOf ki (mn ((fTa_between pa 896) / 128) 6) (mn ((fTa_between ps 7000) / 1000) 6)) 320 := by
  obtain ⟨k, h1, rfl⟩ := vp_in_of hk (by decide)
  obtain ⟨i, h2, e2⟩ := ji_nI pa
  obtain ⟨j, h3, e3⟩ := jj_nI ps
  rw [e2, e3]; exact ix_in h1 (by omega) (by omega)
theorem jo_100 {ki pa ps : Int32} (hk : vp_in ki 5) : vp_in (fTa_indexOf ki ((mn ((fTa_between pa 896) / 128) 6) + 1) (mn ((fTa_between ps 7000) / 1000) 6)) 320 := by
  obtain ⟨k, h1, rfl⟩ := vp_in_of hk (by decide)
  obtain ⟨i, h2, e2⟩ := ji_nI pa
  obtain ⟨j, h3, e3⟩ := jj_nI ps
  rw [e2, e3, nI_1]; exact ix_in h1 (by omega) (by omega)
theorem jo_121 {ki pa ps : Int32} (hk : vp_in ki 5) : vp_in (fTa_indexOf ki (mn ((fTa_between pa 896) / 128) 6) ((mn ((fTa_between ps 7000) / 1000) 6) + 1)) 320 := by
  obtain ⟨k, h1, rfl⟩ := vp_in_of hk (by decide)
  obtain ⟨i, h2, e2⟩ := ji_nI pa
  obtain ⟨j, h3, e3⟩ := jj_nI ps
  rw [e2, e3, nI_1]; exact ix_in h1 (by omega) (by omega)
theorem jo_145 {ki pa ps : Int32} (hk : vp_in ki 5) : vp_in (fTa_indexOf ki ((mn ((fTa_between pa 896) / 128) 6) + 1) ((mn ((fTa_between ps 7000) / 1000) 6) + 1)) 320 := by
  obtain ⟨k, h1, rfl⟩ := vp_in_of hk (by decide)
  obtain ⟨i, h2, e2⟩ := ji_nI pa
  obtain ⟨j, h3, e3⟩ := jj_nI ps
  rw [e2, e3, nI_1, nI_1]; exact ix_in h1 (by omega) (by omega)
theorem up_ {x : Int32} {n : Nat} (hn : n < 2 ^ 31) (h0 : ¬ x < 0) (h1 : ¬ nI n ≤ x) : ∃ j : Nat, j < n ∧ x = nI j := by
  rcases pk_ix x hn with h | h | h
  · exact absurd h h0
  · exact absurd h h1
  · exact h
theorem pl_ {px py : Int32} (h : ¬ fTa_isPlace px py = 0) : ∃ i j : Nat, i < 8 ∧ j < 8 ∧ px = nI i ∧ py = nI j := by
  unfold fTa_isPlace at h
  by_cases h1 : px < 0
  · exact absurd (if_pos h1) h
  rw [if_neg h1] at h
  by_cases h2 : 8 ≤ px
  · exact absurd (if_pos h2) h
  rw [if_neg h2] at h
  by_cases h3 : py < 0
  · exact absurd (if_pos h3) h
  rw [if_neg h3] at h
  by_cases h4 : 8 ≤ py
  · exact absurd (if_pos h4) h
  obtain ⟨i, hi, ei⟩ := up_ (n := 8) (by decide) h1 h2
  obtain ⟨j, hj, ej⟩ := up_ (n := 8) (by decide) h3 h4
  exact ⟨i, j, hi, hj, ei, ej⟩
theorem tb_in {ki px py : Int32} (h1 : ¬ ki < 0) (h2 : ki < 5) (h3 : ¬ fTa_isPlace px py = 0) : vp_in (fTa_indexOf ki px py) 320 := by
  obtain ⟨k, hk, rfl⟩ := up_ (n := 5) (by decide) h1 (k2_nle h2)
  obtain ⟨i, j, hi, hj, rfl, rfl⟩ := pl_ h3
  exact ix_in hk hi hj
theorem wi_in {rk : Int32} (h1 : ¬ rk < 1) (h2 : rk ≤ 5) : vp_in rk 6 := by
  rw [vp_in_iff]
  rw [Int32.lt_iff_toInt_lt] at h1
  rw [Int32.le_iff_toInt_le] at h2
  have e1 : (1 : Int32).toInt = 1 := by decide
  have e5 : (5 : Int32).toInt = 5 := by decide
  omega
theorem se_in {wh : Int32} (h1 : ¬ wh < 0) (h2 : wh < 3) : vp_in wh 3 := by
  rw [vp_in_iff]
  rw [Int32.lt_iff_toInt_lt] at h1 h2
  have e1 : (0 : Int32).toInt = 0 := by decide
  have e5 : (3 : Int32).toInt = 3 := by decide
  omega
-- pure rows that the walks of the reference ask for
theorem vl_nI (pa : Int64) {n : Nat} (hn : n < 2 ^ 31) : ∃ j : Nat, j ≤ n ∧ (if 0 ≤ (lg_cmp pa 0) then (if (lg_cmp pa (lN n)) ≤ 0 then (pa.toInt32) else nI n) else 0) = nI j := by
  by_cases h1 : 0 ≤ lg_cmp pa 0
  · rw [if_pos h1]
    have h1 := (lg_cmp_ge pa 0).mp h1
    by_cases h2 : lg_cmp pa (lN n) ≤ 0
    · rw [if_pos h2]
      have h2 := (lg_cmp_le pa (lN n)).mp h2
      obtain ⟨k, hk, rfl⟩ := pk_lOf (x := pa) (by
        rw [Int64.lt_iff_toInt_lt, Int64.toInt_zero]
        rw [Int64.le_iff_toInt_le, Int64.toInt_zero] at h1
        omega)
      exact ⟨k, (pk_lLE hk (by omega)).mp h2, lN_i k⟩
    · rw [if_neg h2]
      exact ⟨n, Nat.le_refl n, rfl⟩
  · rw [if_neg h1]
    exact ⟨0, Nat.zero_le n, rfl⟩
theorem vj_nI {x d : Int32} {j D : Nat} (hj : j < 2 ^ 31) (hx : x = nI j) (hd : d = nI D) (h0 : 0 < D) (hD : D < 2 ^ 31) : ∃ i : Nat, i ≤ 6 ∧ (if x / d ≤ 6 then x / d else 6) = nI i := by
  have e : x / d = nI (j / D) := by rw [hx, hd, pk_div hj h0 hD]
  rw [e]
  have hq : j / D < 2 ^ 31 := Nat.lt_of_le_of_lt (Nat.div_le_self _ _) hj
  by_cases h : nI (j / D) ≤ 6
  · rw [if_pos h]
    exact ⟨j / D, (nI_leI hq (by decide : (6 : Nat) < 2 ^ 31)).mp h, rfl⟩
  · rw [if_neg h]
    exact ⟨6, Nat.le_refl 6, rfl⟩
theorem vi_nI (pa : Int64) : ∃ i : Nat, i ≤ 6 ∧ vZ_valueAt_2 pa = nI i := by
  obtain ⟨j, hj, e⟩ := vl_nI pa (n := 896) (by decide)
  exact vj_nI (x := vZ_valueAt_0 pa) (d := 128) (D := 128) (by omega) e rfl (by decide) (by decide)
theorem vs_nI (ps : Int64) : ∃ i : Nat, i ≤ 6 ∧ vZ_valueAt_3 ps = nI i := by
  obtain ⟨j, hj, e⟩ := vl_nI ps (n := 7000) (by decide)
  exact vj_nI (x := vZ_valueAt_1 ps) (d := 1000) (D := 1000) (by omega) e rfl (by decide) (by decide)
theorem iz_nI (k i j : Nat) : (((64 * nI k) + (8 * nI i)) + nI j) = nI (64 * k + 8 * i + j) := by
  show (((nI 64 * nI k) + (nI 8 * nI i)) + nI j) = _
  rw [pk_mul, pk_mul, nI_add, nI_add]
theorem iz_in {k i j : Nat} (hk : k < 5) (hi : i < 8) (hj : j < 8) : vp_in (((64 * nI k) + (8 * nI i)) + nI j) 320 := by
  rw [iz_nI]; exact vp_in_nI (by omega) (by decide)
theorem vz_137 {ki : Int32} {pa ps : Int64} (hk : vp_in ki 5) : vp_in (((64 * ki) + (8 * (vZ_valueAt_2 pa))) + (vZ_valueAt_3 ps)) 320 := by
  obtain ⟨k, h1, rfl⟩ := vp_in_of hk (by decide)
  obtain ⟨i, h2, e2⟩ := vi_nI pa
  obtain ⟨j, h3, e3⟩ := vs_nI ps
  rw [e2, e3]; exact iz_in h1 (by omega) (by omega)
theorem vz_163 {ki : Int32} {pa ps : Int64} (hk : vp_in ki 5) : vp_in (((64 * ki) + (8 * ((vZ_valueAt_2 pa) + 1))) + (vZ_valueAt_3 ps)) 320 := by
  obtain ⟨k, h1, rfl⟩ := vp_in_of hk (by decide)
  obtain ⟨i, h2, e2⟩ := vi_nI pa
  obtain ⟨j, h3, e3⟩ := vs_nI ps
  rw [e2, e3, nI_1]; exact iz_in h1 (by omega) (by omega)
theorem vz_186 {ki : Int32} {pa ps : Int64} (hk : vp_in ki 5) : vp_in (((64 * ki) + (8 * (vZ_valueAt_2 pa))) + ((vZ_valueAt_3 ps) + 1)) 320 := by
  obtain ⟨k, h1, rfl⟩ := vp_in_of hk (by decide)
  obtain ⟨i, h2, e2⟩ := vi_nI pa
  obtain ⟨j, h3, e3⟩ := vs_nI ps
  rw [e2, e3, nI_1]; exact iz_in h1 (by omega) (by omega)
theorem vz_211 {ki : Int32} {pa ps : Int64} (hk : vp_in ki 5) : vp_in (((64 * ki) + (8 * ((vZ_valueAt_2 pa) + 1))) + ((vZ_valueAt_3 ps) + 1)) 320 := by
  obtain ⟨k, h1, rfl⟩ := vp_in_of hk (by decide)
  obtain ⟨i, h2, e2⟩ := vi_nI pa
  obtain ⟨j, h3, e3⟩ := vs_nI ps
  rw [e2, e3, nI_1, nI_1]; exact iz_in h1 (by omega) (by omega)
theorem le_in {x M : Int32} {n : Nat} (hM : M.toInt = n) (h0 : ¬ x < 0) (h1 : x ≤ M) : ∃ j : Nat, j < n + 1 ∧ x = nI j := by
  obtain ⟨j, hj, e⟩ := nI_of2 hM h0 h1
  exact ⟨j, by omega, e⟩
theorem tz_in {ki px py : Int32} (h1 : ¬ ki < 0) (h2 : ki ≤ 4) (h3 : ¬ px < 0) (h4 : ¬ 7 < px) (h5 : ¬ py < 0) (h6 : ¬ 7 < py) : vp_in (((64 * ki) + (8 * px)) + py) 320 := by
  obtain ⟨k, hk, rfl⟩ := le_in (n := 4) (by decide) h1 h2
  obtain ⟨i, hi, rfl⟩ := le_in (n := 7) (by decide) h3 (k2_le h4)
  obtain ⟨j, hj, rfl⟩ := le_in (n := 7) (by decide) h5 (k2_le h6)
  exact iz_in hk hi hj
theorem wz_in {zw : Int32} (hw : vp_in zw 17) (h : ¬ zw = 16) : vp_in zw 16 := by
  obtain ⟨k, hk, rfl⟩ := vp_in_of hw (by decide)
  refine vp_in_nI ?_ (by decide)
  have : k ≠ 16 := fun e => h (by rw [e]; rfl)
  omega
theorem sz_in {wh : Int32} (h1 : ¬ wh < 0) (h2 : wh ≤ 2) : vp_in wh 3 := by
  obtain ⟨j, hj, rfl⟩ := le_in (n := 2) (by decide) h1 h2
  exact vp_in_nI hj (by decide)
theorem pz_ne {zc : Int32} {pv : Int64} (hc : ¬ zc < 1 ∧ zc ≤ 12) (h1 : ¬ (lg_cmp pv 0) < 0) (h2 : (lg_cmp pv 10000) ≤ 0) (h3 : (vZ_period_0 pv) ≤ 0) : ¬ (pv * (zc.toInt64)) = 0 := by
  have e : ¬ pv = 0 := fun q => by
    unfold vZ_period_0 at h3
    rw [q] at h3
    exact absurd h3 (by decide)
  have g1 : (0 : Int64) ≤ pv := by
    rw [Int64.le_iff_toInt_le, Int64.toInt_zero]
    have : ¬ pv < 0 := fun q => h1 ((lg_cmp_lt pv 0).mpr q)
    rw [Int64.lt_iff_toInt_lt, Int64.toInt_zero] at this
    omega
  have g2 := (lg_cmp_le pv 10000).mp h2
  rw [Int64.le_iff_toInt_le] at g1 g2
  obtain ⟨c1, c2⟩ := hc
  rw [Int32.lt_iff_toInt_lt] at c1
  rw [Int32.le_iff_toInt_le] at c2
  have k0 : (0 : Int64).toInt = 0 := by decide
  have k1 : (10000 : Int64).toInt = 10000 := by decide
  have k2 : (1 : Int32).toInt = 1 := by decide
  have k3 : (12 : Int32).toInt = 12 := by decide
  have e2 : pv.toInt ≠ 0 := fun q => e (Int64.toInt_inj.mp (by rw [q, k0]))
  intro q
  have q2 : (pv * zc.toInt64).toInt = 0 := by rw [q, k0]
  have b1 : 1 ≤ zc.toInt := by omega
  have b2 : zc.toInt ≤ 12 := by omega
  have b3 : 1 ≤ pv.toInt := by omega
  have b4 : pv.toInt ≤ 10000 := by omega
  have m1 : pv.toInt * zc.toInt ≤ 10000 * 12 := Int.mul_le_mul b4 b2 (by omega) (by omega)
  have m2 : 1 * 1 ≤ pv.toInt * zc.toInt := Int.mul_le_mul b3 b1 (by omega) (by omega)
  rw [Kit.i64_mul (by rw [Kit.i64_of_i32]; omega) (by rw [Kit.i64_of_i32]; omega), Kit.i64_of_i32] at q2
  omega
-- a call whose answer is told by an equation: it stands on the stack as it is told
section calls
variable {p : Program} {l : Launch} {e : Env} {R : Room} {s : State} {m : MethodId} {args : Array Value} {below : List Frame} {meth : Method} {c : Code} {H : Heap} {locs : List Loc} {cells slots : Nat} {Q : State → Prop}
variable {pc : Nat} {ls : Array Slot} {rest st0 : List Value} {a : Array Value} {A0 A1 : Nat → Prop} {H0 : Heap} {mc ms : Nat} {free : Addr → Prop}
theorem ca_i {f : Int32} {B : State → Prop} (hr : va_Run p l e R s m args below meth c H locs cells slots mc ms (F0 m pc ls st0) rest (va_Qi (fun r (_ : Unit) => r = f) (fun _ t => B t) A1 a) free) (hS : va_S A0 H0 H locs) (hA : ∀ q, q < H.size → A1 q → A0 q) (hf : ∀ q, free q → A0 q)
    (kk : ∀ (t : State) (H1 : Heap) (locs1 : List Loc), t.heap = H1 → s.vm.Alike t.vm → B t → H.size ≤ H1.size → (∀ q : Nat, q < H.size → ¬ A1 q → H1[q]? = H[q]?) → va_S A0 H0 H1 locs1 → W p l e R s m args below meth c H1 locs1 (cells + mc) (slots + ms) Q (F0 m (pc + 3) ls (.int f :: rest))) : W p l e R s m args below meth c H locs cells slots Q (F0 m pc ls st0) :=
  va_calli hr hS hA hf (fun r _ t H1 locs1 ht hvm hw hB hz hk hS => by
    have hw : r = f := hw
    rw [hw]
    exact kk t H1 locs1 ht hvm hB hz hk hS)
theorem ca_l {f : Int64} {B : State → Prop} (hr : va_Run p l e R s m args below meth c H locs cells slots mc ms (F0 m pc ls st0) rest (va_Ql (fun r (_ : Unit) => r = f) (fun _ t => B t) A1 a) free) (hS : va_S A0 H0 H locs) (hA : ∀ q, q < H.size → A1 q → A0 q) (hf : ∀ q, free q → A0 q)
    (kk : ∀ (t : State) (H1 : Heap) (locs1 : List Loc), t.heap = H1 → s.vm.Alike t.vm → B t → H.size ≤ H1.size → (∀ q : Nat, q < H.size → ¬ A1 q → H1[q]? = H[q]?) → va_S A0 H0 H1 locs1 → W p l e R s m args below meth c H1 locs1 (cells + mc) (slots + ms) Q (F0 m (pc + 3) ls (.long f :: rest))) : W p l e R s m args below meth c H locs cells slots Q (F0 m pc ls st0) :=
  va_calll hr hS hA hf (fun r _ t H1 locs1 ht hvm hw hB hz hk hS => by
    have hw : r = f := hw
    rw [hw]
    exact kk t H1 locs1 ht hvm hB hz hk hS)
theorem ca_v {B : State → Prop} (hr : va_Run p l e R s m args below meth c H locs cells slots mc ms (F0 m pc ls st0) rest (va_Qv (fun (_ : Unit) => True) (fun _ t => B t) A1 a) free) (hS : va_S A0 H0 H locs) (hA : ∀ q, q < H.size → A1 q → A0 q) (hf : ∀ q, free q → A0 q)
    (kk : ∀ (t : State) (H1 : Heap) (locs1 : List Loc), t.heap = H1 → s.vm.Alike t.vm → B t → H.size ≤ H1.size → (∀ q : Nat, q < H.size → ¬ A1 q → H1[q]? = H[q]?) → va_S A0 H0 H1 locs1 → W p l e R s m args below meth c H1 locs1 (cells + mc) (slots + ms) Q (F0 m (pc + 3) ls rest)) : W p l e R s m args below meth c H locs cells slots Q (F0 m pc ls st0) :=
  va_callv hr hS hA hf (fun _ t H1 locs1 ht hvm _ hB hz hk hS => kk t H1 locs1 ht hvm hB hz hk hS)
end calls
