-- one step, both ways
theorem rg3 {α : Type} {pp po pz : Int64} {x y y' : α} (h : (∃ a b c : Nat, a ≤ 1000 ∧ b ≤ 1000 ∧ c ≤ 10000 ∧ pp.toInt32 = nI a ∧ po.toInt32 = nI b ∧ pz.toInt32 = nI c) → y = y') :
    (if (fX_isUpTo pp 1000) = 0 then x else (if (fX_isUpTo po 1000) = 0 then x else (if (fX_isUpTo pz 10000) = 0 then x else y))) = (if (lg_cmp pp 0) < 0 then x else (if 0 < (lg_cmp pp 1000) then x else (if (lg_cmp po 0) < 0 then x else (if 0 < (lg_cmp po 1000) then x else (if (lg_cmp pz 0) < 0 then x else (if (lg_cmp pz 10000) ≤ 0 then y' else x)))))) := by
  by_cases h1 : lg_cmp pp 0 < 0
  · rw [iu_f1 h1, if_pos rfl, if_pos h1]
  rw [if_neg h1]
  by_cases h2 : lg_cmp pp 1000 ≤ 0
  · rw [iu_t h1 h2, if_neg i01, if_neg (k2_nlt h2)]
    by_cases h3 : lg_cmp po 0 < 0
    · rw [iu_f1 h3, if_pos rfl, if_pos h3]
    rw [if_neg h3]
    by_cases h4 : lg_cmp po 1000 ≤ 0
    · rw [iu_t h3 h4, if_neg i01, if_neg (k2_nlt h4)]
      by_cases h5 : lg_cmp pz 0 < 0
      · rw [iu_f1 h5, if_pos rfl, if_pos h5]
      rw [if_neg h5]
      by_cases h6 : lg_cmp pz 10000 ≤ 0
      · rw [iu_t h5 h6, if_neg i01, if_pos h6]
        obtain ⟨a, ha, -, ea⟩ := iu_n (M := 1000) (by decide) h1 h2
        obtain ⟨b, hb, -, eb⟩ := iu_n (M := 1000) (by decide) h3 h4
        obtain ⟨c, hc, -, ec⟩ := iu_n (M := 10000) (by decide) h5 h6
        exact h ⟨a, b, c, ha, hb, hc, ea, eb, ec⟩
      · rw [iu_f2 h5 h6, if_pos rfl, if_neg h6]
    · rw [iu_f2 h3 h4, if_pos rfl, if_pos (k2_lt h4)]
  · rw [iu_f2 h1 h2, if_pos rfl, if_pos (k2_lt h2)]
theorem rgc {α : Type} {P : α → Prop} {pp po pz : Int64} {x y : α} (hx : P x) (h : (∃ a b c : Nat, a ≤ 1000 ∧ b ≤ 1000 ∧ c ≤ 10000 ∧ pp.toInt32 = nI a ∧ po.toInt32 = nI b ∧ pz.toInt32 = nI c) → P y) :
    P (if (fX_isUpTo pp 1000) = 0 then x else (if (fX_isUpTo po 1000) = 0 then x else (if (fX_isUpTo pz 10000) = 0 then x else y))) := by
  by_cases h1 : lg_cmp pp 0 < 0
  · rw [iu_f1 h1, if_pos rfl]; exact hx
  by_cases h2 : lg_cmp pp 1000 ≤ 0
  · rw [iu_t h1 h2, if_neg i01]
    by_cases h3 : lg_cmp po 0 < 0
    · rw [iu_f1 h3, if_pos rfl]; exact hx
    by_cases h4 : lg_cmp po 1000 ≤ 0
    · rw [iu_t h3 h4, if_neg i01]
      by_cases h5 : lg_cmp pz 0 < 0
      · rw [iu_f1 h5, if_pos rfl]; exact hx
      by_cases h6 : lg_cmp pz 10000 ≤ 0
      · rw [iu_t h5 h6, if_neg i01]
        obtain ⟨a, ha, -, ea⟩ := iu_n (M := 1000) (by decide) h1 h2
        obtain ⟨b, hb, -, eb⟩ := iu_n (M := 1000) (by decide) h3 h4
        obtain ⟨c, hc, -, ec⟩ := iu_n (M := 10000) (by decide) h5 h6
        exact h ⟨a, b, c, ha, hb, hc, ea, eb, ec⟩
      · rw [iu_f2 h5 h6, if_pos rfl]; exact hx
    · rw [iu_f2 h3 h4, if_pos rfl]; exact hx
  · rw [iu_f2 h1 h2, if_pos rfl]; exact hx
/-- what stays true of the class's own numbers (n calls so far) -/
def inv_ (n : Nat) (bn cy st df tm tq sp am sd : Int32) (tb : Nat → Int32) : Prop := bd_ tb ∧ sm_ bn ∧ (¬ cy < 1 ∧ cy ≤ 12) ∧ (st = 0 ∨ st = 1) ∧ (st = 0 → ∃ k : Nat, k < 5 ∧ df = nI k) ∧ (st = 0 → ∃ k : Nat, k < 8 ∧ tm = nI k) ∧ sm_ tq ∧ (∃ k : Nat, k ≤ 10000 ∧ sp = nI k) ∧ (∃ k : Nat, k ≤ 3000 ∧ am = nI k) ∧ -(10000 * (n : Int)) ≤ sd.toInt ∧ sd.toInt ≤ 10000 * (n : Int)
theorem t0 {lo : Nat → Int32} {pp po : Int64} : (vZ_step_1 lo pp po).toInt32 = vX_takeTracks_0 lo pp.toInt32 po.toInt32 := by
  unfold vZ_step_1 vX_takeTracks_0
  split <;> rfl
theorem t1 {lo : Nat → Int32} {pp po : Int64} : (vZ_step_2 lo po pp).toInt32 = vX_takeTracks_1 lo po.toInt32 pp.toInt32 := by
  unfold vZ_step_2 vX_takeTracks_1
  split <;> rfl
theorem t0n {lo : Nat → Int32} {p o : Int32} (hp : sm_ p) (ho : sm_ o) : sm_ (vX_takeTracks_0 lo p o) := by
  unfold vX_takeTracks_0
  split
  · exact hp
  · exact ho
theorem t1n {lo : Nat → Int32} {p o : Int32} (hp : sm_ p) (ho : sm_ o) : sm_ (vX_takeTracks_1 lo o p) := by
  unfold vX_takeTracks_1
  split
  · exact ho
  · exact hp
/-- two tracks that are more than 50 apart -/
theorem ap_ {f s : Int32} (hf : sm_ f) (hs : sm_ s) : ab (f - s) ≤ 50 ↔ (¬ 50 < f - s ∧ s - f ≤ 50) := by
  obtain ⟨a, ha, rfl⟩ := hf
  obtain ⟨b, hb, rfl⟩ := hs
  have e1 := pk_sub_toInt (a := a) (b := b) (by omega) (by omega)
  have e2 := pk_sub_toInt (a := b) (b := a) (by omega) (by omega)
  have k0 : (0 : Int32).toInt = 0 := by decide
  have k50 : (50 : Int32).toInt = 50 := by decide
  rw [Int32.lt_iff_toInt_lt, Int32.le_iff_toInt_le, Int32.le_iff_toInt_le, e1, e2, k50]
  unfold ab
  by_cases h : 0 ≤ nI a - nI b
  · rw [if_pos h, e1]
    rw [Int32.le_iff_toInt_le, e1, k0] at h
    omega
  · rw [if_neg h, Kit.i32_sub (by rw [e1, k0]; omega) (by rw [e1, k0]; omega), e1, k0]
    rw [Int32.le_iff_toInt_le, e1, k0] at h
    omega
theorem t3 {lo : Nat → Int32} {pp po : Int64} {df : Int32} (hp : sm_ pp.toInt32) (ho : sm_ po.toInt32) : vZ_step_4 lo pp po df = vX_takeTracks_3 lo pp.toInt32 po.toInt32 df := by
  unfold vZ_step_4 vX_takeTracks_3 vZ_step_3 vX_takeTracks_2
  rw [t0, t1]
  have A := ap_ (t0n (lo := lo) hp ho) (t1n (lo := lo) hp ho)
  by_cases h1 : lo (0 : Int32).toNatClampNeg = 0
  · by_cases h2 : lo (1 : Int32).toNatClampNeg = 0
    · simp only [if_pos h1, if_pos h2, if_neg i01]
      by_cases h3 : 50 < vX_takeTracks_0 lo pp.toInt32 po.toInt32 - vX_takeTracks_1 lo po.toInt32 pp.toInt32
      · rw [if_pos h3, if_neg i01, if_neg (fun q => (A.mp q).1 h3)]
      · rw [if_neg h3]
        by_cases h4 : vX_takeTracks_1 lo po.toInt32 pp.toInt32 - vX_takeTracks_0 lo pp.toInt32 po.toInt32 ≤ 50
        · rw [if_pos h4, if_pos rfl, if_pos (A.mpr ⟨h3, h4⟩)]
        · rw [if_neg h4, if_neg i01, if_neg (fun q => h4 (A.mp q).2)]
    · simp only [if_pos h1, if_neg h2, if_pos]
  · simp only [if_neg h1, if_pos]
theorem t3v {lo : Nat → Int32} {p o df : Int32} : vX_takeTracks_3 lo p o df = 0 ∨ vX_takeTracks_3 lo p o df = df + 1 := by
  unfold vX_takeTracks_3
  split
  · exact Or.inl rfl
  · split
    · exact Or.inl rfl
    · exact Or.inr rfl
theorem t4 {lo : Nat → Int32} {pp po : Int64} {df st : Int32} (hp : sm_ pp.toInt32) (ho : sm_ po.toInt32) (hs : st = 0 ∨ st = 1) (hd : st = 0 → ∃ k : Nat, k < 5 ∧ df = nI k) :
    vZ_step_5 st lo pp po df = vX_takeTracks_4 lo pp.toInt32 po.toInt32 df st ∧ (vX_takeTracks_4 lo pp.toInt32 po.toInt32 df st = 0 ∨ vX_takeTracks_4 lo pp.toInt32 po.toInt32 df st = 1) ∧ (vX_takeTracks_4 lo pp.toInt32 po.toInt32 df st = 0 → st = 0 ∧ ∃ k : Nat, k < 5 ∧ vX_takeTracks_3 lo pp.toInt32 po.toInt32 df = nI k) := by
  unfold vZ_step_5 vX_takeTracks_4
  rw [t3 hp ho]
  rcases hs with rfl | rfl
  · obtain ⟨k, hk, rfl⟩ := hd rfl
    have C : ∃ j : Nat, j ≤ 5 ∧ vX_takeTracks_3 lo pp.toInt32 po.toInt32 (nI k) = nI j := by
      rcases t3v (lo := lo) (p := pp.toInt32) (o := po.toInt32) (df := nI k) with e | e
      · exact ⟨0, by omega, e⟩
      · exact ⟨k + 1, by omega, e.trans (nI_1 k)⟩
    obtain ⟨j, hj, e⟩ := C
    rw [e, if_pos rfl]
    by_cases h : j = 5
    · subst h
      refine ⟨rfl, Or.inr rfl, fun q => absurd q (by decide)⟩
    · have h1 : nI j < 5 := nI_lt (b := 5) (by omega) (by decide)
      have h2 : ¬ nI j = 5 := fun q => h ((nI_eq (b := 5) (by omega) (by decide)).mp q)
      rw [if_pos h1, if_neg h2]
      exact ⟨rfl, Or.inl rfl, fun _ => ⟨rfl, j, by omega, rfl⟩⟩
  · rw [if_neg i01, ite_self]
    exact ⟨rfl, Or.inr rfl, fun q => absurd q i01⟩
theorem t5 {lo : Nat → Int32} {pp po : Int64} : vZ_step_6 lo po pp = vX_takeTracks_5 lo pp.toInt32 po.toInt32 := by
  unfold vZ_step_6 vX_takeTracks_5 mn
  rw [t0, t1]
  obtain ⟨f, hf⟩ : ∃ f, f = vX_takeTracks_0 lo pp.toInt32 po.toInt32 := ⟨_, rfl⟩
  obtain ⟨s, hs⟩ : ∃ s, s = vX_takeTracks_1 lo po.toInt32 pp.toInt32 := ⟨_, rfl⟩
  rw [← hf, ← hs]
  by_cases h : s ≤ f
  · rw [if_pos h]
    by_cases h2 : s < f
    · rw [if_pos h2]
    · rw [if_neg h2]
      rw [Int32.le_iff_toInt_le] at h
      rw [Int32.lt_iff_toInt_lt] at h2
      exact Int32.toInt_inj.mp (by omega)
  · rw [if_neg h, if_neg (fun q => h (by rw [Int32.le_iff_toInt_le]; rw [Int32.lt_iff_toInt_lt] at q; omega))]
theorem t5n {lo : Nat → Int32} {p o : Int32} (hp : sm_ p) (ho : sm_ o) : sm_ (vX_takeTracks_5 lo p o) := by
  unfold vX_takeTracks_5 mn
  split
  · exact t1n hp ho
  · exact t0n hp ho
theorem t6 {st : Int32} {lo : Nat → Int32} {pp po pz : Int64} {df sp li : Int32} (hp : sm_ pp.toInt32) (ho : sm_ po.toInt32) (hs : st = 0 ∨ st = 1) (hd : st = 0 → ∃ k : Nat, k < 5 ∧ df = nI k) :
    vZ_step_9 st lo pp po df pz sp li = vX_step_2 lo pp po df st pz sp li := by
  unfold vZ_step_9 vX_step_2 fX_chooseMode vX_step_0 vX_step_1
  rw [(t4 hp ho hs hd).1, t3 hp ho, show vZ_step_0 lo pz sp = gX_takeSpeed_0_18 lo pz.toInt32 sp from rfl]
  unfold vZ_step_7 vZ_step_8
  generalize vX_takeTracks_4 lo pp.toInt32 po.toInt32 df st = x
  generalize vX_takeTracks_3 lo pp.toInt32 po.toInt32 df = y
  generalize gX_takeSpeed_0_18 lo pz.toInt32 sp = z
  by_cases h0 : x = 0 <;> by_cases h1 : lo (0 : Int32).toNatClampNeg = 0 <;> by_cases h2 : lo (1 : Int32).toNatClampNeg = 0 <;> by_cases h3 : lo (2 : Int32).toNatClampNeg = 0 <;> by_cases h4 : z = 0 <;> by_cases h5 : li = 0 <;> simp only [if_pos, if_neg, h0, h1, h2, h3, h4, h5, i01, not_false_eq_true, if_true, if_false, reduceIte, eq_self]
theorem md_ {st sp li df : Int32} {lo : Nat → Int32} : fX_chooseMode st lo sp li df = 0 ∨ fX_chooseMode st lo sp li df = 1 ∨ fX_chooseMode st lo sp li df = 2 ∨ fX_chooseMode st lo sp li df = 3 ∨ fX_chooseMode st lo sp li df = 4 := by
  unfold fX_chooseMode
  repeat' split
  all_goals simp
