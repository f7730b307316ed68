-- a step's answers and what it leaves, both ways, refused or not
theorem iu_ok {v : Int64} {M : Nat} (hM : M < 2 ^ 31) (h : ¬ fX_isUpTo v (lN M) = 0) : ∃ k : Nat, k ≤ M ∧ v.toInt32 = nI k := by
  by_cases h1 : lg_cmp v 0 < 0
  · exact absurd (iu_f1 h1) h
  by_cases h2 : lg_cmp v (lN M) ≤ 0
  · obtain ⟨k, hk, -, e⟩ := iu_n hM h1 h2
    exact ⟨k, hk, e⟩
  · exact absurd (iu_f2 h1 h2) h
theorem iv_step {n : Nat} {bn cy st df tm tq sp am sd li wt : Int32} {tb lo le zr zd : Nat → Int32} {pp po pz : Int64} (I : inv_ n bn cy st df tm tq sp am sd tb) (hn : n ≤ 512) (Wr : wr_ le zr zd wt) :
    inv_ (n + 1) bn cy (gX_step_0_8 pp st po pz lo df) (gX_step_0_9 pp df po pz lo) tm (gX_step_0_11 pp tq po pz lo df st sp li le tb am sd bn) (gX_step_0_18 pp sp po pz lo) am (gX_step_5_1 pp sd po pz lo df st sp li am) tb ∧ wr_ (gX_step_4 pp le po pz) zr zd (gX_step_3_1 pp wt po pz) := by
  unfold gX_step_0_8 gX_step_0_9 gX_step_0_11 gX_step_0_18 gX_step_5_1 gX_step_4 gX_step_3_1
  by_cases h1 : fX_isUpTo pp 1000 = 0
  · simp only [if_pos h1]; exact ⟨iv_up I, Wr⟩
  by_cases h2 : fX_isUpTo po 1000 = 0
  · simp only [if_neg h1, if_pos h2]; exact ⟨iv_up I, Wr⟩
  by_cases h3 : fX_isUpTo pz 10000 = 0
  · simp only [if_neg h1, if_neg h2, if_pos h3]; exact ⟨iv_up I, Wr⟩
  simp only [if_neg h1, if_neg h2, if_neg h3]
  obtain ⟨a, ha, ea⟩ := iu_ok (M := 1000) (by decide) h1
  obtain ⟨b, hb, eb⟩ := iu_ok (M := 1000) (by decide) h2
  obtain ⟨c, hc, ec⟩ := iu_ok (M := 10000) (by decide) h3
  obtain ⟨-, -, -, -, -, -, -, -, -, I2⟩ := st_all (li := li) (lo := lo) I hn Wr ⟨a, b, c, ha, hb, hc, ea, eb, ec⟩
  exact ⟨I2, wr_0 _ _ _⟩
theorem t64 {pp po pz : Int64} {x y : Int32} : (if (fX_isUpTo pp 1000) = 0 then x else (if (fX_isUpTo po 1000) = 0 then x else (if (fX_isUpTo pz 10000) = 0 then x else y))).toInt64 = (if (fX_isUpTo pp 1000) = 0 then x.toInt64 else (if (fX_isUpTo po 1000) = 0 then x.toInt64 else (if (fX_isUpTo pz 10000) = 0 then x.toInt64 else y.toInt64))) := by
  split
  · rfl
  · split
    · rfl
    · split <;> rfl
theorem e_step {n : Nat} {bn cy st df tm tq tp pd wa ai fu mo sp am sd li wt : Int32} {s0 s1 s2 s3 : Int64} {tb lo le zr zd : Nat → Int32} {pp po pz : Int64} (I : inv_ n bn cy st df tm tq sp am sd tb) (hn : n ≤ 512) (Wr : wr_ le zr zd wt) :
    fX_step pp po pz lo df st sp li = fZ_step pp po pz st lo df sp li
    ∧ gZ_step_0_3 pp wt po pz = gX_step_3_1 pp wt po pz
    ∧ gZ_step_0_9 pp st po pz lo df = gX_step_0_8 pp st po pz lo df
    ∧ gZ_step_0_11 pp pd po pz st lo df sp li = gX_step_0_13 pp pd po pz lo df st sp li
    ∧ gZ_step_0_12 pp sp po pz lo = gX_step_0_18 pp sp po pz lo
    ∧ gZ_step_0_13 pp wa po pz st lo df sp li tb zr zd wt am sd.toInt64 bn = gX_step_0_14 pp wa po pz lo df st sp li le tb am sd bn
    ∧ gZ_step_0_14 pp ai po pz tb st lo df sp li tq zr zd wt am sd.toInt64 bn = gX_step_0_15 pp ai po pz tb lo df st sp li tq le am sd bn
    ∧ gZ_step_0_15 pp fu po pz st lo df sp li tq tb zr zd wt am sd.toInt64 bn = gX_step_0_16 pp fu po pz lo df st sp li tq le tb am sd bn
    ∧ gZ_step_0_16 pp sd.toInt64 po pz st lo df sp li am = (gX_step_5_1 pp sd po pz lo df st sp li am).toInt64
    ∧ gZ_step_0_17 pp df po pz lo = gX_step_0_9 pp df po pz lo
    ∧ gZ_step_0_18 pp mo po pz st lo df sp li = gX_step_0_17 pp mo po pz lo df st sp li
    ∧ gZ_step_0_19 pp tq po pz st lo df sp li tb zr zd wt am sd.toInt64 bn = gX_step_0_11 pp tq po pz lo df st sp li le tb am sd bn
    ∧ gZ_step_0_20 pp tp po pz tq = gX_step_0_12 pp tp po pz tq
    ∧ gZ_step_0_22 pp s0 po pz = gX_step_6_0 pp s0 po pz
    ∧ gZ_step_0_23 pp s1 po pz st lo df sp li tq tb zr zd wt am sd.toInt64 bn = gX_step_6_1 pp s1 po pz lo df st sp li tq le tb am sd bn
    ∧ gZ_step_0_24 pp s2 po pz st lo df sp li tq tb zr zd wt am sd.toInt64 bn = gX_step_6_2 pp s2 po pz lo df st sp li tq le tb am sd bn
    ∧ gZ_step_0_25 pp s3 po pz st lo df sp li = gX_step_6_3 pp s3 po pz lo df st sp li := by
  have S := fun ok => st_all (li := li) (lo := lo) (pp := pp) (po := po) (pz := pz) I hn Wr ok
  refine ⟨rg3 (fun ok => (S ok).2.2.1), (rg3 (fun _ => rfl)).symm, (rg3 (fun ok => (S ok).1)).symm, (rg3 (fun ok => (S ok).2.2.2.1)).symm, (rg3 (fun _ => rfl)).symm, (rg3 (fun ok => (S ok).2.2.2.2.2.1)).symm, (rg3 (fun ok => (S ok).2.2.2.2.2.2.2.1)).symm, (rg3 (fun ok => (S ok).2.2.2.2.2.2.2.2.1)).symm, ?_, (rg3 (fun ok => (S ok).2.1)).symm, (rg3 (fun ok => (S ok).2.2.1)).symm, (rg3 (fun ok => (S ok).2.2.2.2.2.2.1)).symm, (rg3 (fun _ => rfl)).symm, (rg3 (fun _ => rfl)).symm, (rg3 (fun ok => ?_)).symm, (rg3 (fun ok => ?_)).symm, (rg3 (fun ok => ?_)).symm⟩
  · unfold gX_step_5_1
    rw [t64]
    exact (rg3 (fun ok => (S ok).2.2.2.2.1)).symm
  · unfold vX_step_10 vZ_step_22
    rw [(S ok).2.2.2.2.2.2.1]
    rfl
  · unfold vX_step_11 vZ_step_23
    rw [(S ok).2.2.2.2.2.2.2.2.1]
  · unfold vX_step_12 vZ_step_24 gTo_count_0_3 vX_step_9
    rw [(S ok).2.2.1]
    by_cases h : vZ_step_9 st lo pp po df pz sp li = 4
    · simp only [if_pos h, if_neg i01]
    · simp only [if_neg h, if_pos]
      exact (Int64.add_zero s3).symm
