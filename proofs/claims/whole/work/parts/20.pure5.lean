-- one step, both ways: what is wanted, the torque, air and fuel
theorem dr_ {mo : Int32} (h : mo = 0 ∨ mo = 1 ∨ mo = 2 ∨ mo = 3 ∨ mo = 4) : (if 3 ≤ mo then (0 : Int32) else 1) = fX_drives mo := by
  rcases h with rfl | rfl | rfl | rfl | rfl <;> decide
theorem mx_le (w t : Int32) : (if t ≤ w then w else t) = mx w t := by
  unfold mx
  by_cases h : t ≤ w
  · rw [if_pos h, if_neg (k2_nlt h)]
  · rw [if_neg h, if_pos (k2_lt h)]
theorem mn_le (w t : Int32) : (if w ≤ t then w else t) = mn w t := by
  unfold mn
  by_cases h : w ≤ t
  · rw [if_pos h, if_neg (k2_nlt h)]
  · rw [if_neg h, if_pos (k2_lt h)]
theorem sm_mx {w t : Int32} (hw : sm_ w) (ht : sm_ t) : sm_ (mx w t) := by
  unfold mx
  split
  · exact ht
  · exact hw
theorem sm_mn {w t : Int32} (hw : sm_ w) (ht : sm_ t) : sm_ (mn w t) := by
  unfold mn
  split
  · exact ht
  · exact hw
theorem ra_ {tq w : Int32} (hq : sm_ tq) (hw : sm_ w) : (if (tq - 80) ≤ w then (if w ≤ (tq + 40) then w else (tq + 40)) else (tq - 80)) = fX_ramped tq w ∧ sm_ (fX_ramped tq w) := by
  obtain ⟨a, ha, rfl⟩ := hq
  obtain ⟨b, hb, rfl⟩ := hw
  have k80 : (80 : Int32).toInt = 80 := by decide
  have k40 : (40 : Int32).toInt = 40 := by decide
  have ea : (nI a).toInt = a := nI_toInt (by omega)
  have eb : (nI b).toInt = b := nI_toInt (by omega)
  have e1 : (nI a - 80).toInt = (a : Int) - 80 := by rw [Kit.i32_sub (by rw [ea, k80]; omega) (by rw [ea, k80]; omega), ea, k80]
  have e2 : (nI a + 40).toInt = (a : Int) + 40 := by rw [Kit.i32_add (by rw [ea, k40]; omega) (by rw [ea, k40]; omega), ea, k40]
  unfold fX_ramped mx mn
  by_cases h1 : nI a - 80 ≤ nI b
  · rw [if_pos h1]
    have g1 := h1
    rw [Int32.le_iff_toInt_le, e1, eb] at g1
    by_cases h2 : nI b ≤ nI a + 40
    · rw [if_pos h2]
      have g2 := h2
      rw [Int32.le_iff_toInt_le, e2, eb] at g2
      by_cases h3 : nI b < nI a + 40
      · rw [if_pos h3]
        by_cases h4 : nI a - 80 < nI b
        · rw [if_pos h4]; exact ⟨rfl, b, hb, rfl⟩
        · rw [if_neg h4]
          rw [Int32.lt_iff_toInt_lt, e1, eb] at h4
          have e : nI b = nI a - 80 := Int32.toInt_inj.mp (by rw [e1, eb]; omega)
          exact ⟨e, b, hb, e.symm⟩
      · rw [if_neg h3]
        rw [Int32.lt_iff_toInt_lt, e2, eb] at h3
        have e : nI b = nI a + 40 := Int32.toInt_inj.mp (by rw [e2, eb]; omega)
        rw [if_pos (by rw [Int32.lt_iff_toInt_lt, e1, e2]; omega)]
        exact ⟨e, b, hb, e.symm⟩
    · rw [if_neg h2]
      have g2 : ¬ (b : Int) ≤ a + 40 := fun q => h2 (by rw [Int32.le_iff_toInt_le, e2, eb]; exact q)
      have g3 : ¬ nI b < nI a + 40 := by rw [Int32.lt_iff_toInt_lt, e2, eb]; omega
      have g4 : nI a - 80 < nI a + 40 := by rw [Int32.lt_iff_toInt_lt, e1, e2]; omega
      rw [if_neg g3, if_pos g4]
      exact ⟨rfl, a + 40, by omega, (nI_add a 40)⟩
  · rw [if_neg h1]
    have g1 : ¬ (a : Int) - 80 ≤ b := fun q => h1 (by rw [Int32.le_iff_toInt_le, e1, eb]; exact q)
    have g3 : nI b < nI a + 40 := by rw [Int32.lt_iff_toInt_lt, e2, eb]; omega
    have g4 : ¬ nI a - 80 < nI b := by rw [Int32.lt_iff_toInt_lt, e1, eb]; omega
    rw [if_pos g3, if_neg g4]
    refine ⟨rfl, a - 80, by omega, ?_⟩
    exact pk_sub (a := a) (b := 80) (by omega)
theorem half_ {x : Int32} (h : sm_ x) : sm_ (x / 2) := by
  obtain ⟨v, hv, rfl⟩ := h
  exact ⟨v / 2, by omega, pk_div (d := 2) (by omega) (by decide) (by decide)⟩
theorem ped_ {tb : Nat → Int32} (hb : bd_ tb) (mo pd sp : Int32) : sm_ (fX_pedalWanted mo tb pd sp) ∧ (if mo = 2 then (fZ_valueAt tb 1 pd.toInt64 sp.toInt64) else (if mo = 1 then ((fZ_valueAt tb 0 pd.toInt64 sp.toInt64) / 2) else (fZ_valueAt tb 0 pd.toInt64 sp.toInt64))) = fX_pedalWanted mo tb pd sp := by
  obtain ⟨e1, s1⟩ := e_val hb 1 pd sp
  obtain ⟨e0, s0⟩ := e_val hb 0 pd sp
  unfold fX_pedalWanted
  rw [← e1, ← e0]
  refine ⟨?_, rfl⟩
  split
  · exact s1
  · split
    · exact half_ s0
    · exact s0
theorem le0 {x : Int32} (h : sm_ x) : x ≤ 0 ↔ x = 0 := by
  obtain ⟨v, hv, rfl⟩ := h
  constructor
  · intro q
    have := (nI_leI (b := 0) (by omega) (by decide)).mp q
    rw [show v = 0 by omega]; rfl
  · intro q
    rw [q]; decide
theorem to_sm (am sp sd : Int32) : sm_ (fId_torqueAt am sp sd) := by
  obtain ⟨j, hj, e⟩ := bt_nI (fMa_floorDiv ((4 * (am - sp)) + sd) 16) (n := 200) (by decide)
  exact ⟨j, by omega, e⟩
set_option maxHeartbeats 1000000 in
/-- all that a step that is not refused computes -/
theorem st_all {n : Nat} {bn cy st df tm tq sp am sd li wt : Int32} {tb lo le zr zd : Nat → Int32} {pp po pz : Int64} (I : inv_ n bn cy st df tm tq sp am sd tb) (hn : n ≤ 512) (Wr : wr_ le zr zd wt)
    (ok : ∃ a b c : Nat, a ≤ 1000 ∧ b ≤ 1000 ∧ c ≤ 10000 ∧ pp.toInt32 = nI a ∧ po.toInt32 = nI b ∧ pz.toInt32 = nI c) :
    vX_step_0 lo pp po df st = vZ_step_5 st lo pp po df ∧ vX_step_1 lo pp po df = vZ_step_4 lo pp po df ∧ vX_step_2 lo pp po df st pz sp li = vZ_step_9 st lo pp po df pz sp li ∧ vX_step_3 lo pp po df st pz sp li = vZ_step_10 st lo pp po df pz sp li
    ∧ (vX_step_4 lo pp po df st pz sp li am sd).toInt64 = vZ_step_17 st lo pp po df pz sp li am sd.toInt64 ∧ vX_step_5 lo pp po df st pz sp li le tb am sd bn = vZ_step_18 st lo pp po df pz sp li tb zr zd wt am sd.toInt64 bn
    ∧ vX_step_6 lo pp po df st pz sp li tq le tb am sd bn = vZ_step_19 st lo pp po df pz sp li tq tb zr zd wt am sd.toInt64 bn ∧ vX_step_7 tb lo pp po df st pz sp li tq le am sd bn = vZ_step_20 tb st lo pp po df pz sp li tq zr zd wt am sd.toInt64 bn
    ∧ vX_step_8 lo pp po df st pz sp li tq le tb am sd bn = vZ_step_21 st lo pp po df pz sp li tq tb zr zd wt am sd.toInt64 bn
    ∧ inv_ (n + 1) bn cy (vX_step_0 lo pp po df st) (vX_step_1 lo pp po df) tm (vX_step_6 lo pp po df st pz sp li tq le tb am sd bn) (gX_takeSpeed_0_18 lo pz.toInt32 sp) am (vX_step_4 lo pp po df st pz sp li am sd) tb := by
  obtain ⟨hb, hbn, hcy, hst, hdf, htm, htq, hsp, ham, hs1, hs2⟩ := I
  obtain ⟨a, b, c, ha, hbb, hc, ea, eb, ec⟩ := ok
  have hp : sm_ pp.toInt32 := ⟨a, ha, ea⟩
  have ho : sm_ po.toInt32 := ⟨b, hbb, eb⟩
  have r0 := t4 (lo := lo) hp ho hst hdf
  have r1 := t3 (lo := lo) (df := df) hp ho
  have r2 := t6 (lo := lo) (pz := pz) (sp := sp) (li := li) hp ho hst hdf
  have hm : vX_step_2 lo pp po df st pz sp li = 0 ∨ vX_step_2 lo pp po df st pz sp li = 1 ∨ vX_step_2 lo pp po df st pz sp li = 2 ∨ vX_step_2 lo pp po df st pz sp li = 3 ∨ vX_step_2 lo pp po df st pz sp li = 4 := md_
  have r3 : vX_step_3 lo pp po df st pz sp li = vZ_step_10 st lo pp po df pz sp li := by
    unfold vX_step_3 vZ_step_10
    rw [r2, t5]
  have hpd : sm_ (vX_step_3 lo pp po df st pz sp li) := by
    unfold vX_step_3
    split
    · exact ⟨0, by omega, rfl⟩
    · exact t5n hp ho
  have hsp' : ∃ k : Nat, k ≤ 10000 ∧ gX_takeSpeed_0_18 lo pz.toInt32 sp = nI k := by
    unfold gX_takeSpeed_0_18
    split
    · exact ⟨c, hc, ec⟩
    · exact hsp
  have r11 : vZ_step_11 st lo pp po df pz sp li = fX_drives (vX_step_2 lo pp po df st pz sp li) := by
    unfold vZ_step_11
    rw [r2]; exact dr_ hm
  have z0 : vZ_step_0 lo pz sp = gX_takeSpeed_0_18 lo pz.toInt32 sp := rfl
  obtain ⟨pe1, pe2⟩ := ped_ hb (vX_step_2 lo pp po df st pz sp li) (vX_step_3 lo pp po df st pz sp li) (gX_takeSpeed_0_18 lo pz.toInt32 sp)
  have r12 : vZ_step_12 st lo pp po df pz sp li tb = (if fX_drives (vX_step_2 lo pp po df st pz sp li) = 0 then 0 else fX_pedalWanted (vX_step_2 lo pp po df st pz sp li) tb (vX_step_3 lo pp po df st pz sp li) (gX_takeSpeed_0_18 lo pz.toInt32 sp)) := by
    unfold vZ_step_12
    rw [r11, r2, ← r3, z0, pe2]
  obtain ⟨ap1, ap2⟩ := e_app Wr pe1
  have r14 : vZ_step_14 st lo pp po df pz sp li tb zr zd wt = vX_chooseWanted_0 (vX_step_2 lo pp po df st pz sp li) le tb (vX_step_3 lo pp po df st pz sp li) (gX_takeSpeed_0_18 lo pz.toInt32 sp) := by
    unfold vZ_step_14 vZ_step_13 vX_chooseWanted_0
    rw [r11, r12]
    by_cases h : fX_drives (vX_step_2 lo pp po df st pz sp li) = 0
    · rw [if_pos h, if_pos h, if_pos h]
    · rw [if_neg h, if_neg h, if_neg h, ap1]
  have s14 : sm_ (vX_chooseWanted_0 (vX_step_2 lo pp po df st pz sp li) le tb (vX_step_3 lo pp po df st pz sp li) (gX_takeSpeed_0_18 lo pz.toInt32 sp)) := by
    unfold vX_chooseWanted_0
    split
    · exact ⟨0, by omega, rfl⟩
    · rw [ap1]; exact ap2
  obtain ⟨k, hk, ek⟩ := hsp'
  obtain ⟨q, hq, eq⟩ := ham
  obtain ⟨i1, i2, i3, i4⟩ := e_idl hq hk eq ek hn hs1 hs2
  have r15 : vZ_step_15 am lo pz sp sd.toInt64 st pp po df li tb zr zd wt = mx (vX_chooseWanted_0 (vX_step_2 lo pp po df st pz sp li) le tb (vX_step_3 lo pp po df st pz sp li) (gX_takeSpeed_0_18 lo pz.toInt32 sp)) (fId_torqueAt am (gX_takeSpeed_0_18 lo pz.toInt32 sp) sd) := by
    unfold vZ_step_15 vZ_idles_2
    rw [r14, z0, i1]
    exact mx_le _ _
  have r16 : vZ_step_16 st lo pp po df pz sp li tb zr zd wt am sd.toInt64 = fX_chooseWanted (vX_step_2 lo pp po df st pz sp li) le tb (vX_step_3 lo pp po df st pz sp li) (gX_takeSpeed_0_18 lo pz.toInt32 sp) am sd := by
    unfold vZ_step_16 fX_chooseWanted
    rw [r11, r14, r15, ← r3]
    by_cases h : fX_drives (vX_step_2 lo pp po df st pz sp li) = 0
    · rw [if_pos h, if_pos h, ite_self]
    · rw [if_neg h, if_neg h]
      by_cases h2 : vX_step_3 lo pp po df st pz sp li = 0
      · rw [if_pos h2, if_pos ((le0 hpd).mpr h2)]
      · rw [if_neg h2, if_neg (fun q => h2 ((le0 hpd).mp q))]
  have s16 : sm_ (fX_chooseWanted (vX_step_2 lo pp po df st pz sp li) le tb (vX_step_3 lo pp po df st pz sp li) (gX_takeSpeed_0_18 lo pz.toInt32 sp) am sd) := by
    unfold fX_chooseWanted
    split
    · exact s14
    · split
      · exact sm_mx s14 (to_sm _ _ _)
      · exact s14
  have r17 : vZ_step_17 st lo pp po df pz sp li am sd.toInt64 = (vX_step_4 lo pp po df st pz sp li am sd).toInt64 := by
    unfold vZ_step_17 vX_step_4 gX_chooseWanted_5_1
    rw [r11, ← r3, z0, i2]
    by_cases h : fX_drives (vX_step_2 lo pp po df st pz sp li) = 0
    · rw [if_pos h, if_pos h, ite_self]; rfl
    · rw [if_neg h, if_neg h]
      by_cases h2 : vX_step_3 lo pp po df st pz sp li = 0
      · rw [if_pos h2, if_pos ((le0 hpd).mpr h2)]
      · rw [if_neg h2, if_neg (fun q => h2 ((le0 hpd).mp q))]; rfl
  have r18 : vZ_step_18 st lo pp po df pz sp li tb zr zd wt am sd.toInt64 bn = vX_step_5 lo pp po df st pz sp li le tb am sd bn := by
    unfold vZ_step_18 vX_step_5
    rw [r16]; exact mn_le _ _
  have s18 : sm_ (vX_step_5 lo pp po df st pz sp li le tb am sd bn) := sm_mn s16 hbn
  obtain ⟨ra1, ra2⟩ := ra_ htq s18
  have r19 : vZ_step_19 st lo pp po df pz sp li tq tb zr zd wt am sd.toInt64 bn = vX_step_6 lo pp po df st pz sp li tq le tb am sd bn := by
    unfold vZ_step_19 vX_step_6
    rw [r11, r18, ra1]
  have s19 : sm_ (vX_step_6 lo pp po df st pz sp li tq le tb am sd bn) := by
    unfold vX_step_6
    split
    · exact ⟨0, by omega, rfl⟩
    · exact ra2
  have r20 : vZ_step_20 tb st lo pp po df pz sp li tq zr zd wt am sd.toInt64 bn = vX_step_7 tb lo pp po df st pz sp li tq le am sd bn := by
    unfold vZ_step_20 vX_step_7
    rw [r19, z0]; exact (e_val hb _ _ _).1.symm
  have r21 : vZ_step_21 st lo pp po df pz sp li tq tb zr zd wt am sd.toInt64 bn = vX_step_8 lo pp po df st pz sp li tq le tb am sd bn := by
    unfold vZ_step_21 vX_step_8 fX_isFuelCut vX_isFuelCut_0
    rw [r11, ← r3, r19, r20, z0, ← (e_val hb _ _ _).1]
    generalize fTa_joined tb 3 (vX_step_7 tb lo pp po df st pz sp li tq le am sd bn) (gX_takeSpeed_0_18 lo pz.toInt32 sp) = y
    by_cases h1 : fX_drives (vX_step_2 lo pp po df st pz sp li) = 0 <;> by_cases h2 : vX_step_3 lo pp po df st pz sp li = 0 <;> by_cases h3 : vX_step_6 lo pp po df st pz sp li tq le tb am sd bn = 0 <;> by_cases h4 : gX_takeSpeed_0_18 lo pz.toInt32 sp ≤ 1500 <;> simp only [if_pos, if_neg, h1, h2, h3, h4, i01, not_false_eq_true, reduceIte]
  refine ⟨r0.1.symm, r1.symm, r2.symm, r3, r17.symm, r18.symm, r19.symm, r20.symm, r21.symm, hb, hbn, hcy, r0.2.1, fun q => (r0.2.2 q).2, fun q => htm (r0.2.2 q).1, s19, ⟨k, hk, ek⟩, ⟨q, hq, eq⟩, ?_⟩
  unfold vX_step_4 gX_chooseWanted_5_1
  split
  · rw [Int32.toInt_zero]; omega
  · split
    · exact ⟨i3, i4⟩
    · rw [Int32.toInt_zero]; omega
