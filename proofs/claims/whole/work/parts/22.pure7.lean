-- what stays true, call by call
theorem iv_up {n : Nat} {bn cy st df tm tq sp am sd : Int32} {tb : Nat → Int32} (I : inv_ n bn cy st df tm tq sp am sd tb) : inv_ (n + 1) bn cy st df tm tq sp am sd tb := by
  obtain ⟨a1, a2, a3, a4, a5, a6, a7, a8, a9, b1, b2⟩ := I
  exact ⟨a1, a2, a3, a4, a5, a6, a7, a8, a9, by omega, by omega⟩
theorem iv_table {n : Nat} {bn cy st df tm tq sp am sd ki px py : Int32} {tb : Nat → Int32} {pv : Int64} (I : inv_ n bn cy st df tm tq sp am sd tb) : inv_ (n + 1) bn cy st df tm tq sp am sd (gX_table_2 ki tb px py pv) := by
  obtain ⟨a1, a2⟩ := iv_up I
  refine ⟨?_, a2⟩
  rw [(e_table ki px py pv tb).2]
  unfold gZ_table_1
  split
  · exact a1
  split
  · split
    · exact a1
    split
    · exact a1
    split
    · exact a1
    split
    · exact a1
    split
    · exact a1
    split
    · rename_i h1 h2
      obtain ⟨v, hv, -, ev⟩ := iu_n (M := 1000) (by decide) h1 h2
      intro j
      unfold vZ_table_0
      by_cases h : j = (((64 * ki) + (8 * px)) + py).toNatClampNeg
      · rw [h, pk_us]; exact ⟨v, hv, ev⟩
      · rw [pk_un h]; exact a1 j
    · exact a1
  · exact a1
theorem iv_bound {n : Nat} {bn cy st df tm tq sp am sd : Int32} {tb : Nat → Int32} {pv : Int64} (I : inv_ n bn cy st df tm tq sp am sd tb) : inv_ (n + 1) (gX_bound_0_5 pv bn) cy st df tm tq sp am sd tb := by
  obtain ⟨a1, a2, a3⟩ := iv_up I
  refine ⟨a1, ?_, a3⟩
  rw [(e_bound pv bn).2]
  unfold gZ_bound_0_7
  split
  · exact a2
  split
  · rename_i h1 h2
    obtain ⟨v, hv, -, ev⟩ := iu_n (M := 1000) (by decide) h1 h2
    exact ⟨v, hv, ev⟩
  · exact a2
theorem iv_idle {n : Nat} {bn cy st df tm tq sp am sd : Int32} {tb : Nat → Int32} {pv : Int64} (I : inv_ n bn cy st df tm tq sp am sd tb) : inv_ (n + 1) bn cy st df tm tq sp (gX_idle_5_0 pv am) sd tb := by
  obtain ⟨a1, a2, a3, a4, a5, a6, a7, a8, a9, b1⟩ := iv_up I
  refine ⟨a1, a2, a3, a4, a5, a6, a7, a8, ?_, b1⟩
  rw [(e_idle pv am).2]
  unfold gZ_idle_0_6
  split
  · exact a9
  split
  · rename_i h1 h2
    obtain ⟨v, hv, -, ev⟩ := iu_n (M := 3000) (by decide) h1 h2
    exact ⟨v, hv, ev⟩
  · exact a9
theorem iv_cyl {n : Nat} {bn cy st df tm tq sp am sd p0 : Int32} {tb : Nat → Int32} (I : inv_ n bn cy st df tm tq sp am sd tb) : inv_ (n + 1) bn (gX_cylinder_0_6 p0 cy) st df tm tq sp am sd tb := by
  obtain ⟨a1, a2, a3, a4⟩ := iv_up I
  refine ⟨a1, a2, ?_, a4⟩
  unfold gX_cylinder_0_6
  split
  · exact a3
  split
  · rename_i h1 h2
    exact ⟨h1, h2⟩
  · exact a3
theorem iv_mon {n : Nat} {bn cy st df tm tq sp am sd wa tp : Int32} {tb : Nat → Int32} {p0 : Int64} (I : inv_ n bn cy st df tm tq sp am sd tb) : inv_ (n + 1) bn cy (gX_monitor_0_8 st p0 wa tp tm) df (gX_monitor_0_10 st p0 wa tp tm) tq sp am sd tb := by
  obtain ⟨a1, a2, a3, a4, a5, a6, a7⟩ := iv_up I
  obtain ⟨-, -, -, e4, e5⟩ := e_mon a4 a6 p0 wa tp
  exact ⟨a1, a2, a3, e4, fun q => a5 (e5 q).1, fun q => (e5 q).2, a7⟩
theorem iv_limp {n : Nat} {bn cy st df tm tq sp am sd on : Int32} {tb : Nat → Int32} (I : inv_ n bn cy st df tm tq sp am sd tb) : inv_ (n + 1) bn cy (vX_limp_3 on st) (vX_limp_4 on df) (vX_limp_5 on tm) tq sp am sd tb := by
  obtain ⟨a1, a2, a3, a4, a5, a6, a7⟩ := iv_up I
  unfold vX_limp_3 vX_limp_4 vX_limp_5
  by_cases h : on = 0
  · rw [if_pos h, if_pos h, if_pos h]
    exact ⟨a1, a2, a3, Or.inl rfl, fun _ => ⟨0, by decide, rfl⟩, fun _ => ⟨0, by decide, rfl⟩, a7⟩
  · rw [if_neg h, if_neg h, if_neg h]
    exact ⟨a1, a2, a3, a4, a5, a6, a7⟩
theorem wr_0 (le zr zd : Nat → Int32) : wr_ (vWi_clear_4 le) zr zd 0 :=
  ⟨0, by decide, rfl, fun k hk => absurd hk (Nat.not_lt_zero k), rfl, rfl, rfl, rfl, rfl⟩
