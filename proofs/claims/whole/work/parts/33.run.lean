-- a static call of a method that has a table; the two periods agree
section run
variable {p : Program} {l : Launch} {e : Env} {R : Room} {s : State} {m : MethodId} {args : Array Value} {below : List Frame} {meth : Method} {c : Code} {H : Heap} {locs : List Loc} {cells slots : Nat} {Q : State → Prop}
theorem xs_run {own : String} {y : MethodName} {bytes cc : ByteArray} {maxL nL mc ms n index : Nat} {ret : Option FieldType} {hh : List (Nat × Nat × Nat × Nat)} {rm : Room} {Pc : Array Value → State → Prop} {Qc : Array Value → State → Outcome → State → Prop} {free : Addr → Prop} {As rest : List Value} {g : JFrame}
    (S : CallFix p m c cc nL s args wA_ own) (hM : Met l y (Cond.codeWith y bytes maxL ret hh :: wA_) rm Pc Qc mc ms free) (hcw : Cond.codeWith y bytes maxL ret hh ∈ wA_) (hlink : Cond.methodLink own index y ∈ wA_) (hst : Cond.static y ∈ wA_) (hini : Cond.initialized y.cls ∈ wA_) (hrc : rm.cells = mc) (hrs : rm.slots = ms)
    (hd : y.cls ≠ "java/lang/invoke/MethodHandle" ∧ y.cls ≠ "java/lang/invoke/VarHandle" ∧ (parseMethodDescriptor y.desc).map (fun d => d.parameters.length) = some n) (hR : rm.frames + 1 ≤ R.frames ∧ 8 + (maxL + 11) + rm.locals ≤ R.locals) (hp : PreS s H Pc As)
    (hg : g.method = m) (hn : As.length = n) (hsize : g.locals.size = nL) (hstack : g.stack = As.reverse ++ rest) (hW : 2 * g.monitorRoom + (rest.map fun v => v.category).sum ≤ 8) (hdg : decode cc g.pc = .ok (.invokestatic index, 3)) (hf : cells + mc ≤ R.cells ∧ slots + ms ≤ R.slots) :
    va_Run p l e R s m args below meth c H locs cells slots mc ms g rest (Qc As.toArray) free := by
  obtain ⟨hx, hb, hml, ho, hts⟩ := S
  have hG : GoodIn wA_ (Cond.codeWith y bytes maxL ret hh :: wA_) := by
    intro w h9
    rcases List.mem_cons.mp h9 with rfl | h9
    · exact gA_ hcw
    · exact gA_ h9
  have hK : Back l R p e below s args y 3 8 (PreOf R mc ms Pc) (PostOf Qc mc ms free) := va_backW (hh := hh) (bytes := bytes) (maxL := maxL) (ret := ret) hM hp.1 hrc hrs hR.1 hR.2 (pay_in hts hG) List.mem_cons_self (fun a' U hW => word_at hW (gA_ hini).2 (hts _ hini))
  obtain ⟨mk, methM, cM, hnamed, hmethM, -, -, -, -, -, -, hsigM⟩ := Cond.codeWith_spec (hts _ hcw)
  have hstatic : methM.isStatic = true := Cond.static_spec hnamed hmethM (hts _ hst)
  obtain ⟨kP, hkP, -⟩ := className_of_methodNamed hnamed
  have hinitP : kP.init = .initialized := Cond.initialized_spec (findClass_of_methodNamed hnamed) hkP (hts _ hini)
  have hlen : As.length = methM.sig.parameters.length := by
    have h2 := hd.2.2
    rw [hsigM] at h2
    exact hn.trans (Option.some.inj h2).symm
  have hdg' : decode c.code g.pc = .ok (.invokestatic index, 3) := by rw [hb]; exact hdg
  intro T hT X
  obtain ⟨vm₁, X₁, hstep₁⟩ := X.invokestatic hx ho (hts _ hlink) hnamed hmethM hstatic hkP hinitP ⟨hd.1, hd.2.1⟩ (g := g) hg (argsL := As) (rest := rest) hlen hstack hdg'
  obtain ⟨v, ⟨U', l2, c2, s2⟩, X', ⟨g', mk', t, L, e1, e2, hq, h1, hL, h2, h3⟩, hsteps⟩ := hK m meth c ⟨T.setVm vm₁, locs, cells, slots⟩ { g with stack := rest } (.invokestatic index) mk As.toArray X₁ hg (hsize.trans hml.symm) hdg' hW (X₁.named hnamed) ⟨hf.1, hf.2, hp.2 (T.setVm vm₁) hT X₁.warmed⟩
  dsimp only [Pt.U, Pt.locs, Pt.cells, Pt.slots] at X' e1 e2 h1 h2 h3 hsteps
  subst h1; subst h2; subst h3
  exact ⟨v, (T.setVm vm₁).calling g' mk' As.toArray, t, U', L, hT, X', hL, e1, e2, hq, fun target h => hstep₁ _ fun acts => by rw [doInvoke_state]; exact hsteps.trans h⟩
end run
theorem e_period {cy : Int32} (hc : ¬ cy < 1 ∧ cy ≤ 12) (pv : Int64) (ou : Nat → Int64) : gZ_period_0_0 pv = fL_period pv cy ∧ (fL_period pv cy = 0 → gL_period pv cy ou (0 : Int32).toNatClampNeg = fZ_period pv cy) := by
  have up : ∀ v : Int64, vp_updL ou (0 : Int32).toNatClampNeg v (0 : Int32).toNatClampNeg = v := fun v => by simp [vp_updL]
  unfold gZ_period_0_0 fL_period gL_period fZ_period fX_period
  by_cases h1 : lg_cmp pv 0 < 0
  · have hu := iu_f1 (M := 10000) h1
    rw [if_pos h1, if_pos h1, if_pos (Or.inl hu), if_pos (Or.inl hu), if_pos hu]
    exact ⟨rfl, fun _ => up _⟩
  by_cases h2 : lg_cmp pv 10000 ≤ 0
  · have hu := iu_t (M := 10000) h1 h2
    have hu0 : ¬ fX_isUpTo pv 10000 = 0 := by rw [hu]; exact i01
    rw [if_neg h1, if_neg h1, if_pos h2, if_pos h2, if_neg hu0, ite_self]
    by_cases h3 : lg_cmp pv 0 = 0
    · have hv : vZ_period_0 pv = 1 := if_pos h3
      have h0 : lg_cmp (pv * cy.toInt64) 0 = 0 := (lg_cmp_eq _ _).mpr (by rw [(lg_cmp_eq _ _).mp h3]; exact Int64.zero_mul)
      have hn : ¬ (fX_isUpTo pv 10000 = 0 ∨ ¬ lg_cmp (pv * cy.toInt64) 0 = 0) := fun h => h.elim hu0 (fun q => q h0)
      rw [if_neg hn, hv]
      exact ⟨rfl, fun h => absurd h i01⟩
    · have hv : vZ_period_0 pv = 0 := if_neg h3
      have hv0 : vZ_period_0 pv ≤ 0 := by rw [hv]; decide
      have hne : ¬ lg_cmp (pv * cy.toInt64) 0 = 0 := fun h => pz_ne hc h1 h2 hv0 ((lg_cmp_eq _ _).mp h)
      rw [if_pos (Or.inr hne), if_pos (Or.inr hne), if_pos hv0, hv]
      exact ⟨rfl, fun _ => up _⟩
  · have hu := iu_f2 (M := 10000) h1 h2
    rw [if_neg h1, if_neg h1, if_neg h2, if_neg h2, if_pos (Or.inl hu), if_pos (Or.inl hu), if_pos hu]
    exact ⟨rfl, fun _ => up _⟩
def vL9_0 (xs : Nat → Int32) (ix : Int32) : Int64 := ((((xs (ix + 1).toNatClampNeg).toInt64) <<< ((32 : Int32).toInt64 &&& 63)) ||| (((xs (ix + 2).toNatClampNeg).toInt64) &&& 4294967295))
