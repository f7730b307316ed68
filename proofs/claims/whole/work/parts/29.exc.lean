-- a method that throws: what a throw asks for, the throw itself, the call that throws and is caught
def nP_ : String := "java/lang/ArithmeticException"
def xn_ : List String := ["java/lang/RuntimeException", "java/lang/Exception"]
/-- one of Throwable's statics stands in its cell, outside A, and holds a reference or null -/
def so_ (n d : String) (A : Nat → Prop) (U : State) (H : Heap) : Prop := ∃ (c : ClassId) (k : Class) (i : Nat) (f : Field) (a : Nat) (cell : Cell) (v : Value), U.vm.findClass Bundle.tN = some c ∧ U.fieldFound? Bundle.tN n d = some (c, k, i, f) ∧ f.isStatic = true ∧ k.statics = some a ∧ H[a]? = some cell ∧ cell.vm.isStatics = true ∧ cell.cls = c ∧ f.slot < cell.slots.size ∧ k.staticTypes[f.slot]? = some f.type ∧ cell.slots[f.slot]? = some v ∧ v.isRef = true ∧ ¬ A a
theorem so_of {args : Array Value} {s : State} {n d : String} {A : Nat → Prop} (hl : (Cond.laysStatic Bundle.tN n d).before args s = true) (hr : (Cond.isRef (.static Bundle.tN n d)).before args s = true) (hA : ∀ a : Nat, a < s.heap.size → ¬ A a) : so_ n d A s s.heap := by
  obtain ⟨c, k, i, f, a, cell, hc, hi, hst, ha, hcell, hs, hcls, hlt, hty⟩ := Cond.laysStatic_spec hl
  cases hv : (Term.static Bundle.tN n d).eval args s none [] s with
  | none => simp [Cond.before, Cond.holds, Cond.value, hv] at hr
  | some w =>
    obtain ⟨-, a', cell', ha', hcell', -, hslot⟩ := Term.static_spec hi hv
    cases ha.symm.trans ha'
    cases hcell.symm.trans hcell'
    refine ⟨c, k, i, f, a, cell, w, hc, hi, hst, ha, hcell, hs, hcls, hlt, hty, hslot, ?_, hA a (Array.getElem?_eq_some_iff.mp hcell).1⟩
    simp only [Cond.before, Cond.holds, Cond.value, hv] at hr
    cases w <;> simp_all [Value.isRef]
theorem so_mv {n d : String} {A : Nat → Prop} {u U : State} {H : Heap} (hvm : u.vm.Alike U.vm) (h : so_ n d A u H) : so_ n d A U H := by
  obtain ⟨c, k, i, f, a, cell, v, h1, h2, h3, h4, h5, h6, h7, h8, h9, h10⟩ := h
  obtain ⟨k', hi', he⟩ := State.fieldFound?_setVm hvm h2
  exact ⟨c, k', i, f, a, cell, v, by rw [hvm.findClass]; exact h1, hi', h3, by rw [he]; exact h4, h5, h6, h7, h8, by rw [he]; exact h9, h10⟩
theorem so_kp {n d : String} {A : Nat → Prop} {U : State} {H H1 : Heap} (hq : ∀ a : Nat, a < H.size → ¬ A a → H1[a]? = H[a]?) (h : so_ n d A U H) : so_ n d A U H1 := by
  obtain ⟨c, k, i, f, a, cell, v, h1, h2, h3, h4, h5, h6, h7, h8, h9, h10, h11, h12⟩ := h
  exact ⟨c, k, i, f, a, cell, v, h1, h2, h3, h4, by rw [hq a (Array.getElem?_eq_some_iff.mp h5).1 h12]; exact h5, h6, h7, h8, h9, h10, h11, h12⟩
theorem so_nr {n d : String} {A B : Nat → Prop} {U : State} {H : Heap} (hAB : ∀ q, B q → A q) (h : so_ n d A U H) : so_ n d B U H := by
  obtain ⟨c, k, i, f, a, cell, v, h1, h2, h3, h4, h5, h6, h7, h8, h9, h10, h11, h12⟩ := h
  exact ⟨c, k, i, f, a, cell, v, h1, h2, h3, h4, h5, h6, h7, h8, h9, h10, h11, fun q => h12 (hAB a q)⟩
theorem so_w1 {n d : String} {A : Nat → Prop} {s : State} {args : Array Value} (h : so_ n d A s s.heap) : (Cond.laysStatic Bundle.tN n d).before args s = true := by
  obtain ⟨c, k, i, f, a, cell, v, h1, h2, h3, h4, h5, h6, h7, h8, h9, -⟩ := h
  exact Cond.laysStatic_of h1 h2 h3 h4 h5 h6 h7 h8 h9
theorem so_w2 {n d : String} {A : Nat → Prop} {s : State} {args : Array Value} (h : so_ n d A s s.heap) : (Cond.isRef (.static Bundle.tN n d)).before args s = true := by
  obtain ⟨c, k, i, f, a, cell, v, h1, h2, h3, h4, h5, h6, h7, h8, h9, h10, h11, -⟩ := h
  have he : (Term.static Bundle.tN n d).eval args s none [] s = some v := by
    simp [Term.eval, State.fieldNamed?, h2, h3, h4, h5, h6, h10]
  simp only [Cond.before, Cond.holds, Cond.value, he]
  cases v <;> simp_all [Value.isRef]
/-- words that warming keeps, but by laws of their own -/
def xd_ : List Cond := [.declares ⟨"java/lang/RuntimeException", "<init>", "(Ljava/lang/String;)V"⟩, .declares ⟨"java/lang/Exception", "<init>", "(Ljava/lang/String;)V"⟩, .declares ⟨"java/lang/Throwable", "<init>", "(Ljava/lang/String;)V"⟩, .castable nP_ nP_]
def xe_ (U : State) : Prop := ∀ w ∈ xd_, va_Nw w U
theorem xe_in : ∀ w ∈ xd_, w ∈ lw_tbl := by decide +kernel
theorem xe_of {args : Array Value} {s : State} (h : ∀ w ∈ lw_tbl, w.before args s = true) : xe_ s := by
  intro w hw
  have h1 := h w (xe_in w hw)
  simp only [xd_, List.mem_cons, List.not_mem_nil, or_false] at hw
  rcases hw with rfl | rfl | rfl | rfl
  · exact va_Nw.of rfl h1
  · exact va_Nw.of rfl h1
  · exact va_Nw.of rfl h1
  · exact va_Nw.of rfl h1
theorem xe_same {u U : State} (hv : u.vm = U.vm) (h : xe_ u) : xe_ U := by
  intro w hw
  have h1 := h w hw
  simp only [xd_, List.mem_cons, List.not_mem_nil, or_false] at hw
  rcases hw with rfl | rfl | rfl | rfl
  · exact va_Nw.same rfl hv h1
  · exact va_Nw.same rfl hv h1
  · exact va_Nw.same rfl hv h1
  · exact va_Nw.same rfl hv h1
theorem ca_warm {a b : String} {s U : State} (hW : s.WarmedH U.vm) (h : va_Nw (.castable a b) s) : va_Nw (.castable a b) U := by
  obtain ⟨c3, c4, h3, h4, h5⟩ := Cond.castable_spec h
  show (Cond.castable a b).before #[] U = true
  simp [Cond.before, Cond.holds, Cond.value, hW.alike.findClass, h3, h4, hW.alike.assignable, h5]
theorem xe_warm {s U : State} (hW : s.WarmedH U.vm) (h : xe_ s) : xe_ U := by
  intro w hw
  have h1 := h w hw
  simp only [xd_, List.mem_cons, List.not_mem_nil, or_false] at hw
  rcases hw with rfl | rfl | rfl | rfl
  · exact va_Nw.warmD hW h1
  · exact va_Nw.warmD hW h1
  · exact va_Nw.warmD hW h1
  · exact ca_warm hW h1
theorem xe_use {args : Array Value} {s : State} (h : xe_ s) : ∀ w ∈ xd_, w.before args s = true := by
  intro w hw
  have h1 := h w hw
  simp only [xd_, List.mem_cons, List.not_mem_nil, or_false] at hw
  rcases hw with rfl | rfl | rfl | rfl
  · exact va_Nw.use rfl h1
  · exact va_Nw.use rfl h1
  · exact va_Nw.use rfl h1
  · exact va_Nw.use rfl h1
/-- all that a throw of ours needs beside the words -/
def sx_ (A : Nat → Prop) (U : State) (H : Heap) : Prop := so_ "UNASSIGNED_STACK" Bundle.steD A U H ∧ so_ "SUPPRESSED_SENTINEL" Bundle.listD A U H ∧ xe_ U ∧ ∃ sa : Nat, vk_R "TorqueRows" 154 "no period at speed 0" sa U
theorem xo_ : ∀ w ∈ Bundle.ownAtoms "TorqueRows" 156 nP_ xn_, w ∈ wA_ ∨ w ∈ xd_ ∨ w = .isRef (.static Bundle.tN "UNASSIGNED_STACK" Bundle.steD) ∨ w = .isRef (.static Bundle.tN "SUPPRESSED_SENTINEL" Bundle.listD) ∨ w = .laysStatic Bundle.tN "UNASSIGNED_STACK" Bundle.steD ∨ w = .laysStatic Bundle.tN "SUPPRESSED_SENTINEL" Bundle.listD := by decide +kernel
theorem xw_ {args : Array Value} {s : State} {A : Nat → Prop} (hts : ∀ w ∈ wA_, w.before args s = true) (h : sx_ A s s.heap) : ∀ w ∈ Bundle.ownAtoms "TorqueRows" 156 nP_ xn_, w.before args s = true := by
  intro w hw
  rcases xo_ w hw with h1 | h1 | h1 | h1 | h1 | h1
  · exact hts w h1
  · exact xe_use h.2.2.1 w h1
  · rw [h1]; exact so_w2 h.1
  · rw [h1]; exact so_w2 h.2.1
  · rw [h1]; exact so_w1 h.1
  · rw [h1]; exact so_w1 h.2.1
abbrev prx_ (D : va_G) (ws : va_W) (tys : List (ClassId × FieldType)) (sz : Nat) (U : State) : Prop := pr_ D ws tys sz U ∧ sx_ (fun q => sz ≤ q ∨ ∃ (k : Nat) (e : va_E), ws[k]? = some (q, e)) U U.heap
theorem sx_mv {A : Nat → Prop} {u U : State} {H : Heap} (hW : u.WarmedH U.vm) (h : sx_ A u H) : sx_ A U H := by
  obtain ⟨h1, h2, h4, sa, h3⟩ := h
  exact ⟨so_mv hW.alike h1, so_mv hW.alike h2, xe_warm hW h4, sa, vk_R.warm hW h3⟩
theorem sx_kp {A : Nat → Prop} {U : State} {H H1 : Heap} (hq : ∀ a : Nat, a < H.size → ¬ A a → H1[a]? = H[a]?) (h : sx_ A U H) : sx_ A U H1 := ⟨so_kp hq h.1, so_kp hq h.2.1, h.2.2⟩
theorem sx_nr {A B : Nat → Prop} {U : State} {H : Heap} (hAB : ∀ q, B q → A q) (h : sx_ A U H) : sx_ B U H := ⟨so_nr hAB h.1, so_nr hAB h.2.1, h.2.2⟩
theorem fbx_ {av : List Value} {D : va_G} {ws : va_W} {tys : List (ClassId × FieldType)} {sz : Nat} : FrameBlind (va_Pc av (prx_ D ws tys sz)) := by
  intro a U g mk q
  obtain ⟨q0, q1, q2, q3, q5, sa, q4⟩ := q
  refine ⟨q0, (fb_ (av := av) a U g mk ⟨q0, q1⟩).2, ?_⟩
  exact ⟨so_mv (u := U) (U := U.calling g mk a) (Vm.Alike.refl U.vm) q2, so_mv (u := U) (U := U.calling g mk a) (Vm.Alike.refl U.vm) q3, xe_same (u := U) rfl q5, sa, vk_R.same (u := U) (U := U.calling g mk a) rfl q4⟩
theorem pux_ {s : State} {H : Heap} {D : va_G} {ws : va_W} {tys : List (ClassId × FieldType)} {A : Nat → Prop} {av : List Value} (hP : va_P D classes ws H) (hK : va_K D classes tys s) (hD : va_D A ws) (hN : nw_ s) (hX : sx_ (fun q => H.size ≤ q ∨ ∃ (k : Nat) (e : va_E), ws[k]? = some (q, e)) s H) : ∀ U : State, U.heap = H → s.WarmedH U.vm → va_Pc av (prx_ D ws tys H.size) av.toArray U :=
  fun U hU hW => ⟨rfl, (pu_ (av := av) hP hK hD hN U hU hW).2, by rw [hU]; exact sx_mv hW hX⟩
def xt_Q : Array Value → State → Outcome → State → Prop := fun _ st o t => ∃ (q : Addr) (ce : Cell), o = .threw q ∧ t.heap[q]? = some ce ∧ ce.vm = .none ∧ st.vm.findClass nP_ = some ce.cls ∧ st.WarmedH t.vm ∧ st.sameButNew ({ t with vm := st.vm } : State) [] 1 6
section exc
variable {p : Program} {l : Launch} {e : Env} {R : Room} {s : State} {m : MethodId} {args : Array Value} {below : List Frame} {meth : Method} {c : Code} {H : Heap} {locs : List Loc} {cells slots : Nat} {Q : State → Prop} {ls : Array Slot}
theorem mE_1 : (Cond.classLink R_X 152 nP_) ∈ wA_ := by decide +kernel
theorem mE_2 : (Cond.instantiable nP_ 6) ∈ wA_ := by decide +kernel
theorem mE_3 : (Cond.initialized nP_) ∈ wA_ := by decide +kernel
set_option maxHeartbeats 1000000 in
/-- TorqueRows.period from its 'new' on: it throws -/
theorem xt_throw (hx : p.tables.exec = Jvm.exec) (hb : c.code = b_X_period) (htr : e.platform.stackTraces = false) (hown : s.vm.findClass R_X = some m.cls) (hts : ∀ w ∈ wA_, w.before args s = true) {A : Nat → Prop} (hsx : sx_ A s s.heap) (hsize : ls.size = c.maxLocals) (hout : ∀ x ∈ c.exceptionTable.toList, False) (hf : 5 < R.frames) (hl : 82 ≤ R.locals) (hc1 : 0 + 1 ≤ R.cells) (hs1 : 0 + 6 ≤ R.slots) (hlocks : meth.locks = false) :
    W p l e R s m args below meth c H [] 0 0 (fun t => ∃ o, t.status = .running ∧ Ended t below o ∧ xt_Q args s o t) (F0 m 28 ls []) := by
  intro T hT X
  obtain ⟨sa, hsa⟩ := hsx.2.2.2
  have h := xw_ hts hsx
  obtain ⟨vm₁, cX, kX, hfX, hkX, -, -, X₁, st1⟩ := X.newCold hx (own := R_X) (C := nP_) (index := 152) (n := 6) hown (hts _ mE_1) (hts _ mE_2) (hts _ mE_3) (g := F0 m 28 ls []) rfl (by rw [hb]; exact d_X_period_28) hc1 hs1
  have hnew : s.heap.size ≤ T.heap.size := X.same.2.1
  generalize hT1 : (T.setVm vm₁).pushCell { cls := cX, slots := kX.instanceTypes.map defaultValue, vm := .none } = T1 at X₁ st1
  have hcat : (Value.ref T.heap.size).category = 1 := rfl
  have hcellA : T1.heap[T.heap.size]? = some (freshCell cX kX) := by rw [← hT1]; exact State.heap_pushCell_size _ _
  have d3' : decode c.code 31 = .ok (.dup, 1) := by rw [hb]; exact d_X_period_31
  have d4' : decode c.code 32 = .ok (.ldc 154, 2) := by rw [hb]; exact d_X_period_32
  obtain ⟨U, hsteps, hrun, hend, hW, hsame, ce, hce, hO⟩ := X₁.ctorThrowS hx htr (own := R_X) (cls := nP_) (names := xn_) (ic := 156) hown (by decide) (by decide) h (fun x hx => nomatch hx) hfX hkX hcellA hnew (msg := .ref sa) rfl
    (g := { method := m, pc := 34, locals := ls, stack := [.ref sa, .ref T.heap.size, .ref T.heap.size], locked := none }) rfl hsize rfl rfl (rest := []) rfl
    (by rw [hb]; exact d_X_period_34) (by rw [hb]; exact d_X_period_37) (fun x hx => (hout x hx).elim) hf (by simp only [List.map_cons, List.map_nil, List.sum_cons, List.sum_nil, hcat]; exact hl) hlocks
  refine ⟨U, ?_, .threw T.heap.size, hrun, hend, T.heap.size, ce, rfl, hce, hO.vm, hO.cls, hW, hsame⟩
  refine st1 _ ?_
  show Steps p.tables e below (T1.setTop { method := m, pc := 31, locals := ls, stack := [.ref T.heap.size], locked := none }) _
  jvm_step X₁.here [X₁.here.top, hx, d3', Value.category]
  exact X₁.ldcString hx (own := R_X) (text := "no period at speed 0") (index := 154) (a := sa) hown hsa.1 hsa.2
    (g := { method := m, pc := 32, locals := ls, stack := [.ref T.heap.size, .ref T.heap.size], locked := none }) rfl d4' _ hsteps
end exc
