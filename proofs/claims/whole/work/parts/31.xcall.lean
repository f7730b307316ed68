-- a callee throws; the caller's one handler takes it
section xcall
variable {p : Program} {l : Launch} {e : Env} {R : Room} {s : State} {m : MethodId} {args : Array Value} {below : List Frame} {meth : Method} {c : Code} {T : State} {H : Heap} {locs : List Loc} {cells slots : Nat} {Q : State → Prop}
/-- the search in a table of one row, whose class may have to be linked first -/
theorem xc_find {S : State} {f : JFrame} {a : Addr} {meth : Method} {code : Code} (hm : S.vm.method? f.method = some meth) (hc : meth.code = some code) {x : ExceptionTableEntry} (hsplit : code.exceptionTable.toList = [x]) (hx : covers x f.pc = true) (h0 : x.catchType ≠ 0) {cT : ClassId} {cell : Cell}
    (hl : S.vm.ClassLinks e.platform f.method.cls x.catchType cT) (hcell : S.heap[a]? = some cell) (hobj : ∀ k, cell.vm ≠ .statics k) (hk : ∃ k, S.vm.classes[cell.cls]? = some k) (hcl : ∃ k, S.vm.classes[cT]? = some k) (hfit : S.vm.assignable cell.cls cT = true) (Q : Handler → Pre) (E : CtlPost) (d : Bool) (acts : List Action) :
    wp (findHandler f a) Q E e d acts S ↔ Q (.found x.handlerPc) d acts (S.setVm (S.vm.noted f.method.cls x.catchType (.cls cT))) := by
  rw [Jvm.W.findHandler_eq hm hc, hsplit]
  simp only [covers] at hx
  obtain ⟨ha, ht⟩ := (resolveClass_links e.toSetting hl).op (op := VmOp.resolveClass f.method.cls x.catchType) rfl
  have hal : S.vm.Alike (S.vm.noted f.method.cls x.catchType (.cls cT)) := (Vm.Alike.refl S.vm).noted _ _ _
  obtain ⟨k1, hk1⟩ := hk
  obtain ⟨k2, hk2⟩ := hcl
  obtain ⟨k3, hk3, -⟩ := hal.2.2 _ _ hk1
  obtain ⟨k4, hk4, -⟩ := hal.2.2 _ _ hk2
  have hfit2 : (S.vm.noted f.method.cls x.catchType (.cls cT)).assignable cell.cls cT = true := by rw [hal.assignable]; exact hfit
  simp [findHandler.go, hx, h0, ha, ht, hcell, hobj, hk3, hk4, hfit2, VmOp.dirties, VmOp.acts]
theorem xc_go {S : State} {a : Addr} {f : JFrame} {r : List Frame} {pc : Nat} {vm2 : Vm} (hfind : ∀ (Q : Handler → Pre) (E : CtlPost) (d : Bool) (acts : List Action), wp (findHandler f a) Q E e d acts S ↔ Q (.found pc) d acts (S.setVm vm2)) :
    (stepThrowing e S a (.java f :: r)).1 = (S.setVm vm2).setFrames (.java { f with pc := pc, stack := [.ref a] } :: r) := by
  simp only [stepThrowing, searchFrame, vmDo]
  generalize hr : Sem.go _ e false [] S = res
  obtain ⟨as, rfl, ha⟩ := Sem.eq_ok_of hr (a := Handler.found pc) (s' := S.setVm vm2) (acts' := []) (by simp [hfind _ _ _ _])
  rfl
/-- from the note 'thrown' over the frame g to the handler -/
theorem xc_catch (X : Stand p l e R s m args below meth c T locs cells slots) (a : Addr) {g : JFrame} (hg : g.method = m) {own : String} (hown : s.vm.findClass own = some m.cls) {x : ExceptionTableEntry} (hsplit : c.exceptionTable.toList = [x]) (hx : covers x g.pc = true) (h0 : x.catchType ≠ 0)
    (hlink : (Cond.classLink own x.catchType nP_).before args s = true) {cell : Cell} (hcT : s.vm.findClass nP_ = some cell.cls) (hcell : T.heap[a]? = some cell) (hobj : cell.vm = .none) (hfit : s.vm.assignable cell.cls cell.cls = true) :
    ∃ vm2, Stand p l e R s m args below meth c (T.setVm vm2) locs cells slots ∧ ∀ target, Steps p.tables e below ((T.setVm vm2).setTop { g with pc := x.handlerPc, stack := [.ref a] }) target → Steps p.tables e below ((T.setTop g).pushFrame (.throwing a)) target := by
  have hpl : e.platform.magicAccessors = ({} : Platform).magicAccessors := by rw [X.admits.platform]
  obtain ⟨c2, hc2, hcl⟩ := Cond.classLink_spec hown hlink e.platform hpl
  cases hcT.symm.trans hc2
  obtain ⟨dk, _, _, kt, hd, _, _, _, _, hkt, _, hopen⟩ := hcl.here
  have hcl0 := X.warmed.classLinks hcl
  have hW2 : s.WarmedH (T.vm.noted m.cls x.catchType (.cls cell.cls)) := X.warmed.noted hd hopen (State.rightAt_cls hcl)
  have hal := X.warmed.alike
  obtain ⟨kt2, hkt2, -⟩ := hal.2.2 _ _ hkt
  have hfit2 : T.vm.assignable cell.cls cell.cls = true := by rw [hal.assignable]; exact hfit
  refine ⟨_, X.noted hW2, fun target hrest => ?_⟩
  subst hg
  have h : At T g.method c below := X.here
  obtain ⟨hgo, hw⟩ := h.throwing a
  refine Steps.head hgo hw ?_
  rw [stepThread_throwing (frames_entered h.top _), xc_go (S := (T.setTop g).pushFrame (.throwing a)) (xc_find (S := (T.setTop g).pushFrame (.throwing a)) (f := g) (a := a) (meth := meth) (code := c) X.method' X.code hsplit hx h0 (cT := cell.cls) (cell := cell) hcl0 hcell (fun k h => by rw [hobj] at h; cases h) ⟨kt2, hkt2⟩ ⟨kt2, hkt2⟩ hfit2)]
  obtain ⟨g0, hg0⟩ := Option.isSome_iff_exists.mp h.top
  obtain ⟨r, hr⟩ := State.topJava?_eq_some.mp hg0
  have hr2 : (T.setVm (T.vm.noted g.method.cls x.catchType (.cls cell.cls))).frames = .java g0 :: r := hr
  rw [State.setTop_of_frames _ hr2] at hrest
  have e1 : ∀ (u : State) (v : Vm) (F F2 : List Frame), ((u.setFrames F).setVm v).setFrames F2 = (u.setVm v).setFrames F2 := fun u v F F2 => by
    have h1 : (u.setFrames F).setVm v = (u.setVm v).setFrames F := rfl
    rw [h1, State.setFrames_setFrames]
  rw [hr, List.tail_cons, State.pushFrame, e1, State.setTop_of_frames _ hr, e1]
  exact hrest
set_option maxHeartbeats 1000000 in
/-- a call whose callee throws (xt_Q), caught by the caller's one row: the walk goes on at the handler; nothing that was there has changed -/
theorem xt_call {y : MethodName} {bytes cc : ByteArray} {maxL nL n index : Nat} {ret : Option FieldType} {ws : List Cond} {rm : Room} {Pc : Array Value → State → Prop} {Ts : List Cond} {own C : String} {b : Addr} {As rest : List Value} {g : JFrame}
    (S : CallFix p m c cc nL s args Ts own) (hM : MetFree l y (headSpec ws rm) Pc (fun _ _ _ _ _ => True) xt_Q) (cw : CallW R s args own C index y bytes maxL ret ws rm 1 6 n) (hp : PreV s H C b Pc As)
    (hg : g.method = m) (hn : As.length = n) (hsize : g.locals.size = nL) (hstack : g.stack = As.reverse ++ .ref b :: rest) (hW : 2 * g.monitorRoom + (rest.map fun v => v.category).sum ≤ 8) (hdg : decode cc g.pc = .ok (.invokevirtual index, 3)) (hf : cells + 1 ≤ R.cells ∧ slots + 6 ≤ R.slots)
    {x : ExceptionTableEntry} (hsplit : c.exceptionTable.toList = [x]) (hx : covers x g.pc = true) (h0 : x.catchType ≠ 0) (hlinkE : (Cond.classLink own x.catchType nP_).before args s = true) (hcast : (Cond.castable nP_ nP_).before args s = true)
    (kk : ∀ (H1 : Heap) (q : Addr), H.size ≤ H1.size → (∀ i : Nat, i < H.size → H1[i]? = H[i]?) → W p l e R s m args below meth c H1 locs (cells + 1) (slots + 6) Q { g with pc := x.handlerPc, stack := [.ref q] }) : W p l e R s m args below meth c H locs cells slots Q g := by
  intro T hT X
  obtain ⟨⟨hrc, hrs, hfr, hlo, hws, hcw, hcode, hini, hy, hlen, hl⟩, hin, hse⟩ := cw
  obtain ⟨hxe, hb, hml, ho, -⟩ := S
  obtain ⟨hblind, ⟨cellB, hcB, hoB, hclB⟩, hPc⟩ := hp
  obtain ⟨mk, methM, hnamed, hmethM, hstM, habM⟩ := Cond.instanceMethod_spec hin
  obtain ⟨methM', cM, hmethM', -, -, -, -, -, -, hsigM⟩ := Cond.code_spec hnamed hcode
  cases hmethM.symm.trans hmethM'
  obtain ⟨c2, r2, m2, q1, q2, q3, q4, kP, hkP, hkPi⟩ := Cond.selects_spec hse
  cases hclB.symm.trans q1
  cases (State.methodFound?_of_named hnamed hy).symm.trans q2
  cases hnamed.symm.trans q3
  have hselP : selectMethod e.platform s.vm cellB.cls mk = .method mk := by rw [Launch.admits_selectMethod X.admits]; exact q4
  have hdg' : decode c.code g.pc = .ok (.invokevirtual index, 3) := by rw [hb]; exact hdg
  obtain ⟨vm1, X1, hstep1⟩ := X.invokevirtual hxe ho hl hnamed hmethM hstM hkP hkPi hy (a := b) (cell := cellB) (by rw [hT]; exact hcB)
    (fun z h => by rw [h] at hoB; cases hoB) hselP hmethM habM hkP hkPi (g := g) hg (argsL := As) (rest := rest) (hn.trans (hlen _ hsigM)) hstack hdg'
  obtain ⟨av, hav⟩ : ∃ av, av = (Value.ref b :: As).toArray := ⟨_, rfl⟩
  rw [← hav] at hstep1 hPc
  obtain ⟨U, hU⟩ : ∃ U, U = T.setVm vm1 := ⟨_, rfl⟩
  rw [← hU] at X1 hstep1
  obtain ⟨g1, hg1⟩ : ∃ g1 : JFrame, g1 = { g with stack := rest } := ⟨_, rfl⟩
  have g1m : g1.method = m := by rw [hg1]; exact hg
  have g1pc : g1.pc = g.pc := by rw [hg1]
  have g1s : g1.locals.size = c.maxLocals := by rw [hg1]; exact hsize.trans hml.symm
  have hW1 : s.WarmedH U.vm := X1.warmed
  have hHU : U.heap = H := by rw [hU]; exact hT
  have w1 : (headSpec ws rm).pre.before av U = true := atoms_intro fun w hw => hws w hw _ _ hW1
  have w2 : (Cond.code y bytes maxL ret).before av U = true := hws _ hcw _ _ hW1
  have w3 : (Cond.initialized y.cls).before av U = true := word_at hW1 (Or.inl (by first | rfl | simp [Cond.onTables, Cond.keeps, Cond.steady])) hini
  have hnU : U.methodNamed? y = some mk := X1.named hnamed
  obtain ⟨methY, cY, hmY, hcY, -, hlY, -, -, -, -⟩ := Cond.code_spec hnU w2
  obtain ⟨kY, hkY, -⟩ := className_of_methodNamed hnU
  have hinitY : kY.init = .initialized := Cond.initialized_spec (findClass_of_methodNamed hnU) hkY w3
  have hAt : At U g1.method c below := by rw [g1m]; exact X1.here
  have hW9 : 2 * g1.monitorRoom + (g1.stack.map fun v => v.category).sum ≤ 8 := by rw [hg1]; exact hW
  have happ : (headSpec ws rm).appliesLoose y e.platform (U.calling g1 mk av) = true :=
    Spec.appliesLoose_calling (g := g1) hAt (by rw [g1pc]; exact hdg') hnU hkY hinitY
      (X1.room_calling (g := g1) (R' := (headSpec ws rm).room) g1s hmY hcY hfr (by have hlr : (headSpec ws rm).room.locals = rm.locals := rfl; rw [hlr]; omega) (by rw [show (headSpec ws rm).room.cells = 1 from hrc]; exact hf.1) (by rw [show (headSpec ws rm).room.slots = 6 from hrs]; exact hf.2)) w1
  obtain ⟨mid, hmid⟩ := hAt.above
  have hfrm : (U.setTop g1).frames = (.java g1 :: mid) ++ below := by rw [State.frames_setTop' g1 hAt.top, hmid]; rfl
  obtain ⟨o, s2, hsteps, -, hend, hq⟩ := Steps.callFree hM p X1.admits X1.cas X1.clock (acts := []) hfrm happ (hblind _ _ _ _ (hPc U hHU hW1)) trivial
  have hq : xt_Q av (U.calling g1 mk av) o s2 := hq
  rw [State.frames_setTop' g1 hAt.top] at hend
  obtain ⟨q, ce, rfl, hce, hcv, hcl, hW2, hsm⟩ := hq
  obtain ⟨e2, k2, k3, k4, k5, k6⟩ := id hsm
  have e3 : s2 = ({ (U.calling g1 mk av).setFrames s2.frames with heap := s2.heap, slotsUsed := s2.slotsUsed } : State).setVm s2.vm := by
    have : s2 = ({ s2 with vm := (U.calling g1 mk av).vm } : State).setVm s2.vm := rfl
    rw [e2] at this
    exact this
  have hf2 : s2.frames = .throwing q :: .java g1 :: U.frames.tail := hend
  have hWu : U.WarmedH s2.vm := hW2
  obtain ⟨g0, hg0⟩ := Option.isSome_iff_exists.mp hAt.top
  obtain ⟨r, hr⟩ := State.topJava?_eq_some.mp hg0
  have hr2 : (({ U with heap := s2.heap, slotsUsed := s2.slotsUsed } : State).setVm s2.vm).frames = .java g0 :: r := hr
  have hs2 : s2 = ((({ U with heap := s2.heap, slotsUsed := s2.slotsUsed } : State).setVm s2.vm).setTop g1).pushFrame (.throwing q) := by
    refine e3.trans ?_
    rw [hf2, State.calling_eq hAt.top, State.setFrames_setFrames, State.pushFrame, State.frames_setTop _ hr2, State.setTop_of_frames _ hr2, State.setFrames_setFrames, hr]
    rfl
  have hsame : U.sameButNew ({ U with heap := s2.heap, slotsUsed := s2.slotsUsed } : State) [] 1 6 := by
    refine ⟨?_, k2, k3, k4, k5, k6⟩
    obtain ⟨t, ht, -⟩ := State.frames_cons hr
    show ({ U with heap := s2.heap, slotsUsed := s2.slotsUsed } : State) = { U.setFrames U.frames with heap := s2.heap, slotsUsed := s2.slotsUsed }
    rw [State.setFrames_self ht]
  have XB : Stand p l e R s m args below meth c (({ U with heap := s2.heap, slotsUsed := s2.slotsUsed } : State).setVm s2.vm) (locs ++ []) (cells + 1) (slots + 6) :=
    ⟨X1.admits, X1.cas, X1.clock, X1.frames, X1.room, X1.hears, X1.method, X1.code, (X1.here.setHeapUsed s2.heap s2.slotsUsed).setVm hWu.alike, X1.tail, State.WarmedH.trans X1.warmed hWu, X1.limits, X1.bytes, X1.same.trans (hsame.setVm s.vm)⟩
  rw [List.append_nil] at XB
  have hcls : s.vm.findClass nP_ = some ce.cls := by
    have h9 : U.vm.findClass nP_ = some ce.cls := hcl
    rw [hW1.alike.findClass] at h9
    exact h9
  have hfit : s.vm.assignable ce.cls ce.cls = true := by
    obtain ⟨c3, c4, hc3, hc4, hasg⟩ := Cond.castable_spec hcast
    cases hc3.symm.trans hcls
    cases hc4.symm.trans hcls
    exact hasg
  obtain ⟨vm2, XC, hcat⟩ := xc_catch XB q (g := g1) g1m ho hsplit (by rw [g1pc]; exact hx) h0 hlinkE hcls hce hcv hfit
  have hsz : H.size ≤ s2.heap.size := by rw [← hHU]; exact k2
  have hold : ∀ i : Nat, i < H.size → s2.heap[i]? = H[i]? := by
    intro i hi
    rw [← hHU] at hi ⊢
    obtain ⟨c9, f1, f2, f3, f4⟩ := k6 i _ (Array.getElem?_eq_getElem hi)
    have hsl : c9.slots = (U.heap[i]).slots := Array.ext_getElem? fun j => f4 j fun hm => nomatch hm
    have h9 : c9 = U.heap[i] := by
      rw [hsl] at f2
      exact f2
    have f5 : s2.heap[i]? = some c9 := f1
    rw [f5, h9, Array.getElem?_eq_getElem hi]
  obtain ⟨t, a1, b1⟩ := kk s2.heap q hsz hold ((({ U with heap := s2.heap, slotsUsed := s2.slotsUsed } : State).setVm s2.vm).setVm vm2) rfl XC
  refine ⟨t, hstep1 _ fun acts => ?_, b1⟩
  rw [doInvoke_state]
  have a2 : Steps p.tables e below s2 t := by
    rw [hs2]
    refine hcat t ?_
    rw [hg1]
    exact a1
  rw [hg1] at hsteps
  exact hsteps.trans a2
end xcall
