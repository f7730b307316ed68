-- what all contracts share: words, worlds, calls, joins
def wA_ : List Cond := lw_tbl.filter goodWord
def isN_ : Cond → Bool
  | .fieldLinkNest .. => true
  | .methodLinkNest .. => true
  | _ => false
def nW_ : List Cond := lw_tbl.filter isN_
/-- the links to private members of nest mates hold in U -/
def nw_ (U : State) : Prop := ∀ w ∈ nW_, va_Nw w U
theorem nw_warm {s U : State} (hW : s.WarmedH U.vm) (h : nw_ s) : nw_ U := by
  intro w hw
  have h1 := h w hw
  have h2 := (List.mem_filter.mp hw).2
  cases w with
  | fieldLinkNest a i b n d h => exact va_Nw.warmF hW h1
  | methodLinkNest a i x h => exact va_Nw.warmM hW h1
  | _ => exact absurd h2 (by simp [isN_])
theorem nw_same {u U : State} (hv : u.vm = U.vm) (h : nw_ u) : nw_ U := by
  intro w hw
  have h1 := h w hw
  have h2 := (List.mem_filter.mp hw).2
  cases w with
  | fieldLinkNest a i b n d h => exact va_Nw.same rfl hv h1
  | methodLinkNest a i x h => exact va_Nw.same rfl hv h1
  | _ => exact absurd h2 (by simp [isN_])
theorem nw_of {args : Array Value} {s : State} (h : ∀ w ∈ lw_tbl, w.before args s = true) : nw_ s := by
  intro w hw
  have h1 := h w (List.mem_filter.mp hw).1
  have h2 := (List.mem_filter.mp hw).2
  cases w with
  | fieldLinkNest a i b n d h => exact va_Nw.of rfl h1
  | methodLinkNest a i x h => exact va_Nw.of rfl h1
  | _ => exact absurd h2 (by simp [isN_])
theorem wA_sub {w : Cond} (h : w ∈ wA_) : w ∈ lw_tbl := (List.mem_filter.mp h).1
abbrev pr_ (D : va_G) (ws : va_W) (tys : List (ClassId × FieldType)) (sz : Nat) (U : State) : Prop := U.heap.size = sz ∧ va_P D classes ws U.heap ∧ va_K D classes tys U ∧ va_D (fun _ => True) ws ∧ nw_ U
abbrev at_ (D : va_G) (A : Nat → Prop) (ws : va_W) (tys : List (ClassId × FieldType)) (t : State) : Prop := va_P D classes ws t.heap ∧ va_K D classes tys t ∧ va_D A ws
theorem fb_ {av : List Value} {D : va_G} {ws : va_W} {tys : List (ClassId × FieldType)} {sz : Nat} : FrameBlind (va_Pc av (pr_ D ws tys sz)) := by
  intro a U g mk q
  obtain ⟨q0, q1, qP, qK, qD, qN⟩ := q
  exact ⟨q0, q1, qP, va_K.moved (u := U) (U := U.calling g mk a) (Vm.Alike.refl U.vm) qK, qD, nw_same (u := U) rfl qN⟩
theorem pu_ {s : State} {H : Heap} {D : va_G} {ws : va_W} {tys : List (ClassId × FieldType)} {A : Nat → Prop} {av : List Value} (hP : va_P D classes ws H) (hK : va_K D classes tys s) (hD : va_D A ws) (hN : nw_ s) : ∀ U : State, U.heap = H → s.WarmedH U.vm → va_Pc av (pr_ D ws tys H.size) av.toArray U :=
  fun U hU hW => ⟨rfl, by rw [hU], by rw [hU]; exact hP, va_K.moved hW.alike hK, hD.weaken (fun _ _ _ _ => trivial), nw_warm hW hN⟩
theorem fm_ {α β : Type} {f : α → Option β} : ∀ (l : List α) (w : List β), l.map f = w.map some → l.filterMap f = w
  | [], [], _ => rfl
  | [], _ :: _, h => by simp at h
  | _ :: _, [], h => by simp at h
  | a :: l, b :: w, h => by
    simp only [List.map_cons, List.cons.injEq] at h
    simp [h.1, fm_ l w h.2]
/-- behind a call: the callee's world as it came back, the rest as it was, in an order that is given -/
theorem aft_ {A0 : Nat → Prop} {D : va_G} {ws wc wr w1 w2 : va_W} {tys : List (ClassId × FieldType)} {H H1 : Heap} {t : State} (hP : va_P D classes ws H) (hD : va_D A0 ws) (isC isR is2 : List Nat) (hC : isC.map (fun i => ws[i]?) = wc.map some) (hR : isR.map (fun i => ws[i]?) = wr.map some) (hn : va_nd isR = true) (hdis : ∀ i ∈ isR, i ∉ isC)
    (hk : ∀ q : Nat, q < H.size → ¬ va_A wc H.size q → H1[q]? = H[q]?) (hF : ∀ q, va_A wc H.size q → A0 q) (hB : at_ D (va_A wc H.size) w1 tys t) (ht : t.heap = H1) (h2 : is2.map (fun i => (wr ++ w1)[i]?) = w2.map some) (hn2 : va_nd is2 = true) : va_P D classes w2 H1 ∧ va_D A0 w2 := by
  obtain ⟨hP1, hK1, hD1⟩ := hB
  rw [ht] at hP1
  obtain ⟨a, b⟩ := va_join hP hD isC isR hC hR hn hdis hk hF hP1 hD1
  exact ⟨a.sub is2 (fm_ _ _ h2), b.sub is2 hn2 h2⟩
theorem gA_ {w : Cond} (h : w ∈ wA_) : w ∈ wA_ ∧ ((w.onTables && w.keeps) = true ∨ ∃ ty, w = .arrayClass ty) := ⟨h, good_of_word (List.mem_filter.mp h).2⟩
theorem gC_ {y : MethodName} {b : ByteArray} {n : Nat} {r : Option FieldType} (h : Cond.code y b n r ∈ wA_) : GoodIn wA_ (Cond.code y b n r :: wA_) := by
  intro w h9
  rcases List.mem_cons.mp h9 with rfl | h9
  · exact gA_ h
  · exact gA_ h9
theorem gV_ {own : String} {idx : Nat} {C : String} {y : MethodName} {b : ByteArray} {n : Nat} {r : Option FieldType} (h1 : Cond.methodLink own idx y ∈ wA_) (h2 : Cond.instanceMethod y ∈ wA_) (h3 : Cond.selects C y y ∈ wA_) (h4 : Cond.initialized C ∈ wA_) (h5 : Cond.code y b n r ∈ wA_) : GoodIn wA_ (wsV own idx C y (Cond.code y b n r :: wA_)) := by
  intro w h9
  unfold wsV at h9
  rcases List.mem_append.mp h9 with h9 | h9
  · simp only [List.mem_cons, List.not_mem_nil, or_false] at h9
    rcases h9 with rfl | rfl | rfl | rfl
    · exact gA_ h1
    · exact gA_ h2
    · exact gA_ h3
    · exact gA_ h4
  · exact gC_ h5 w h9
theorem gS_ {own : String} {idx : Nat} {y : MethodName} {b : ByteArray} {n : Nat} {r : Option FieldType} (h1 : Cond.methodLink own idx y ∈ wA_) (h2 : Cond.static y ∈ wA_) (h3 : Cond.initialized y.cls ∈ wA_) (h5 : Cond.code y b n r ∈ wA_) : GoodIn wA_ (va_wsS own idx y (Cond.code y b n r :: wA_)) := by
  intro w h9
  unfold va_wsS at h9
  rcases List.mem_append.mp h9 with h9 | h9
  · simp only [List.mem_cons, List.not_mem_nil, or_false] at h9
    rcases h9 with rfl | rfl | rfl
    · exact gA_ h1
    · exact gA_ h2
    · exact gA_ h3
  · exact gC_ h5 w h9
theorem zz_nar {v : Int32} (h : v = 0 ∨ v = 1) : narrow .boolean (.int v) = .int v := by rcases h with rfl | rfl <;> rfl
theorem zz_fit {v : Int32} (h : v = 0 ∨ v = 1) : fits .boolean (.int v) = true := by rcases h with rfl | rfl <;> rfl
def mx (x y : Int32) : Int32 := if x < y then y else x
def mn (x y : Int32) : Int32 := if y < x then y else x
def ab (x : Int32) : Int32 := if 0 ≤ x then x else 0 - x
section base
variable {p : Program} {l : Launch} {e : Env} {R : Room} {s : State} {m : MethodId} {args : Array Value} {below : List Frame} {meth : Method} {c : Code} {H : Heap} {locs : List Loc} {cells slots : Nat} {Q : State → Prop}
/-- two roads that meet at pcJ -/
theorem jn (n : Nat) (LV : List (Nat × Value)) (ws : va_W) (pcJ : Nat) (stk : List Value) {D : va_G} {A : Nat → Prop} {H0 : Heap} {g : JFrame}
    (k1 : ∀ (ls : Array Slot) (H : Heap) (locs : List Loc), lv_has ls n LV → va_P D classes ws H → va_D A ws → va_S A H0 H locs → W p l e R s m args below meth c H locs cells slots Q (F0 m pcJ ls stk))
    (k2 : (∀ (ls : Array Slot) (H : Heap) (locs : List Loc), lv_has ls n LV → va_P D classes ws H → va_D A ws → va_S A H0 H locs → W p l e R s m args below meth c H locs cells slots Q (F0 m pcJ ls stk)) → W p l e R s m args below meth c H locs cells slots Q g) : W p l e R s m args below meth c H locs cells slots Q g := k2 k1
theorem tpi {pc : Nat} {ls : Array Slot} {rest : List Value} {x y : Int32} (h : x = y) (k : W p l e R s m args below meth c H locs cells slots Q (F0 m pc ls (.int y :: rest))) : W p l e R s m args below meth c H locs cells slots Q (F0 m pc ls (.int x :: rest)) := h ▸ k
theorem st_ {D : va_G} {A : Nat → Prop} {ws : va_W} {g : JFrame} (hP : va_P D classes ws s.heap) (hS : va_S A s.heap s.heap []) (k : ∀ (H : Heap) (locs : List Loc), va_P D classes ws H → va_S A s.heap H locs → W p l e R s m args below meth c H locs cells slots Q g) : W p l e R s m args below meth c s.heap [] cells slots Q g := k _ _ hP hS
end base
