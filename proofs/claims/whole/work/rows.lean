section
-- ===== PART A: goes FIRST, ahead of the names: the tables' words, and 'selects' of the private methods out of them =====
/-- a private method of a class that the tables say can be made, by its rows of tables_1 -/
def lw_okq (q : MethodName × Nat) : Prop := (q.1.cls ≠ "java/lang/invoke/MethodHandle" ∧ q.1.cls ≠ "java/lang/invoke/VarHandle") ∧ Cond.instantiable q.1.cls q.2 ∈ tables_1 ∧ Cond.privateMethod q.1 ∈ tables_1 ∧ Cond.instanceMethod q.1 ∈ tables_1
theorem lw_p0 : lw_okq (⟨"TorqueRows$Wishes", "clear", "()V"⟩, 2) := ⟨⟨by decide +kernel, by decide +kernel⟩, List.mem_of_getElem? (i := 32) (by decide +kernel), List.mem_of_getElem? (i := 38) (by decide +kernel), List.mem_of_getElem? (i := 39) (by decide +kernel)⟩
theorem lw_p1 : lw_okq (⟨"TorqueRows$Tables", "put", "(IIII)I"⟩, 1) := ⟨⟨by decide +kernel, by decide +kernel⟩, List.mem_of_getElem? (i := 21) (by decide +kernel), List.mem_of_getElem? (i := 158) (by decide +kernel), List.mem_of_getElem? (i := 159) (by decide +kernel)⟩
theorem lw_p2 : lw_okq (⟨"TorqueRows", "takeSpeed", "(I)V"⟩, 19) := ⟨⟨by decide +kernel, by decide +kernel⟩, List.mem_of_getElem? (i := 13) (by decide +kernel), List.mem_of_getElem? (i := 170) (by decide +kernel), List.mem_of_getElem? (i := 171) (by decide +kernel)⟩
theorem lw_p3 : lw_okq (⟨"TorqueRows", "takeTracks", "(II)V"⟩, 19) := ⟨⟨by decide +kernel, by decide +kernel⟩, List.mem_of_getElem? (i := 13) (by decide +kernel), List.mem_of_getElem? (i := 174) (by decide +kernel), List.mem_of_getElem? (i := 175) (by decide +kernel)⟩
theorem lw_p4 : lw_okq (⟨"TorqueRows", "chooseMode", "()I"⟩, 19) := ⟨⟨by decide +kernel, by decide +kernel⟩, List.mem_of_getElem? (i := 13) (by decide +kernel), List.mem_of_getElem? (i := 184) (by decide +kernel), List.mem_of_getElem? (i := 185) (by decide +kernel)⟩
theorem lw_p5 : lw_okq (⟨"TorqueRows", "chooseWanted", "()I"⟩, 19) := ⟨⟨by decide +kernel, by decide +kernel⟩, List.mem_of_getElem? (i := 13) (by decide +kernel), List.mem_of_getElem? (i := 188) (by decide +kernel), List.mem_of_getElem? (i := 189) (by decide +kernel)⟩
theorem lw_p6 : lw_okq (⟨"TorqueRows", "drives", "()Z"⟩, 19) := ⟨⟨by decide +kernel, by decide +kernel⟩, List.mem_of_getElem? (i := 13) (by decide +kernel), List.mem_of_getElem? (i := 192) (by decide +kernel), List.mem_of_getElem? (i := 193) (by decide +kernel)⟩
theorem lw_p7 : lw_okq (⟨"TorqueRows", "pedalWanted", "()I"⟩, 19) := ⟨⟨by decide +kernel, by decide +kernel⟩, List.mem_of_getElem? (i := 13) (by decide +kernel), List.mem_of_getElem? (i := 196) (by decide +kernel), List.mem_of_getElem? (i := 197) (by decide +kernel)⟩
theorem lw_p8 : lw_okq (⟨"TorqueRows$Tables", "joined", "(III)I"⟩, 1) := ⟨⟨by decide +kernel, by decide +kernel⟩, List.mem_of_getElem? (i := 21) (by decide +kernel), List.mem_of_getElem? (i := 200) (by decide +kernel), List.mem_of_getElem? (i := 201) (by decide +kernel)⟩
theorem lw_p9 : lw_okq (⟨"TorqueRows$Wishes", "appliedTo", "(I)I"⟩, 2) := ⟨⟨by decide +kernel, by decide +kernel⟩, List.mem_of_getElem? (i := 32) (by decide +kernel), List.mem_of_getElem? (i := 212) (by decide +kernel), List.mem_of_getElem? (i := 213) (by decide +kernel)⟩
theorem lw_p10 : lw_okq (⟨"TorqueRows$Idling", "forget", "()V"⟩, 2) := ⟨⟨by decide +kernel, by decide +kernel⟩, List.mem_of_getElem? (i := 50) (by decide +kernel), List.mem_of_getElem? (i := 219) (by decide +kernel), List.mem_of_getElem? (i := 220) (by decide +kernel)⟩
theorem lw_p11 : lw_okq (⟨"TorqueRows$Idling", "torqueAt", "(I)I"⟩, 2) := ⟨⟨by decide +kernel, by decide +kernel⟩, List.mem_of_getElem? (i := 50) (by decide +kernel), List.mem_of_getElem? (i := 223) (by decide +kernel), List.mem_of_getElem? (i := 224) (by decide +kernel)⟩
theorem lw_p12 : lw_okq (⟨"TorqueRows", "isFuelCut", "()Z"⟩, 19) := ⟨⟨by decide +kernel, by decide +kernel⟩, List.mem_of_getElem? (i := 13) (by decide +kernel), List.mem_of_getElem? (i := 236) (by decide +kernel), List.mem_of_getElem? (i := 237) (by decide +kernel)⟩
theorem lw_p13 : lw_okq (⟨"TorqueRows$Totals", "count", "(IIIZ)V"⟩, 4) := ⟨⟨by decide +kernel, by decide +kernel⟩, List.mem_of_getElem? (i := 65) (by decide +kernel), List.mem_of_getElem? (i := 240) (by decide +kernel), List.mem_of_getElem? (i := 241) (by decide +kernel)⟩
theorem lw_p14 : lw_okq (⟨"TorqueRows$Wishes", "add", "(II)I"⟩, 2) := ⟨⟨by decide +kernel, by decide +kernel⟩, List.mem_of_getElem? (i := 32) (by decide +kernel), List.mem_of_getElem? (i := 257) (by decide +kernel), List.mem_of_getElem? (i := 258) (by decide +kernel)⟩
theorem lw_p15 : lw_okq (⟨"TorqueRows", "isTooMuch", "(J)Z"⟩, 19) := ⟨⟨by decide +kernel, by decide +kernel⟩, List.mem_of_getElem? (i := 13) (by decide +kernel), List.mem_of_getElem? (i := 269) (by decide +kernel), List.mem_of_getElem? (i := 270) (by decide +kernel)⟩
def lw_privs_1 : List (MethodName × Nat) := [(⟨"TorqueRows$Wishes", "clear", "()V"⟩, 2), (⟨"TorqueRows$Tables", "put", "(IIII)I"⟩, 1), (⟨"TorqueRows", "takeSpeed", "(I)V"⟩, 19), (⟨"TorqueRows", "takeTracks", "(II)V"⟩, 19), (⟨"TorqueRows", "chooseMode", "()I"⟩, 19), (⟨"TorqueRows", "chooseWanted", "()I"⟩, 19), (⟨"TorqueRows", "drives", "()Z"⟩, 19), (⟨"TorqueRows", "pedalWanted", "()I"⟩, 19), (⟨"TorqueRows$Tables", "joined", "(III)I"⟩, 1), (⟨"TorqueRows$Wishes", "appliedTo", "(I)I"⟩, 2), (⟨"TorqueRows$Idling", "forget", "()V"⟩, 2), (⟨"TorqueRows$Idling", "torqueAt", "(I)I"⟩, 2), (⟨"TorqueRows", "isFuelCut", "()Z"⟩, 19), (⟨"TorqueRows$Totals", "count", "(IIIZ)V"⟩, 4), (⟨"TorqueRows$Wishes", "add", "(II)I"⟩, 2), (⟨"TorqueRows", "isTooMuch", "(J)Z"⟩, 19)]
theorem lw_r1 : ∀ q ∈ lw_privs_1, lw_okq q := List.forall_mem_cons.mpr ⟨lw_p0, List.forall_mem_cons.mpr ⟨lw_p1, List.forall_mem_cons.mpr ⟨lw_p2, List.forall_mem_cons.mpr ⟨lw_p3, List.forall_mem_cons.mpr ⟨lw_p4, List.forall_mem_cons.mpr ⟨lw_p5, List.forall_mem_cons.mpr ⟨lw_p6, List.forall_mem_cons.mpr ⟨lw_p7, List.forall_mem_cons.mpr ⟨lw_p8, List.forall_mem_cons.mpr ⟨lw_p9, List.forall_mem_cons.mpr ⟨lw_p10, List.forall_mem_cons.mpr ⟨lw_p11, List.forall_mem_cons.mpr ⟨lw_p12, List.forall_mem_cons.mpr ⟨lw_p13, List.forall_mem_cons.mpr ⟨lw_p14, List.forall_mem_cons.mpr ⟨lw_p15, fun _ h => absurd h List.not_mem_nil⟩⟩⟩⟩⟩⟩⟩⟩⟩⟩⟩⟩⟩⟩⟩⟩
theorem lw_p16 : lw_okq (⟨"TorqueRows", "cheapestMotor", "(I)I"⟩, 19) := ⟨⟨by decide +kernel, by decide +kernel⟩, List.mem_of_getElem? (i := 13) (by decide +kernel), List.mem_of_getElem? (i := 294) (by decide +kernel), List.mem_of_getElem? (i := 295) (by decide +kernel)⟩
theorem lw_p17 : lw_okq (⟨"TorqueRows", "costTogether", "(II)I"⟩, 19) := ⟨⟨by decide +kernel, by decide +kernel⟩, List.mem_of_getElem? (i := 13) (by decide +kernel), List.mem_of_getElem? (i := 298) (by decide +kernel), List.mem_of_getElem? (i := 299) (by decide +kernel)⟩
theorem lw_p18 : lw_okq (⟨"java/lang/Throwable", "fillInStackTrace", "(I)Ljava/lang/Throwable;"⟩, 6) := ⟨⟨by decide +kernel, by decide +kernel⟩, List.mem_of_getElem? (i := 350) (by decide +kernel), List.mem_of_getElem? (i := 348) (by decide +kernel), List.mem_of_getElem? (i := 349) (by decide +kernel)⟩
theorem lw_p19 : lw_okq (⟨"TorqueRowsModel", "v", "(III)I"⟩, 26) := ⟨⟨by decide +kernel, by decide +kernel⟩, List.mem_of_getElem? (i := 381) (by decide +kernel), List.mem_of_getElem? (i := 475) (by decide +kernel), List.mem_of_getElem? (i := 476) (by decide +kernel)⟩
theorem lw_p20 : lw_okq (⟨"TorqueRowsModel", "valueAt", "(IJJ)I"⟩, 26) := ⟨⟨by decide +kernel, by decide +kernel⟩, List.mem_of_getElem? (i := 381) (by decide +kernel), List.mem_of_getElem? (i := 484) (by decide +kernel), List.mem_of_getElem? (i := 485) (by decide +kernel)⟩
theorem lw_p21 : lw_okq (⟨"TorqueRowsModel", "takeWishes", "()V"⟩, 26) := ⟨⟨by decide +kernel, by decide +kernel⟩, List.mem_of_getElem? (i := 381) (by decide +kernel), List.mem_of_getElem? (i := 492) (by decide +kernel), List.mem_of_getElem? (i := 493) (by decide +kernel)⟩
theorem lw_p22 : lw_okq (⟨"TorqueRowsModel", "idles", "()V"⟩, 26) := ⟨⟨by decide +kernel, by decide +kernel⟩, List.mem_of_getElem? (i := 381) (by decide +kernel), List.mem_of_getElem? (i := 496) (by decide +kernel), List.mem_of_getElem? (i := 497) (by decide +kernel)⟩
def lw_privs_2 : List (MethodName × Nat) := [(⟨"TorqueRows", "cheapestMotor", "(I)I"⟩, 19), (⟨"TorqueRows", "costTogether", "(II)I"⟩, 19), (⟨"java/lang/Throwable", "fillInStackTrace", "(I)Ljava/lang/Throwable;"⟩, 6), (⟨"TorqueRowsModel", "v", "(III)I"⟩, 26), (⟨"TorqueRowsModel", "valueAt", "(IJJ)I"⟩, 26), (⟨"TorqueRowsModel", "takeWishes", "()V"⟩, 26), (⟨"TorqueRowsModel", "idles", "()V"⟩, 26)]
theorem lw_r2 : ∀ q ∈ lw_privs_2, lw_okq q := List.forall_mem_cons.mpr ⟨lw_p16, List.forall_mem_cons.mpr ⟨lw_p17, List.forall_mem_cons.mpr ⟨lw_p18, List.forall_mem_cons.mpr ⟨lw_p19, List.forall_mem_cons.mpr ⟨lw_p20, List.forall_mem_cons.mpr ⟨lw_p21, List.forall_mem_cons.mpr ⟨lw_p22, fun _ h => absurd h List.not_mem_nil⟩⟩⟩⟩⟩⟩⟩
def lw_privs : List (MethodName × Nat) := lw_privs_1 ++ (lw_privs_2)
def lw_tbl : List Cond := k2_sels lw_privs ++ tables_1
theorem lw_privs_ok : ∀ q ∈ lw_privs, lw_okq q := by
  show ∀ q ∈ lw_privs_1 ++ (lw_privs_2), lw_okq q
  exact List.forall_mem_append.mpr ⟨lw_r1, lw_r2⟩
end
section
def R_law : String := "TorqueRowsLaw"
def R_Ta : String := "TorqueRows$Tables"
def F_Ta : u_T := fun k => match k with
  | _ => ("TorqueRows$Tables", "values", "[I", true)
def t_Ta : Nat → FieldType := fun k => match k with
  | _ => .array .int
theorem n_Ta : ∀ a, a < 1 → ∀ b, b < 1 → a ≠ b → (F_Ta a).2.1 ≠ (F_Ta b).2.1 := by decide +kernel
theorem t_Ta_ok : ∀ k, k < 1 → parseFieldDescriptor (F_Ta k).2.2.1 = some (t_Ta k) := by decide +kernel
theorem df_Ta : ∀ j, j < 1 → defaultValue (t_Ta j) = vp_V [.null] j := by decide +kernel
def R_Wi : String := "TorqueRows$Wishes"
def F_Wi : u_T := fun k => match k with
  | 0 => ("TorqueRows$Wishes", "least", "[I", true)
  | _ => ("TorqueRows$Wishes", "waiting", "I", false)
def t_Wi : Nat → FieldType := fun k => match k with
  | 0 => .array .int
  | _ => .int
theorem n_Wi : ∀ a, a < 2 → ∀ b, b < 2 → a ≠ b → (F_Wi a).2.1 ≠ (F_Wi b).2.1 := by decide +kernel
theorem t_Wi_ok : ∀ k, k < 2 → parseFieldDescriptor (F_Wi k).2.2.1 = some (t_Wi k) := by decide +kernel
theorem df_Wi : ∀ j, j < 2 → defaultValue (t_Wi j) = vp_V [.null, .int 0] j := by decide +kernel
def R_Id : String := "TorqueRows$Idling"
def F_Id : u_T := fun k => match k with
  | 0 => ("TorqueRows$Idling", "aim", "I", false)
  | _ => ("TorqueRows$Idling", "stored", "I", false)
def t_Id : Nat → FieldType := fun k => match k with
  | 0 => .int
  | _ => .int
theorem n_Id : ∀ a, a < 2 → ∀ b, b < 2 → a ≠ b → (F_Id a).2.1 ≠ (F_Id b).2.1 := by decide +kernel
theorem t_Id_ok : ∀ k, k < 2 → parseFieldDescriptor (F_Id k).2.2.1 = some (t_Id k) := by decide +kernel
theorem df_Id : ∀ j, j < 2 → defaultValue (t_Id j) = vp_V [.int 0, .int 0] j := by decide +kernel
def R_To : String := "TorqueRows$Totals"
def F_To : u_T := fun k => match k with
  | 0 => ("TorqueRows$Totals", "steps", "J", false)
  | 1 => ("TorqueRows$Totals", "work", "J", false)
  | 2 => ("TorqueRows$Totals", "fuel", "J", false)
  | _ => ("TorqueRows$Totals", "stops", "J", false)
def t_To : Nat → FieldType := fun k => match k with
  | 0 => .long
  | 1 => .long
  | 2 => .long
  | _ => .long
theorem n_To : ∀ a, a < 4 → ∀ b, b < 4 → a ≠ b → (F_To a).2.1 ≠ (F_To b).2.1 := by decide +kernel
theorem t_To_ok : ∀ k, k < 4 → parseFieldDescriptor (F_To k).2.2.1 = some (t_To k) := by decide +kernel
theorem df_To : ∀ j, j < 4 → defaultValue (t_To j) = vp_V [.long 0, .long 0, .long 0, .long 0] j := by decide +kernel
def R_X : String := "TorqueRows"
def F_X : u_T := fun k => match k with
  | 0 => ("TorqueRows", "tables", "LTorqueRows$Tables;", true)
  | 1 => ("TorqueRows", "wishes", "LTorqueRows$Wishes;", true)
  | 2 => ("TorqueRows", "idling", "LTorqueRows$Idling;", true)
  | 3 => ("TorqueRows", "totals", "LTorqueRows$Totals;", true)
  | 4 => ("TorqueRows", "lost", "[Z", true)
  | 5 => ("TorqueRows", "boundNow", "I", false)
  | 6 => ("TorqueRows", "cylinders", "I", false)
  | 7 => ("TorqueRows", "limpOn", "Z", false)
  | 8 => ("TorqueRows", "stopped", "Z", false)
  | 9 => ("TorqueRows", "different", "I", false)
  | 10 => ("TorqueRows", "tooMuch", "I", false)
  | 11 => ("TorqueRows", "torqueNow", "I", false)
  | 12 => ("TorqueRows", "torqueBefore", "I", false)
  | 13 => ("TorqueRows", "lastPedal", "I", false)
  | 14 => ("TorqueRows", "lastWanted", "I", false)
  | 15 => ("TorqueRows", "lastAir", "I", false)
  | 16 => ("TorqueRows", "lastFuel", "I", false)
  | 17 => ("TorqueRows", "lastMode", "I", false)
  | _ => ("TorqueRows", "lastSpeed", "I", false)
def t_X : Nat → FieldType := fun k => match k with
  | 0 => .object "TorqueRows$Tables"
  | 1 => .object "TorqueRows$Wishes"
  | 2 => .object "TorqueRows$Idling"
  | 3 => .object "TorqueRows$Totals"
  | 4 => .array .boolean
  | 5 => .int
  | 6 => .int
  | 7 => .boolean
  | 8 => .boolean
  | 9 => .int
  | 10 => .int
  | 11 => .int
  | 12 => .int
  | 13 => .int
  | 14 => .int
  | 15 => .int
  | 16 => .int
  | 17 => .int
  | _ => .int
theorem n_X : ∀ a, a < 19 → ∀ b, b < 19 → a ≠ b → (F_X a).2.1 ≠ (F_X b).2.1 := by decide +kernel
theorem t_X_ok : ∀ k, k < 19 → parseFieldDescriptor (F_X k).2.2.1 = some (t_X k) := by decide +kernel
theorem df_X : ∀ j, j < 19 → defaultValue (t_X j) = vp_V [.null, .null, .null, .null, .null, .int 0, .int 0, .int 0, .int 0, .int 0, .int 0, .int 0, .int 0, .int 0, .int 0, .int 0, .int 0, .int 0, .int 0] j := by decide +kernel
def R_Z : String := "TorqueRowsModel"
def F_Z : u_T := fun k => match k with
  | 0 => ("TorqueRowsModel", "thrown", "I", false)
  | 1 => ("TorqueRowsModel", "values", "[I", true)
  | 2 => ("TorqueRowsModel", "lost", "[Z", true)
  | 3 => ("TorqueRowsModel", "wishes", "I", false)
  | 4 => ("TorqueRowsModel", "rank", "[I", true)
  | 5 => ("TorqueRowsModel", "wished", "[I", true)
  | 6 => ("TorqueRowsModel", "idle", "I", false)
  | 7 => ("TorqueRowsModel", "bound", "I", false)
  | 8 => ("TorqueRowsModel", "limp", "Z", false)
  | 9 => ("TorqueRowsModel", "stopped", "Z", false)
  | 10 => ("TorqueRowsModel", "cylinders", "I", false)
  | 11 => ("TorqueRowsModel", "pedal", "I", false)
  | 12 => ("TorqueRowsModel", "speed", "I", false)
  | 13 => ("TorqueRowsModel", "wanted", "I", false)
  | 14 => ("TorqueRowsModel", "air", "I", false)
  | 15 => ("TorqueRowsModel", "fuel", "I", false)
  | 16 => ("TorqueRowsModel", "stored", "J", false)
  | 17 => ("TorqueRowsModel", "different", "I", false)
  | 18 => ("TorqueRowsModel", "mode", "I", false)
  | 19 => ("TorqueRowsModel", "torque", "I", false)
  | 20 => ("TorqueRowsModel", "before", "I", false)
  | 21 => ("TorqueRowsModel", "much", "I", false)
  | 22 => ("TorqueRowsModel", "steps", "J", false)
  | 23 => ("TorqueRowsModel", "work", "J", false)
  | 24 => ("TorqueRowsModel", "burnt", "J", false)
  | _ => ("TorqueRowsModel", "stops", "J", false)
def t_Z : Nat → FieldType := fun k => match k with
  | 0 => .int
  | 1 => .array .int
  | 2 => .array .boolean
  | 3 => .int
  | 4 => .array .int
  | 5 => .array .int
  | 6 => .int
  | 7 => .int
  | 8 => .boolean
  | 9 => .boolean
  | 10 => .int
  | 11 => .int
  | 12 => .int
  | 13 => .int
  | 14 => .int
  | 15 => .int
  | 16 => .long
  | 17 => .int
  | 18 => .int
  | 19 => .int
  | 20 => .int
  | 21 => .int
  | 22 => .long
  | 23 => .long
  | 24 => .long
  | _ => .long
theorem n_Z : ∀ a, a < 26 → ∀ b, b < 26 → a ≠ b → (F_Z a).2.1 ≠ (F_Z b).2.1 := by decide +kernel
theorem t_Z_ok : ∀ k, k < 26 → parseFieldDescriptor (F_Z k).2.2.1 = some (t_Z k) := by decide +kernel
theorem df_Z : ∀ j, j < 26 → defaultValue (t_Z j) = vp_V [.int 0, .null, .null, .int 0, .null, .null, .int 0, .int 0, .int 0, .int 0, .int 0, .int 0, .int 0, .int 0, .int 0, .int 0, .long 0, .int 0, .int 0, .int 0, .int 0, .int 0, .long 0, .long 0, .long 0, .long 0] j := by decide +kernel
abbrev classes : List vw_C := [(R_Ta, F_Ta, 1), (R_Wi, F_Wi, 2), (R_Id, F_Id, 2), (R_To, F_To, 4), (R_X, F_X, 19), (R_Z, F_Z, 26)]
abbrev b_Ta_isPlace : ByteArray := prog_3_method_2_code
def y_Ta_isPlace : MethodName := ⟨R_Ta, "isPlace", "(II)Z"⟩
abbrev b_Ta_between : ByteArray := prog_3_method_5_code
def y_Ta_between : MethodName := ⟨R_Ta, "between", "(II)I"⟩
abbrev b_Ta_indexOf : ByteArray := prog_3_method_6_code
def y_Ta_indexOf : MethodName := ⟨R_Ta, "indexOf", "(III)I"⟩
abbrev b_Ta_put : ByteArray := prog_3_method_3_code
def y_Ta_put : MethodName := ⟨R_Ta, "put", "(IIII)I"⟩
abbrev b_Ta_joined : ByteArray := prog_3_method_4_code
def y_Ta_joined : MethodName := ⟨R_Ta, "joined", "(III)I"⟩
abbrev b_Wi_clear : ByteArray := prog_5_method_4_code
def y_Wi_clear : MethodName := ⟨R_Wi, "clear", "()V"⟩
abbrev b_Wi_add : ByteArray := prog_5_method_2_code
def y_Wi_add : MethodName := ⟨R_Wi, "add", "(II)I"⟩
abbrev b_Wi_appliedTo : ByteArray := prog_5_method_3_code
def y_Wi_appliedTo : MethodName := ⟨R_Wi, "appliedTo", "(I)I"⟩
abbrev b_Ma_floorDiv : ByteArray := prog_10_method_47_code
def y_Ma_floorDiv : MethodName := ⟨"java/lang/Math", "floorDiv", "(II)I"⟩
abbrev b_Id_forget : ByteArray := prog_2_method_3_code
def y_Id_forget : MethodName := ⟨R_Id, "forget", "()V"⟩
abbrev b_Id_torqueAt : ByteArray := prog_2_method_2_code
def y_Id_torqueAt : MethodName := ⟨R_Id, "torqueAt", "(I)I"⟩
abbrev b_To_count : ByteArray := prog_4_method_2_code
def y_To_count : MethodName := ⟨R_To, "count", "(IIIZ)V"⟩
abbrev b_X_isUpTo : ByteArray := prog_1_method_16_code
def y_X_isUpTo : MethodName := ⟨R_X, "isUpTo", "(JJ)Z"⟩
abbrev b_X_ramped : ByteArray := prog_1_method_23_code
def y_X_ramped : MethodName := ⟨R_X, "ramped", "(II)I"⟩
abbrev b_X_drives : ByteArray := prog_1_method_20_code
def y_X_drives : MethodName := ⟨R_X, "drives", "()Z"⟩
abbrev b_X_isTooMuch : ByteArray := prog_1_method_25_code
def y_X_isTooMuch : MethodName := ⟨R_X, "isTooMuch", "(J)Z"⟩
abbrev b_X_takeSpeed : ByteArray := prog_1_method_17_code
def y_X_takeSpeed : MethodName := ⟨R_X, "takeSpeed", "(I)V"⟩
abbrev b_X_takeTracks : ByteArray := prog_1_method_18_code
def y_X_takeTracks : MethodName := ⟨R_X, "takeTracks", "(II)V"⟩
abbrev b_X_chooseMode : ByteArray := prog_1_method_19_code
def y_X_chooseMode : MethodName := ⟨R_X, "chooseMode", "()I"⟩
abbrev b_X_pedalWanted : ByteArray := prog_1_method_22_code
def y_X_pedalWanted : MethodName := ⟨R_X, "pedalWanted", "()I"⟩
abbrev b_X_chooseWanted : ByteArray := prog_1_method_21_code
def y_X_chooseWanted : MethodName := ⟨R_X, "chooseWanted", "()I"⟩
abbrev b_X_isFuelCut : ByteArray := prog_1_method_24_code
def y_X_isFuelCut : MethodName := ⟨R_X, "isFuelCut", "()Z"⟩
abbrev b_X_costTogether : ByteArray := prog_1_method_27_code
def y_X_costTogether : MethodName := ⟨R_X, "costTogether", "(II)I"⟩
abbrev b_X_cheapestMotor : ByteArray := prog_1_method_26_code
def y_X_cheapestMotor : MethodName := ⟨R_X, "cheapestMotor", "(I)I"⟩
abbrev b_X_table : ByteArray := prog_1_method_2_code
def y_X_table : MethodName := ⟨R_X, "table", "(IIIJ)I"⟩
abbrev b_X_step : ByteArray := prog_1_method_3_code
def y_X_step : MethodName := ⟨R_X, "step", "(JJJ)I"⟩
abbrev b_X_torque : ByteArray := prog_1_method_4_code
def y_X_torque : MethodName := ⟨R_X, "torque", "()J"⟩
abbrev b_X_value : ByteArray := prog_1_method_5_code
def y_X_value : MethodName := ⟨R_X, "value", "(I)J"⟩
abbrev b_X_wish : ByteArray := prog_1_method_6_code
def y_X_wish : MethodName := ⟨R_X, "wish", "(IJ)I"⟩
abbrev b_X_bound : ByteArray := prog_1_method_7_code
def y_X_bound : MethodName := ⟨R_X, "bound", "(J)I"⟩
abbrev b_X_monitor : ByteArray := prog_1_method_8_code
def y_X_monitor : MethodName := ⟨R_X, "monitor", "(J)I"⟩
abbrev b_X_sensor : ByteArray := prog_1_method_9_code
def y_X_sensor : MethodName := ⟨R_X, "sensor", "(II)I"⟩
abbrev b_X_cylinder : ByteArray := prog_1_method_10_code
def y_X_cylinder : MethodName := ⟨R_X, "cylinder", "(I)I"⟩
abbrev b_X_idle : ByteArray := prog_1_method_12_code
def y_X_idle : MethodName := ⟨R_X, "idle", "(J)I"⟩
abbrev b_X_sum : ByteArray := prog_1_method_13_code
def y_X_sum : MethodName := ⟨R_X, "sum", "(I)J"⟩
abbrev b_X_split : ByteArray := prog_1_method_14_code
def y_X_split : MethodName := ⟨R_X, "split", "(JI)I"⟩
abbrev b_X_limp : ByteArray := prog_1_method_15_code
def y_X_limp : MethodName := ⟨R_X, "limp", "(Z)I"⟩
abbrev b_Ta_init : ByteArray := prog_3_method_1_code
def y_Ta_init : MethodName := ⟨R_Ta, "<init>", "()V"⟩
abbrev b_Wi_init : ByteArray := prog_5_method_1_code
def y_Wi_init : MethodName := ⟨R_Wi, "<init>", "()V"⟩
abbrev b_Id_init : ByteArray := prog_2_method_1_code
def y_Id_init : MethodName := ⟨R_Id, "<init>", "()V"⟩
abbrev b_To_init : ByteArray := prog_4_method_1_code
def y_To_init : MethodName := ⟨R_To, "<init>", "()V"⟩
abbrev b_X_init : ByteArray := prog_1_method_1_code
def y_X_init : MethodName := ⟨R_X, "<init>", "()V"⟩
abbrev b_Z_down : ByteArray := prog_7_method_3_code
def y_Z_down : MethodName := ⟨R_Z, "down", "(JJ)J"⟩
abbrev b_Z_v : ByteArray := prog_7_method_4_code
def y_Z_v : MethodName := ⟨R_Z, "v", "(III)I"⟩
abbrev b_Z_valueAt : ByteArray := prog_7_method_5_code
def y_Z_valueAt : MethodName := ⟨R_Z, "valueAt", "(IJJ)I"⟩
abbrev b_Z_takeWishes : ByteArray := prog_7_method_7_code
def y_Z_takeWishes : MethodName := ⟨R_Z, "takeWishes", "()V"⟩
abbrev b_Z_idles : ByteArray := prog_7_method_8_code
def y_Z_idles : MethodName := ⟨R_Z, "idles", "()V"⟩
abbrev b_Z_thrown : ByteArray := prog_7_method_2_code
def y_Z_thrown : MethodName := ⟨R_Z, "thrown", "()I"⟩
abbrev b_Z_table : ByteArray := prog_7_method_6_code
def y_Z_table : MethodName := ⟨R_Z, "table", "(IIIJ)I"⟩
abbrev b_Z_step : ByteArray := prog_7_method_9_code
def y_Z_step : MethodName := ⟨R_Z, "step", "(JJJ)I"⟩
abbrev b_Z_torque : ByteArray := prog_7_method_10_code
def y_Z_torque : MethodName := ⟨R_Z, "torque", "()J"⟩
abbrev b_Z_value : ByteArray := prog_7_method_11_code
def y_Z_value : MethodName := ⟨R_Z, "value", "(I)J"⟩
abbrev b_Z_wish : ByteArray := prog_7_method_12_code
def y_Z_wish : MethodName := ⟨R_Z, "wish", "(IJ)I"⟩
abbrev b_Z_bound : ByteArray := prog_7_method_13_code
def y_Z_bound : MethodName := ⟨R_Z, "bound", "(J)I"⟩
abbrev b_Z_monitor : ByteArray := prog_7_method_14_code
def y_Z_monitor : MethodName := ⟨R_Z, "monitor", "(J)I"⟩
abbrev b_Z_sensor : ByteArray := prog_7_method_15_code
def y_Z_sensor : MethodName := ⟨R_Z, "sensor", "(II)I"⟩
abbrev b_Z_cylinder : ByteArray := prog_7_method_16_code
def y_Z_cylinder : MethodName := ⟨R_Z, "cylinder", "(I)I"⟩
abbrev b_Z_period : ByteArray := prog_7_method_17_code
def y_Z_period : MethodName := ⟨R_Z, "period", "(J)J"⟩
abbrev b_Z_idle : ByteArray := prog_7_method_18_code
def y_Z_idle : MethodName := ⟨R_Z, "idle", "(J)I"⟩
abbrev b_Z_sum : ByteArray := prog_7_method_19_code
def y_Z_sum : MethodName := ⟨R_Z, "sum", "(I)J"⟩
abbrev b_Z_split : ByteArray := prog_7_method_20_code
def y_Z_split : MethodName := ⟨R_Z, "split", "(JI)I"⟩
abbrev b_Z_limp : ByteArray := prog_7_method_21_code
def y_Z_limp : MethodName := ⟨R_Z, "limp", "(Z)I"⟩
abbrev b_Z_init : ByteArray := prog_7_method_1_code
def y_Z_init : MethodName := ⟨R_Z, "<init>", "()V"⟩
end
section
-- what all contracts share: words, worlds, calls, joins
def wA_ : List Cond := lw_tbl.filter goodWord
def isN_ : Cond → Bool
  | .fieldLinkNest .. => true
  | .methodLinkNest .. => true
  | _ => false
def nW_ : List Cond := lw_tbl.filter isN_
/-- the links to private members of nest mates hold in U -/
def nw_ (U : State) : Prop := ∀ w ∈ nW_, va_Nw w U
theorem nw_warm {s U : State} (hW : s.WarmedH U.vm) (h : nw_ s) : nw_ U := by
  intro w hw
  have h1 := h w hw
  have h2 := (List.mem_filter.mp hw).2
  cases w with
  | fieldLinkNest a i b n d h => exact va_Nw.warmF hW h1
  | methodLinkNest a i x h => exact va_Nw.warmM hW h1
  | _ => exact absurd h2 (by simp [isN_])
theorem nw_same {u U : State} (hv : u.vm = U.vm) (h : nw_ u) : nw_ U := by
  intro w hw
  have h1 := h w hw
  have h2 := (List.mem_filter.mp hw).2
  cases w with
  | fieldLinkNest a i b n d h => exact va_Nw.same rfl hv h1
  | methodLinkNest a i x h => exact va_Nw.same rfl hv h1
  | _ => exact absurd h2 (by simp [isN_])
theorem nw_of {args : Array Value} {s : State} (h : ∀ w ∈ lw_tbl, w.before args s = true) : nw_ s := by
  intro w hw
  have h1 := h w (List.mem_filter.mp hw).1
  have h2 := (List.mem_filter.mp hw).2
  cases w with
  | fieldLinkNest a i b n d h => exact va_Nw.of rfl h1
  | methodLinkNest a i x h => exact va_Nw.of rfl h1
  | _ => exact absurd h2 (by simp [isN_])
theorem wA_sub {w : Cond} (h : w ∈ wA_) : w ∈ lw_tbl := (List.mem_filter.mp h).1
abbrev pr_ (D : va_G) (ws : va_W) (tys : List (ClassId × FieldType)) (sz : Nat) (U : State) : Prop := U.heap.size = sz ∧ va_P D classes ws U.heap ∧ va_K D classes tys U ∧ va_D (fun _ => True) ws ∧ nw_ U
abbrev at_ (D : va_G) (A : Nat → Prop) (ws : va_W) (tys : List (ClassId × FieldType)) (t : State) : Prop := va_P D classes ws t.heap ∧ va_K D classes tys t ∧ va_D A ws
theorem fb_ {av : List Value} {D : va_G} {ws : va_W} {tys : List (ClassId × FieldType)} {sz : Nat} : FrameBlind (va_Pc av (pr_ D ws tys sz)) := by
  intro a U g mk q
  obtain ⟨q0, q1, qP, qK, qD, qN⟩ := q
  exact ⟨q0, q1, qP, va_K.moved (u := U) (U := U.calling g mk a) (Vm.Alike.refl U.vm) qK, qD, nw_same (u := U) rfl qN⟩
theorem pu_ {s : State} {H : Heap} {D : va_G} {ws : va_W} {tys : List (ClassId × FieldType)} {A : Nat → Prop} {av : List Value} (hP : va_P D classes ws H) (hK : va_K D classes tys s) (hD : va_D A ws) (hN : nw_ s) : ∀ U : State, U.heap = H → s.WarmedH U.vm → va_Pc av (pr_ D ws tys H.size) av.toArray U :=
  fun U hU hW => ⟨rfl, by rw [hU], by rw [hU]; exact hP, va_K.moved hW.alike hK, hD.weaken (fun _ _ _ _ => trivial), nw_warm hW hN⟩
theorem fm_ {α β : Type} {f : α → Option β} : ∀ (l : List α) (w : List β), l.map f = w.map some → l.filterMap f = w
  | [], [], _ => rfl
  | [], _ :: _, h => by simp at h
  | _ :: _, [], h => by simp at h
  | a :: l, b :: w, h => by
    simp only [List.map_cons, List.cons.injEq] at h
    simp [h.1, fm_ l w h.2]
/-- behind a call: the callee's world as it came back, the rest as it was, in an order that is given -/
theorem aft_ {A0 : Nat → Prop} {D : va_G} {ws wc wr w1 w2 : va_W} {tys : List (ClassId × FieldType)} {H H1 : Heap} {t : State} (hP : va_P D classes ws H) (hD : va_D A0 ws) (isC isR is2 : List Nat) (hC : isC.map (fun i => ws[i]?) = wc.map some) (hR : isR.map (fun i => ws[i]?) = wr.map some) (hn : va_nd isR = true) (hdis : ∀ i ∈ isR, i ∉ isC)
    (hk : ∀ q : Nat, q < H.size → ¬ va_A wc H.size q → H1[q]? = H[q]?) (hF : ∀ q, va_A wc H.size q → A0 q) (hB : at_ D (va_A wc H.size) w1 tys t) (ht : t.heap = H1) (h2 : is2.map (fun i => (wr ++ w1)[i]?) = w2.map some) (hn2 : va_nd is2 = true) : va_P D classes w2 H1 ∧ va_D A0 w2 := by
  obtain ⟨hP1, hK1, hD1⟩ := hB
  rw [ht] at hP1
  obtain ⟨a, b⟩ := va_join hP hD isC isR hC hR hn hdis hk hF hP1 hD1
  exact ⟨a.sub is2 (fm_ _ _ h2), b.sub is2 hn2 h2⟩
theorem gA_ {w : Cond} (h : w ∈ wA_) : w ∈ wA_ ∧ ((w.onTables && w.keeps) = true ∨ ∃ ty, w = .arrayClass ty) := ⟨h, good_of_word (List.mem_filter.mp h).2⟩
theorem gC_ {y : MethodName} {b : ByteArray} {n : Nat} {r : Option FieldType} (h : Cond.code y b n r ∈ wA_) : GoodIn wA_ (Cond.code y b n r :: wA_) := by
  intro w h9
  rcases List.mem_cons.mp h9 with rfl | h9
  · exact gA_ h
  · exact gA_ h9
theorem gV_ {own : String} {idx : Nat} {C : String} {y : MethodName} {b : ByteArray} {n : Nat} {r : Option FieldType} (h1 : Cond.methodLink own idx y ∈ wA_) (h2 : Cond.instanceMethod y ∈ wA_) (h3 : Cond.selects C y y ∈ wA_) (h4 : Cond.initialized C ∈ wA_) (h5 : Cond.code y b n r ∈ wA_) : GoodIn wA_ (wsV own idx C y (Cond.code y b n r :: wA_)) := by
  intro w h9
  unfold wsV at h9
  rcases List.mem_append.mp h9 with h9 | h9
  · simp only [List.mem_cons, List.not_mem_nil, or_false] at h9
    rcases h9 with rfl | rfl | rfl | rfl
    · exact gA_ h1
    · exact gA_ h2
    · exact gA_ h3
    · exact gA_ h4
  · exact gC_ h5 w h9
theorem gS_ {own : String} {idx : Nat} {y : MethodName} {b : ByteArray} {n : Nat} {r : Option FieldType} (h1 : Cond.methodLink own idx y ∈ wA_) (h2 : Cond.static y ∈ wA_) (h3 : Cond.initialized y.cls ∈ wA_) (h5 : Cond.code y b n r ∈ wA_) : GoodIn wA_ (va_wsS own idx y (Cond.code y b n r :: wA_)) := by
  intro w h9
  unfold va_wsS at h9
  rcases List.mem_append.mp h9 with h9 | h9
  · simp only [List.mem_cons, List.not_mem_nil, or_false] at h9
    rcases h9 with rfl | rfl | rfl
    · exact gA_ h1
    · exact gA_ h2
    · exact gA_ h3
  · exact gC_ h5 w h9
theorem zz_nar {v : Int32} (h : v = 0 ∨ v = 1) : narrow .boolean (.int v) = .int v := by rcases h with rfl | rfl <;> rfl
theorem zz_fit {v : Int32} (h : v = 0 ∨ v = 1) : fits .boolean (.int v) = true := by rcases h with rfl | rfl <;> rfl
def mx (x y : Int32) : Int32 := if x < y then y else x
def mn (x y : Int32) : Int32 := if y < x then y else x
def ab (x : Int32) : Int32 := if 0 ≤ x then x else 0 - x
section base
variable {p : Program} {l : Launch} {e : Env} {R : Room} {s : State} {m : MethodId} {args : Array Value} {below : List Frame} {meth : Method} {c : Code} {H : Heap} {locs : List Loc} {cells slots : Nat} {Q : State → Prop}
/-- two roads that meet at pcJ -/
theorem jn (n : Nat) (LV : List (Nat × Value)) (ws : va_W) (pcJ : Nat) (stk : List Value) {D : va_G} {A : Nat → Prop} {H0 : Heap} {g : JFrame}
    (k1 : ∀ (ls : Array Slot) (H : Heap) (locs : List Loc), lv_has ls n LV → va_P D classes ws H → va_D A ws → va_S A H0 H locs → W p l e R s m args below meth c H locs cells slots Q (F0 m pcJ ls stk))
    (k2 : (∀ (ls : Array Slot) (H : Heap) (locs : List Loc), lv_has ls n LV → va_P D classes ws H → va_D A ws → va_S A H0 H locs → W p l e R s m args below meth c H locs cells slots Q (F0 m pcJ ls stk)) → W p l e R s m args below meth c H locs cells slots Q g) : W p l e R s m args below meth c H locs cells slots Q g := k2 k1
theorem tpi {pc : Nat} {ls : Array Slot} {rest : List Value} {x y : Int32} (h : x = y) (k : W p l e R s m args below meth c H locs cells slots Q (F0 m pc ls (.int y :: rest))) : W p l e R s m args below meth c H locs cells slots Q (F0 m pc ls (.int x :: rest)) := h ▸ k
theorem st_ {D : va_G} {A : Nat → Prop} {ws : va_W} {g : JFrame} (hP : va_P D classes ws s.heap) (hS : va_S A s.heap s.heap []) (k : ∀ (H : Heap) (locs : List Loc), va_P D classes ws H → va_S A s.heap H locs → W p l e R s m args below meth c H locs cells slots Q g) : W p l e R s m args below meth c s.heap [] cells slots Q g := k _ _ hP hS
end base
end
section
theorem d_Ta_isPlace_0 : decode b_Ta_isPlace 0 = .ok (.iload_n 0, 1) := by decide +kernel
theorem d_Ta_isPlace_1 : decode b_Ta_isPlace 1 = .ok (.ifCond .lt 23, 3) := by decide +kernel
theorem d_Ta_isPlace_4 : decode b_Ta_isPlace 4 = .ok (.iload_n 0, 1) := by decide +kernel
theorem d_Ta_isPlace_5 : decode b_Ta_isPlace 5 = .ok (.bipush 8, 2) := by decide +kernel
theorem d_Ta_isPlace_7 : decode b_Ta_isPlace 7 = .ok (.if_icmp .ge 17, 3) := by decide +kernel
theorem d_Ta_isPlace_10 : decode b_Ta_isPlace 10 = .ok (.iload_n 1, 1) := by decide +kernel
theorem d_Ta_isPlace_11 : decode b_Ta_isPlace 11 = .ok (.ifCond .lt 13, 3) := by decide +kernel
theorem d_Ta_isPlace_14 : decode b_Ta_isPlace 14 = .ok (.iload_n 1, 1) := by decide +kernel
theorem d_Ta_isPlace_15 : decode b_Ta_isPlace 15 = .ok (.bipush 8, 2) := by decide +kernel
theorem d_Ta_isPlace_17 : decode b_Ta_isPlace 17 = .ok (.if_icmp .ge 7, 3) := by decide +kernel
theorem d_Ta_isPlace_20 : decode b_Ta_isPlace 20 = .ok (.iconst 1, 1) := by decide +kernel
theorem d_Ta_isPlace_21 : decode b_Ta_isPlace 21 = .ok (.goto 4, 3) := by decide +kernel
theorem d_Ta_isPlace_24 : decode b_Ta_isPlace 24 = .ok (.iconst 0, 1) := by decide +kernel
theorem d_Ta_isPlace_25 : decode b_Ta_isPlace 25 = .ok (.ireturn, 1) := by decide +kernel
theorem d_Ta_between_0 : decode b_Ta_between 0 = .ok (.iconst 0, 1) := by decide +kernel
theorem d_Ta_between_1 : decode b_Ta_between 1 = .ok (.iload_n 0, 1) := by decide +kernel
theorem d_Ta_between_2 : decode b_Ta_between 2 = .ok (.iload_n 1, 1) := by decide +kernel
theorem d_Ta_between_3 : decode b_Ta_between 3 = .ok (.invokestatic 21, 3) := by decide +kernel
theorem d_Ta_between_6 : decode b_Ta_between 6 = .ok (.invokestatic 27, 3) := by decide +kernel
theorem d_Ta_between_9 : decode b_Ta_between 9 = .ok (.ireturn, 1) := by decide +kernel
theorem d_Ta_indexOf_0 : decode b_Ta_indexOf 0 = .ok (.iload_n 0, 1) := by decide +kernel
theorem d_Ta_indexOf_1 : decode b_Ta_indexOf 1 = .ok (.bipush 8, 2) := by decide +kernel
theorem d_Ta_indexOf_3 : decode b_Ta_indexOf 3 = .ok (.imul, 1) := by decide +kernel
theorem d_Ta_indexOf_4 : decode b_Ta_indexOf 4 = .ok (.iload_n 1, 1) := by decide +kernel
theorem d_Ta_indexOf_5 : decode b_Ta_indexOf 5 = .ok (.iadd, 1) := by decide +kernel
theorem d_Ta_indexOf_6 : decode b_Ta_indexOf 6 = .ok (.bipush 8, 2) := by decide +kernel
theorem d_Ta_indexOf_8 : decode b_Ta_indexOf 8 = .ok (.imul, 1) := by decide +kernel
theorem d_Ta_indexOf_9 : decode b_Ta_indexOf 9 = .ok (.iload_n 2, 1) := by decide +kernel
theorem d_Ta_indexOf_10 : decode b_Ta_indexOf 10 = .ok (.iadd, 1) := by decide +kernel
theorem d_Ta_indexOf_11 : decode b_Ta_indexOf 11 = .ok (.ireturn, 1) := by decide +kernel
theorem d_Ta_put_0 : decode b_Ta_put 0 = .ok (.iload_n 1, 1) := by decide +kernel
theorem d_Ta_put_1 : decode b_Ta_put 1 = .ok (.iload_n 2, 1) := by decide +kernel
theorem d_Ta_put_2 : decode b_Ta_put 2 = .ok (.iload_n 3, 1) := by decide +kernel
theorem d_Ta_put_3 : decode b_Ta_put 3 = .ok (.invokestatic 13, 3) := by decide +kernel
theorem d_Ta_put_6 : decode b_Ta_put 6 = .ok (.istore 5, 2) := by decide +kernel
theorem d_Ta_put_8 : decode b_Ta_put 8 = .ok (.aload_n 0, 1) := by decide +kernel
theorem d_Ta_put_9 : decode b_Ta_put 9 = .ok (.getfield 9, 3) := by decide +kernel
theorem d_Ta_put_12 : decode b_Ta_put 12 = .ok (.iload 5, 2) := by decide +kernel
theorem d_Ta_put_14 : decode b_Ta_put 14 = .ok (.iaload, 1) := by decide +kernel
theorem d_Ta_put_15 : decode b_Ta_put 15 = .ok (.istore 6, 2) := by decide +kernel
theorem d_Ta_put_17 : decode b_Ta_put 17 = .ok (.aload_n 0, 1) := by decide +kernel
theorem d_Ta_put_18 : decode b_Ta_put 18 = .ok (.getfield 9, 3) := by decide +kernel
theorem d_Ta_put_21 : decode b_Ta_put 21 = .ok (.iload 5, 2) := by decide +kernel
theorem d_Ta_put_23 : decode b_Ta_put 23 = .ok (.iload 4, 2) := by decide +kernel
theorem d_Ta_put_25 : decode b_Ta_put 25 = .ok (.iastore, 1) := by decide +kernel
theorem d_Ta_put_26 : decode b_Ta_put 26 = .ok (.iload 6, 2) := by decide +kernel
theorem d_Ta_put_28 : decode b_Ta_put 28 = .ok (.ireturn, 1) := by decide +kernel
theorem d_Ta_joined_0 : decode b_Ta_joined 0 = .ok (.iload_n 2, 1) := by decide +kernel
theorem d_Ta_joined_1 : decode b_Ta_joined 1 = .ok (.sipush 896, 3) := by decide +kernel
theorem d_Ta_joined_4 : decode b_Ta_joined 4 = .ok (.invokestatic 17, 3) := by decide +kernel
theorem d_Ta_joined_7 : decode b_Ta_joined 7 = .ok (.istore 4, 2) := by decide +kernel
theorem d_Ta_joined_9 : decode b_Ta_joined 9 = .ok (.iload_n 3, 1) := by decide +kernel
theorem d_Ta_joined_10 : decode b_Ta_joined 10 = .ok (.sipush 7000, 3) := by decide +kernel
theorem d_Ta_joined_13 : decode b_Ta_joined 13 = .ok (.invokestatic 17, 3) := by decide +kernel
theorem d_Ta_joined_16 : decode b_Ta_joined 16 = .ok (.istore 5, 2) := by decide +kernel
theorem d_Ta_joined_18 : decode b_Ta_joined 18 = .ok (.iload 4, 2) := by decide +kernel
theorem d_Ta_joined_20 : decode b_Ta_joined 20 = .ok (.sipush 128, 3) := by decide +kernel
theorem d_Ta_joined_23 : decode b_Ta_joined 23 = .ok (.idiv, 1) := by decide +kernel
theorem d_Ta_joined_24 : decode b_Ta_joined 24 = .ok (.bipush 6, 2) := by decide +kernel
theorem d_Ta_joined_26 : decode b_Ta_joined 26 = .ok (.invokestatic 21, 3) := by decide +kernel
theorem d_Ta_joined_29 : decode b_Ta_joined 29 = .ok (.istore 6, 2) := by decide +kernel
theorem d_Ta_joined_31 : decode b_Ta_joined 31 = .ok (.iload 5, 2) := by decide +kernel
theorem d_Ta_joined_33 : decode b_Ta_joined 33 = .ok (.sipush 1000, 3) := by decide +kernel
theorem d_Ta_joined_36 : decode b_Ta_joined 36 = .ok (.idiv, 1) := by decide +kernel
theorem d_Ta_joined_37 : decode b_Ta_joined 37 = .ok (.bipush 6, 2) := by decide +kernel
theorem d_Ta_joined_39 : decode b_Ta_joined 39 = .ok (.invokestatic 21, 3) := by decide +kernel
theorem d_Ta_joined_42 : decode b_Ta_joined 42 = .ok (.istore 7, 2) := by decide +kernel
theorem d_Ta_joined_44 : decode b_Ta_joined 44 = .ok (.iload 4, 2) := by decide +kernel
theorem d_Ta_joined_46 : decode b_Ta_joined 46 = .ok (.sipush 128, 3) := by decide +kernel
theorem d_Ta_joined_49 : decode b_Ta_joined 49 = .ok (.iload 6, 2) := by decide +kernel
theorem d_Ta_joined_51 : decode b_Ta_joined 51 = .ok (.imul, 1) := by decide +kernel
theorem d_Ta_joined_52 : decode b_Ta_joined 52 = .ok (.isub, 1) := by decide +kernel
theorem d_Ta_joined_53 : decode b_Ta_joined 53 = .ok (.istore 8, 2) := by decide +kernel
theorem d_Ta_joined_55 : decode b_Ta_joined 55 = .ok (.iload 5, 2) := by decide +kernel
theorem d_Ta_joined_57 : decode b_Ta_joined 57 = .ok (.sipush 1000, 3) := by decide +kernel
theorem d_Ta_joined_60 : decode b_Ta_joined 60 = .ok (.iload 7, 2) := by decide +kernel
theorem d_Ta_joined_62 : decode b_Ta_joined 62 = .ok (.imul, 1) := by decide +kernel
theorem d_Ta_joined_63 : decode b_Ta_joined 63 = .ok (.isub, 1) := by decide +kernel
theorem d_Ta_joined_64 : decode b_Ta_joined 64 = .ok (.istore 9, 2) := by decide +kernel
theorem d_Ta_joined_66 : decode b_Ta_joined 66 = .ok (.aload_n 0, 1) := by decide +kernel
theorem d_Ta_joined_67 : decode b_Ta_joined 67 = .ok (.getfield 9, 3) := by decide +kernel
theorem d_Ta_joined_70 : decode b_Ta_joined 70 = .ok (.iload_n 1, 1) := by decide +kernel
theorem d_Ta_joined_71 : decode b_Ta_joined 71 = .ok (.iload 6, 2) := by decide +kernel
theorem d_Ta_joined_73 : decode b_Ta_joined 73 = .ok (.iload 7, 2) := by decide +kernel
theorem d_Ta_joined_75 : decode b_Ta_joined 75 = .ok (.invokestatic 13, 3) := by decide +kernel
theorem d_Ta_joined_78 : decode b_Ta_joined 78 = .ok (.iaload, 1) := by decide +kernel
theorem d_Ta_joined_79 : decode b_Ta_joined 79 = .ok (.sipush 128, 3) := by decide +kernel
theorem d_Ta_joined_82 : decode b_Ta_joined 82 = .ok (.iload 8, 2) := by decide +kernel
theorem d_Ta_joined_84 : decode b_Ta_joined 84 = .ok (.isub, 1) := by decide +kernel
theorem d_Ta_joined_85 : decode b_Ta_joined 85 = .ok (.imul, 1) := by decide +kernel
theorem d_Ta_joined_86 : decode b_Ta_joined 86 = .ok (.aload_n 0, 1) := by decide +kernel
theorem d_Ta_joined_87 : decode b_Ta_joined 87 = .ok (.getfield 9, 3) := by decide +kernel
theorem d_Ta_joined_90 : decode b_Ta_joined 90 = .ok (.iload_n 1, 1) := by decide +kernel
theorem d_Ta_joined_91 : decode b_Ta_joined 91 = .ok (.iload 6, 2) := by decide +kernel
theorem d_Ta_joined_93 : decode b_Ta_joined 93 = .ok (.iconst 1, 1) := by decide +kernel
theorem d_Ta_joined_94 : decode b_Ta_joined 94 = .ok (.iadd, 1) := by decide +kernel
theorem d_Ta_joined_95 : decode b_Ta_joined 95 = .ok (.iload 7, 2) := by decide +kernel
theorem d_Ta_joined_97 : decode b_Ta_joined 97 = .ok (.invokestatic 13, 3) := by decide +kernel
theorem d_Ta_joined_100 : decode b_Ta_joined 100 = .ok (.iaload, 1) := by decide +kernel
theorem d_Ta_joined_101 : decode b_Ta_joined 101 = .ok (.iload 8, 2) := by decide +kernel
theorem d_Ta_joined_103 : decode b_Ta_joined 103 = .ok (.imul, 1) := by decide +kernel
theorem d_Ta_joined_104 : decode b_Ta_joined 104 = .ok (.iadd, 1) := by decide +kernel
theorem d_Ta_joined_105 : decode b_Ta_joined 105 = .ok (.istore 10, 2) := by decide +kernel
theorem d_Ta_joined_107 : decode b_Ta_joined 107 = .ok (.aload_n 0, 1) := by decide +kernel
theorem d_Ta_joined_108 : decode b_Ta_joined 108 = .ok (.getfield 9, 3) := by decide +kernel
theorem d_Ta_joined_111 : decode b_Ta_joined 111 = .ok (.iload_n 1, 1) := by decide +kernel
theorem d_Ta_joined_112 : decode b_Ta_joined 112 = .ok (.iload 6, 2) := by decide +kernel
theorem d_Ta_joined_114 : decode b_Ta_joined 114 = .ok (.iload 7, 2) := by decide +kernel
theorem d_Ta_joined_116 : decode b_Ta_joined 116 = .ok (.iconst 1, 1) := by decide +kernel
theorem d_Ta_joined_117 : decode b_Ta_joined 117 = .ok (.iadd, 1) := by decide +kernel
theorem d_Ta_joined_118 : decode b_Ta_joined 118 = .ok (.invokestatic 13, 3) := by decide +kernel
theorem d_Ta_joined_121 : decode b_Ta_joined 121 = .ok (.iaload, 1) := by decide +kernel
theorem d_Ta_joined_122 : decode b_Ta_joined 122 = .ok (.sipush 128, 3) := by decide +kernel
theorem d_Ta_joined_125 : decode b_Ta_joined 125 = .ok (.iload 8, 2) := by decide +kernel
theorem d_Ta_joined_127 : decode b_Ta_joined 127 = .ok (.isub, 1) := by decide +kernel
theorem d_Ta_joined_128 : decode b_Ta_joined 128 = .ok (.imul, 1) := by decide +kernel
theorem d_Ta_joined_129 : decode b_Ta_joined 129 = .ok (.aload_n 0, 1) := by decide +kernel
theorem d_Ta_joined_130 : decode b_Ta_joined 130 = .ok (.getfield 9, 3) := by decide +kernel
theorem d_Ta_joined_133 : decode b_Ta_joined 133 = .ok (.iload_n 1, 1) := by decide +kernel
theorem d_Ta_joined_134 : decode b_Ta_joined 134 = .ok (.iload 6, 2) := by decide +kernel
theorem d_Ta_joined_136 : decode b_Ta_joined 136 = .ok (.iconst 1, 1) := by decide +kernel
theorem d_Ta_joined_137 : decode b_Ta_joined 137 = .ok (.iadd, 1) := by decide +kernel
theorem d_Ta_joined_138 : decode b_Ta_joined 138 = .ok (.iload 7, 2) := by decide +kernel
theorem d_Ta_joined_140 : decode b_Ta_joined 140 = .ok (.iconst 1, 1) := by decide +kernel
theorem d_Ta_joined_141 : decode b_Ta_joined 141 = .ok (.iadd, 1) := by decide +kernel
theorem d_Ta_joined_142 : decode b_Ta_joined 142 = .ok (.invokestatic 13, 3) := by decide +kernel
theorem d_Ta_joined_145 : decode b_Ta_joined 145 = .ok (.iaload, 1) := by decide +kernel
theorem d_Ta_joined_146 : decode b_Ta_joined 146 = .ok (.iload 8, 2) := by decide +kernel
theorem d_Ta_joined_148 : decode b_Ta_joined 148 = .ok (.imul, 1) := by decide +kernel
theorem d_Ta_joined_149 : decode b_Ta_joined 149 = .ok (.iadd, 1) := by decide +kernel
theorem d_Ta_joined_150 : decode b_Ta_joined 150 = .ok (.istore 11, 2) := by decide +kernel
theorem d_Ta_joined_152 : decode b_Ta_joined 152 = .ok (.iload 10, 2) := by decide +kernel
theorem d_Ta_joined_154 : decode b_Ta_joined 154 = .ok (.sipush 1000, 3) := by decide +kernel
theorem d_Ta_joined_157 : decode b_Ta_joined 157 = .ok (.iload 9, 2) := by decide +kernel
theorem d_Ta_joined_159 : decode b_Ta_joined 159 = .ok (.isub, 1) := by decide +kernel
theorem d_Ta_joined_160 : decode b_Ta_joined 160 = .ok (.imul, 1) := by decide +kernel
theorem d_Ta_joined_161 : decode b_Ta_joined 161 = .ok (.iload 11, 2) := by decide +kernel
theorem d_Ta_joined_163 : decode b_Ta_joined 163 = .ok (.iload 9, 2) := by decide +kernel
theorem d_Ta_joined_165 : decode b_Ta_joined 165 = .ok (.imul, 1) := by decide +kernel
theorem d_Ta_joined_166 : decode b_Ta_joined 166 = .ok (.iadd, 1) := by decide +kernel
theorem d_Ta_joined_167 : decode b_Ta_joined 167 = .ok (.ldc 26, 2) := by decide +kernel
theorem d_Ta_joined_169 : decode b_Ta_joined 169 = .ok (.idiv, 1) := by decide +kernel
theorem d_Ta_joined_170 : decode b_Ta_joined 170 = .ok (.ireturn, 1) := by decide +kernel
theorem d_Wi_clear_0 : decode b_Wi_clear 0 = .ok (.iconst 0, 1) := by decide +kernel
theorem d_Wi_clear_1 : decode b_Wi_clear 1 = .ok (.istore_n 1, 1) := by decide +kernel
theorem d_Wi_clear_2 : decode b_Wi_clear 2 = .ok (.iload_n 1, 1) := by decide +kernel
theorem d_Wi_clear_3 : decode b_Wi_clear 3 = .ok (.iconst 5, 1) := by decide +kernel
theorem d_Wi_clear_4 : decode b_Wi_clear 4 = .ok (.if_icmp .gt 16, 3) := by decide +kernel
theorem d_Wi_clear_7 : decode b_Wi_clear 7 = .ok (.aload_n 0, 1) := by decide +kernel
theorem d_Wi_clear_8 : decode b_Wi_clear 8 = .ok (.getfield 9, 3) := by decide +kernel
theorem d_Wi_clear_11 : decode b_Wi_clear 11 = .ok (.iload_n 1, 1) := by decide +kernel
theorem d_Wi_clear_12 : decode b_Wi_clear 12 = .ok (.iconst (-1), 1) := by decide +kernel
theorem d_Wi_clear_13 : decode b_Wi_clear 13 = .ok (.iastore, 1) := by decide +kernel
theorem d_Wi_clear_14 : decode b_Wi_clear 14 = .ok (.iinc 1 1, 3) := by decide +kernel
theorem d_Wi_clear_17 : decode b_Wi_clear 17 = .ok (.goto (-15), 3) := by decide +kernel
theorem d_Wi_clear_20 : decode b_Wi_clear 20 = .ok (.aload_n 0, 1) := by decide +kernel
theorem d_Wi_clear_21 : decode b_Wi_clear 21 = .ok (.iconst 0, 1) := by decide +kernel
theorem d_Wi_clear_22 : decode b_Wi_clear 22 = .ok (.putfield 16, 3) := by decide +kernel
theorem d_Wi_clear_25 : decode b_Wi_clear 25 = .ok (.return_, 1) := by decide +kernel
theorem d_Wi_add_0 : decode b_Wi_add 0 = .ok (.aload_n 0, 1) := by decide +kernel
theorem d_Wi_add_1 : decode b_Wi_add 1 = .ok (.getfield 9, 3) := by decide +kernel
theorem d_Wi_add_4 : decode b_Wi_add 4 = .ok (.iload_n 1, 1) := by decide +kernel
theorem d_Wi_add_5 : decode b_Wi_add 5 = .ok (.iaload, 1) := by decide +kernel
theorem d_Wi_add_6 : decode b_Wi_add 6 = .ok (.iconst (-1), 1) := by decide +kernel
theorem d_Wi_add_7 : decode b_Wi_add 7 = .ok (.if_icmp .eq 13, 3) := by decide +kernel
theorem d_Wi_add_10 : decode b_Wi_add 10 = .ok (.iload_n 2, 1) := by decide +kernel
theorem d_Wi_add_11 : decode b_Wi_add 11 = .ok (.aload_n 0, 1) := by decide +kernel
theorem d_Wi_add_12 : decode b_Wi_add 12 = .ok (.getfield 9, 3) := by decide +kernel
theorem d_Wi_add_15 : decode b_Wi_add 15 = .ok (.iload_n 1, 1) := by decide +kernel
theorem d_Wi_add_16 : decode b_Wi_add 16 = .ok (.iaload, 1) := by decide +kernel
theorem d_Wi_add_17 : decode b_Wi_add 17 = .ok (.if_icmp .ge 10, 3) := by decide +kernel
theorem d_Wi_add_20 : decode b_Wi_add 20 = .ok (.aload_n 0, 1) := by decide +kernel
theorem d_Wi_add_21 : decode b_Wi_add 21 = .ok (.getfield 9, 3) := by decide +kernel
theorem d_Wi_add_24 : decode b_Wi_add 24 = .ok (.iload_n 1, 1) := by decide +kernel
theorem d_Wi_add_25 : decode b_Wi_add 25 = .ok (.iload_n 2, 1) := by decide +kernel
theorem d_Wi_add_26 : decode b_Wi_add 26 = .ok (.iastore, 1) := by decide +kernel
theorem d_Wi_add_27 : decode b_Wi_add 27 = .ok (.aload_n 0, 1) := by decide +kernel
theorem d_Wi_add_28 : decode b_Wi_add 28 = .ok (.dup, 1) := by decide +kernel
theorem d_Wi_add_29 : decode b_Wi_add 29 = .ok (.getfield 16, 3) := by decide +kernel
theorem d_Wi_add_32 : decode b_Wi_add 32 = .ok (.iconst 1, 1) := by decide +kernel
theorem d_Wi_add_33 : decode b_Wi_add 33 = .ok (.iadd, 1) := by decide +kernel
theorem d_Wi_add_34 : decode b_Wi_add 34 = .ok (.putfield 16, 3) := by decide +kernel
theorem d_Wi_add_37 : decode b_Wi_add 37 = .ok (.aload_n 0, 1) := by decide +kernel
theorem d_Wi_add_38 : decode b_Wi_add 38 = .ok (.getfield 16, 3) := by decide +kernel
theorem d_Wi_add_41 : decode b_Wi_add 41 = .ok (.ireturn, 1) := by decide +kernel
theorem d_Wi_appliedTo_0 : decode b_Wi_appliedTo 0 = .ok (.iload_n 1, 1) := by decide +kernel
theorem d_Wi_appliedTo_1 : decode b_Wi_appliedTo 1 = .ok (.istore_n 2, 1) := by decide +kernel
theorem d_Wi_appliedTo_2 : decode b_Wi_appliedTo 2 = .ok (.iconst 1, 1) := by decide +kernel
theorem d_Wi_appliedTo_3 : decode b_Wi_appliedTo 3 = .ok (.istore_n 3, 1) := by decide +kernel
theorem d_Wi_appliedTo_4 : decode b_Wi_appliedTo 4 = .ok (.iload_n 3, 1) := by decide +kernel
theorem d_Wi_appliedTo_5 : decode b_Wi_appliedTo 5 = .ok (.iconst 5, 1) := by decide +kernel
theorem d_Wi_appliedTo_6 : decode b_Wi_appliedTo 6 = .ok (.if_icmp .gt 50, 3) := by decide +kernel
theorem d_Wi_appliedTo_9 : decode b_Wi_appliedTo 9 = .ok (.aload_n 0, 1) := by decide +kernel
theorem d_Wi_appliedTo_10 : decode b_Wi_appliedTo 10 = .ok (.getfield 9, 3) := by decide +kernel
theorem d_Wi_appliedTo_13 : decode b_Wi_appliedTo 13 = .ok (.iload_n 3, 1) := by decide +kernel
theorem d_Wi_appliedTo_14 : decode b_Wi_appliedTo 14 = .ok (.iaload, 1) := by decide +kernel
theorem d_Wi_appliedTo_15 : decode b_Wi_appliedTo 15 = .ok (.iconst (-1), 1) := by decide +kernel
theorem d_Wi_appliedTo_16 : decode b_Wi_appliedTo 16 = .ok (.if_icmp .eq 34, 3) := by decide +kernel
theorem d_Wi_appliedTo_19 : decode b_Wi_appliedTo 19 = .ok (.iload_n 3, 1) := by decide +kernel
theorem d_Wi_appliedTo_20 : decode b_Wi_appliedTo 20 = .ok (.iconst 2, 1) := by decide +kernel
theorem d_Wi_appliedTo_21 : decode b_Wi_appliedTo 21 = .ok (.irem, 1) := by decide +kernel
theorem d_Wi_appliedTo_22 : decode b_Wi_appliedTo 22 = .ok (.iconst 1, 1) := by decide +kernel
theorem d_Wi_appliedTo_23 : decode b_Wi_appliedTo 23 = .ok (.if_icmp .ne 16, 3) := by decide +kernel
theorem d_Wi_appliedTo_26 : decode b_Wi_appliedTo 26 = .ok (.iload_n 2, 1) := by decide +kernel
theorem d_Wi_appliedTo_27 : decode b_Wi_appliedTo 27 = .ok (.aload_n 0, 1) := by decide +kernel
theorem d_Wi_appliedTo_28 : decode b_Wi_appliedTo 28 = .ok (.getfield 9, 3) := by decide +kernel
theorem d_Wi_appliedTo_31 : decode b_Wi_appliedTo 31 = .ok (.iload_n 3, 1) := by decide +kernel
theorem d_Wi_appliedTo_32 : decode b_Wi_appliedTo 32 = .ok (.iaload, 1) := by decide +kernel
theorem d_Wi_appliedTo_33 : decode b_Wi_appliedTo 33 = .ok (.invokestatic 20, 3) := by decide +kernel
theorem d_Wi_appliedTo_36 : decode b_Wi_appliedTo 36 = .ok (.goto 13, 3) := by decide +kernel
theorem d_Wi_appliedTo_39 : decode b_Wi_appliedTo 39 = .ok (.iload_n 2, 1) := by decide +kernel
theorem d_Wi_appliedTo_40 : decode b_Wi_appliedTo 40 = .ok (.aload_n 0, 1) := by decide +kernel
theorem d_Wi_appliedTo_41 : decode b_Wi_appliedTo 41 = .ok (.getfield 9, 3) := by decide +kernel
theorem d_Wi_appliedTo_44 : decode b_Wi_appliedTo 44 = .ok (.iload_n 3, 1) := by decide +kernel
theorem d_Wi_appliedTo_45 : decode b_Wi_appliedTo 45 = .ok (.iaload, 1) := by decide +kernel
theorem d_Wi_appliedTo_46 : decode b_Wi_appliedTo 46 = .ok (.invokestatic 26, 3) := by decide +kernel
theorem d_Wi_appliedTo_49 : decode b_Wi_appliedTo 49 = .ok (.istore_n 2, 1) := by decide +kernel
theorem d_Wi_appliedTo_50 : decode b_Wi_appliedTo 50 = .ok (.iinc 3 1, 3) := by decide +kernel
theorem d_Wi_appliedTo_53 : decode b_Wi_appliedTo 53 = .ok (.goto (-49), 3) := by decide +kernel
theorem d_Wi_appliedTo_56 : decode b_Wi_appliedTo 56 = .ok (.iload_n 2, 1) := by decide +kernel
theorem d_Wi_appliedTo_57 : decode b_Wi_appliedTo 57 = .ok (.ireturn, 1) := by decide +kernel
theorem d_Ma_floorDiv_0 : decode b_Ma_floorDiv 0 = .ok (.iload_n 0, 1) := by decide +kernel
theorem d_Ma_floorDiv_1 : decode b_Ma_floorDiv 1 = .ok (.iload_n 1, 1) := by decide +kernel
theorem d_Ma_floorDiv_2 : decode b_Ma_floorDiv 2 = .ok (.idiv, 1) := by decide +kernel
theorem d_Ma_floorDiv_3 : decode b_Ma_floorDiv 3 = .ok (.istore_n 2, 1) := by decide +kernel
theorem d_Ma_floorDiv_4 : decode b_Ma_floorDiv 4 = .ok (.iload_n 0, 1) := by decide +kernel
theorem d_Ma_floorDiv_5 : decode b_Ma_floorDiv 5 = .ok (.iload_n 1, 1) := by decide +kernel
theorem d_Ma_floorDiv_6 : decode b_Ma_floorDiv 6 = .ok (.ixor, 1) := by decide +kernel
theorem d_Ma_floorDiv_7 : decode b_Ma_floorDiv 7 = .ok (.ifCond .ge 14, 3) := by decide +kernel
theorem d_Ma_floorDiv_10 : decode b_Ma_floorDiv 10 = .ok (.iload_n 2, 1) := by decide +kernel
theorem d_Ma_floorDiv_11 : decode b_Ma_floorDiv 11 = .ok (.iload_n 1, 1) := by decide +kernel
theorem d_Ma_floorDiv_12 : decode b_Ma_floorDiv 12 = .ok (.imul, 1) := by decide +kernel
theorem d_Ma_floorDiv_13 : decode b_Ma_floorDiv 13 = .ok (.iload_n 0, 1) := by decide +kernel
theorem d_Ma_floorDiv_14 : decode b_Ma_floorDiv 14 = .ok (.if_icmp .eq 7, 3) := by decide +kernel
theorem d_Ma_floorDiv_17 : decode b_Ma_floorDiv 17 = .ok (.iload_n 2, 1) := by decide +kernel
theorem d_Ma_floorDiv_18 : decode b_Ma_floorDiv 18 = .ok (.iconst 1, 1) := by decide +kernel
theorem d_Ma_floorDiv_19 : decode b_Ma_floorDiv 19 = .ok (.isub, 1) := by decide +kernel
theorem d_Ma_floorDiv_20 : decode b_Ma_floorDiv 20 = .ok (.ireturn, 1) := by decide +kernel
theorem d_Ma_floorDiv_21 : decode b_Ma_floorDiv 21 = .ok (.iload_n 2, 1) := by decide +kernel
theorem d_Ma_floorDiv_22 : decode b_Ma_floorDiv 22 = .ok (.ireturn, 1) := by decide +kernel
theorem d_Id_forget_0 : decode b_Id_forget 0 = .ok (.aload_n 0, 1) := by decide +kernel
theorem d_Id_forget_1 : decode b_Id_forget 1 = .ok (.iconst 0, 1) := by decide +kernel
theorem d_Id_forget_2 : decode b_Id_forget 2 = .ok (.putfield 13, 3) := by decide +kernel
theorem d_Id_forget_5 : decode b_Id_forget 5 = .ok (.return_, 1) := by decide +kernel
theorem d_Id_torqueAt_0 : decode b_Id_torqueAt 0 = .ok (.aload_n 0, 1) := by decide +kernel
theorem d_Id_torqueAt_1 : decode b_Id_torqueAt 1 = .ok (.getfield 7, 3) := by decide +kernel
theorem d_Id_torqueAt_4 : decode b_Id_torqueAt 4 = .ok (.iload_n 1, 1) := by decide +kernel
theorem d_Id_torqueAt_5 : decode b_Id_torqueAt 5 = .ok (.isub, 1) := by decide +kernel
theorem d_Id_torqueAt_6 : decode b_Id_torqueAt 6 = .ok (.istore_n 2, 1) := by decide +kernel
theorem d_Id_torqueAt_7 : decode b_Id_torqueAt 7 = .ok (.iconst 4, 1) := by decide +kernel
theorem d_Id_torqueAt_8 : decode b_Id_torqueAt 8 = .ok (.iload_n 2, 1) := by decide +kernel
theorem d_Id_torqueAt_9 : decode b_Id_torqueAt 9 = .ok (.imul, 1) := by decide +kernel
theorem d_Id_torqueAt_10 : decode b_Id_torqueAt 10 = .ok (.aload_n 0, 1) := by decide +kernel
theorem d_Id_torqueAt_11 : decode b_Id_torqueAt 11 = .ok (.getfield 13, 3) := by decide +kernel
theorem d_Id_torqueAt_14 : decode b_Id_torqueAt 14 = .ok (.iadd, 1) := by decide +kernel
theorem d_Id_torqueAt_15 : decode b_Id_torqueAt 15 = .ok (.bipush 16, 2) := by decide +kernel
theorem d_Id_torqueAt_17 : decode b_Id_torqueAt 17 = .ok (.invokestatic 16, 3) := by decide +kernel
theorem d_Id_torqueAt_20 : decode b_Id_torqueAt 20 = .ok (.istore_n 3, 1) := by decide +kernel
theorem d_Id_torqueAt_21 : decode b_Id_torqueAt 21 = .ok (.iload_n 3, 1) := by decide +kernel
theorem d_Id_torqueAt_22 : decode b_Id_torqueAt 22 = .ok (.sipush 200, 3) := by decide +kernel
theorem d_Id_torqueAt_25 : decode b_Id_torqueAt 25 = .ok (.if_icmp .le 7, 3) := by decide +kernel
theorem d_Id_torqueAt_28 : decode b_Id_torqueAt 28 = .ok (.iload_n 2, 1) := by decide +kernel
theorem d_Id_torqueAt_29 : decode b_Id_torqueAt 29 = .ok (.ifCond .gt 11, 3) := by decide +kernel
theorem d_Id_torqueAt_32 : decode b_Id_torqueAt 32 = .ok (.iload_n 3, 1) := by decide +kernel
theorem d_Id_torqueAt_33 : decode b_Id_torqueAt 33 = .ok (.ifCond .ge 11, 3) := by decide +kernel
theorem d_Id_torqueAt_36 : decode b_Id_torqueAt 36 = .ok (.iload_n 2, 1) := by decide +kernel
theorem d_Id_torqueAt_37 : decode b_Id_torqueAt 37 = .ok (.ifCond .ge 7, 3) := by decide +kernel
theorem d_Id_torqueAt_40 : decode b_Id_torqueAt 40 = .ok (.iconst 1, 1) := by decide +kernel
theorem d_Id_torqueAt_41 : decode b_Id_torqueAt 41 = .ok (.goto 4, 3) := by decide +kernel
theorem d_Id_torqueAt_44 : decode b_Id_torqueAt 44 = .ok (.iconst 0, 1) := by decide +kernel
theorem d_Id_torqueAt_45 : decode b_Id_torqueAt 45 = .ok (.istore 4, 2) := by decide +kernel
theorem d_Id_torqueAt_47 : decode b_Id_torqueAt 47 = .ok (.iload 4, 2) := by decide +kernel
theorem d_Id_torqueAt_49 : decode b_Id_torqueAt 49 = .ok (.ifCond .ne 13, 3) := by decide +kernel
theorem d_Id_torqueAt_52 : decode b_Id_torqueAt 52 = .ok (.aload_n 0, 1) := by decide +kernel
theorem d_Id_torqueAt_53 : decode b_Id_torqueAt 53 = .ok (.dup, 1) := by decide +kernel
theorem d_Id_torqueAt_54 : decode b_Id_torqueAt 54 = .ok (.getfield 13, 3) := by decide +kernel
theorem d_Id_torqueAt_57 : decode b_Id_torqueAt 57 = .ok (.iload_n 2, 1) := by decide +kernel
theorem d_Id_torqueAt_58 : decode b_Id_torqueAt 58 = .ok (.iadd, 1) := by decide +kernel
theorem d_Id_torqueAt_59 : decode b_Id_torqueAt 59 = .ok (.putfield 13, 3) := by decide +kernel
theorem d_Id_torqueAt_62 : decode b_Id_torqueAt 62 = .ok (.iconst 0, 1) := by decide +kernel
theorem d_Id_torqueAt_63 : decode b_Id_torqueAt 63 = .ok (.iload_n 3, 1) := by decide +kernel
theorem d_Id_torqueAt_64 : decode b_Id_torqueAt 64 = .ok (.sipush 200, 3) := by decide +kernel
theorem d_Id_torqueAt_67 : decode b_Id_torqueAt 67 = .ok (.invokestatic 22, 3) := by decide +kernel
theorem d_Id_torqueAt_70 : decode b_Id_torqueAt 70 = .ok (.invokestatic 25, 3) := by decide +kernel
theorem d_Id_torqueAt_73 : decode b_Id_torqueAt 73 = .ok (.ireturn, 1) := by decide +kernel
theorem d_To_count_0 : decode b_To_count 0 = .ok (.aload_n 0, 1) := by decide +kernel
theorem d_To_count_1 : decode b_To_count 1 = .ok (.dup, 1) := by decide +kernel
theorem d_To_count_2 : decode b_To_count 2 = .ok (.getfield 7, 3) := by decide +kernel
theorem d_To_count_5 : decode b_To_count 5 = .ok (.lconst 1, 1) := by decide +kernel
theorem d_To_count_6 : decode b_To_count 6 = .ok (.ladd, 1) := by decide +kernel
theorem d_To_count_7 : decode b_To_count 7 = .ok (.putfield 7, 3) := by decide +kernel
theorem d_To_count_10 : decode b_To_count 10 = .ok (.aload_n 0, 1) := by decide +kernel
theorem d_To_count_11 : decode b_To_count 11 = .ok (.dup, 1) := by decide +kernel
theorem d_To_count_12 : decode b_To_count 12 = .ok (.getfield 13, 3) := by decide +kernel
theorem d_To_count_15 : decode b_To_count 15 = .ok (.iload_n 1, 1) := by decide +kernel
theorem d_To_count_16 : decode b_To_count 16 = .ok (.i2l, 1) := by decide +kernel
theorem d_To_count_17 : decode b_To_count 17 = .ok (.iload_n 2, 1) := by decide +kernel
theorem d_To_count_18 : decode b_To_count 18 = .ok (.i2l, 1) := by decide +kernel
theorem d_To_count_19 : decode b_To_count 19 = .ok (.lmul, 1) := by decide +kernel
theorem d_To_count_20 : decode b_To_count 20 = .ok (.ladd, 1) := by decide +kernel
theorem d_To_count_21 : decode b_To_count 21 = .ok (.putfield 13, 3) := by decide +kernel
theorem d_To_count_24 : decode b_To_count 24 = .ok (.aload_n 0, 1) := by decide +kernel
theorem d_To_count_25 : decode b_To_count 25 = .ok (.dup, 1) := by decide +kernel
theorem d_To_count_26 : decode b_To_count 26 = .ok (.getfield 16, 3) := by decide +kernel
theorem d_To_count_29 : decode b_To_count 29 = .ok (.iload_n 3, 1) := by decide +kernel
theorem d_To_count_30 : decode b_To_count 30 = .ok (.i2l, 1) := by decide +kernel
theorem d_To_count_31 : decode b_To_count 31 = .ok (.ladd, 1) := by decide +kernel
theorem d_To_count_32 : decode b_To_count 32 = .ok (.putfield 16, 3) := by decide +kernel
theorem d_To_count_35 : decode b_To_count 35 = .ok (.iload 4, 2) := by decide +kernel
theorem d_To_count_37 : decode b_To_count 37 = .ok (.ifCond .eq 13, 3) := by decide +kernel
theorem d_To_count_40 : decode b_To_count 40 = .ok (.aload_n 0, 1) := by decide +kernel
theorem d_To_count_41 : decode b_To_count 41 = .ok (.dup, 1) := by decide +kernel
theorem d_To_count_42 : decode b_To_count 42 = .ok (.getfield 19, 3) := by decide +kernel
theorem d_To_count_45 : decode b_To_count 45 = .ok (.lconst 1, 1) := by decide +kernel
theorem d_To_count_46 : decode b_To_count 46 = .ok (.ladd, 1) := by decide +kernel
theorem d_To_count_47 : decode b_To_count 47 = .ok (.putfield 19, 3) := by decide +kernel
theorem d_To_count_50 : decode b_To_count 50 = .ok (.return_, 1) := by decide +kernel
theorem d_X_isUpTo_0 : decode b_X_isUpTo 0 = .ok (.lload_n 0, 1) := by decide +kernel
theorem d_X_isUpTo_1 : decode b_X_isUpTo 1 = .ok (.lconst 0, 1) := by decide +kernel
theorem d_X_isUpTo_2 : decode b_X_isUpTo 2 = .ok (.lcmp, 1) := by decide +kernel
theorem d_X_isUpTo_3 : decode b_X_isUpTo 3 = .ok (.ifCond .lt 13, 3) := by decide +kernel
theorem d_X_isUpTo_6 : decode b_X_isUpTo 6 = .ok (.lload_n 0, 1) := by decide +kernel
theorem d_X_isUpTo_7 : decode b_X_isUpTo 7 = .ok (.lload_n 2, 1) := by decide +kernel
theorem d_X_isUpTo_8 : decode b_X_isUpTo 8 = .ok (.lcmp, 1) := by decide +kernel
theorem d_X_isUpTo_9 : decode b_X_isUpTo 9 = .ok (.ifCond .gt 7, 3) := by decide +kernel
theorem d_X_isUpTo_12 : decode b_X_isUpTo 12 = .ok (.iconst 1, 1) := by decide +kernel
theorem d_X_isUpTo_13 : decode b_X_isUpTo 13 = .ok (.goto 4, 3) := by decide +kernel
theorem d_X_isUpTo_16 : decode b_X_isUpTo 16 = .ok (.iconst 0, 1) := by decide +kernel
theorem d_X_isUpTo_17 : decode b_X_isUpTo 17 = .ok (.ireturn, 1) := by decide +kernel
theorem d_X_ramped_0 : decode b_X_ramped 0 = .ok (.iload_n 0, 1) := by decide +kernel
theorem d_X_ramped_1 : decode b_X_ramped 1 = .ok (.bipush 80, 2) := by decide +kernel
theorem d_X_ramped_3 : decode b_X_ramped 3 = .ok (.isub, 1) := by decide +kernel
theorem d_X_ramped_4 : decode b_X_ramped 4 = .ok (.iload_n 0, 1) := by decide +kernel
theorem d_X_ramped_5 : decode b_X_ramped 5 = .ok (.bipush 40, 2) := by decide +kernel
theorem d_X_ramped_7 : decode b_X_ramped 7 = .ok (.iadd, 1) := by decide +kernel
theorem d_X_ramped_8 : decode b_X_ramped 8 = .ok (.iload_n 1, 1) := by decide +kernel
theorem d_X_ramped_9 : decode b_X_ramped 9 = .ok (.invokestatic 91, 3) := by decide +kernel
theorem d_X_ramped_12 : decode b_X_ramped 12 = .ok (.invokestatic 207, 3) := by decide +kernel
theorem d_X_ramped_15 : decode b_X_ramped 15 = .ok (.ireturn, 1) := by decide +kernel
theorem d_X_drives_0 : decode b_X_drives 0 = .ok (.aload_n 0, 1) := by decide +kernel
theorem d_X_drives_1 : decode b_X_drives 1 = .ok (.getfield 82, 3) := by decide +kernel
theorem d_X_drives_4 : decode b_X_drives 4 = .ok (.iconst 3, 1) := by decide +kernel
theorem d_X_drives_5 : decode b_X_drives 5 = .ok (.if_icmp .eq 15, 3) := by decide +kernel
theorem d_X_drives_8 : decode b_X_drives 8 = .ok (.aload_n 0, 1) := by decide +kernel
theorem d_X_drives_9 : decode b_X_drives 9 = .ok (.getfield 82, 3) := by decide +kernel
theorem d_X_drives_12 : decode b_X_drives 12 = .ok (.iconst 4, 1) := by decide +kernel
theorem d_X_drives_13 : decode b_X_drives 13 = .ok (.if_icmp .eq 7, 3) := by decide +kernel
theorem d_X_drives_16 : decode b_X_drives 16 = .ok (.iconst 1, 1) := by decide +kernel
theorem d_X_drives_17 : decode b_X_drives 17 = .ok (.goto 4, 3) := by decide +kernel
theorem d_X_drives_20 : decode b_X_drives 20 = .ok (.iconst 0, 1) := by decide +kernel
theorem d_X_drives_21 : decode b_X_drives 21 = .ok (.ireturn, 1) := by decide +kernel
theorem d_X_isTooMuch_0 : decode b_X_isTooMuch 0 = .ok (.lload_n 1, 1) := by decide +kernel
theorem d_X_isTooMuch_1 : decode b_X_isTooMuch 1 = .ok (.aload_n 0, 1) := by decide +kernel
theorem d_X_isTooMuch_2 : decode b_X_isTooMuch 2 = .ok (.getfield 97, 3) := by decide +kernel
theorem d_X_isTooMuch_5 : decode b_X_isTooMuch 5 = .ok (.bipush 30, 2) := by decide +kernel
theorem d_X_isTooMuch_7 : decode b_X_isTooMuch 7 = .ok (.iadd, 1) := by decide +kernel
theorem d_X_isTooMuch_8 : decode b_X_isTooMuch 8 = .ok (.i2l, 1) := by decide +kernel
theorem d_X_isTooMuch_9 : decode b_X_isTooMuch 9 = .ok (.lcmp, 1) := by decide +kernel
theorem d_X_isTooMuch_10 : decode b_X_isTooMuch 10 = .ok (.ifCond .le 17, 3) := by decide +kernel
theorem d_X_isTooMuch_13 : decode b_X_isTooMuch 13 = .ok (.lload_n 1, 1) := by decide +kernel
theorem d_X_isTooMuch_14 : decode b_X_isTooMuch 14 = .ok (.aload_n 0, 1) := by decide +kernel
theorem d_X_isTooMuch_15 : decode b_X_isTooMuch 15 = .ok (.getfield 67, 3) := by decide +kernel
theorem d_X_isTooMuch_18 : decode b_X_isTooMuch 18 = .ok (.i2l, 1) := by decide +kernel
theorem d_X_isTooMuch_19 : decode b_X_isTooMuch 19 = .ok (.lcmp, 1) := by decide +kernel
theorem d_X_isTooMuch_20 : decode b_X_isTooMuch 20 = .ok (.ifCond .le 7, 3) := by decide +kernel
theorem d_X_isTooMuch_23 : decode b_X_isTooMuch 23 = .ok (.iconst 1, 1) := by decide +kernel
theorem d_X_isTooMuch_24 : decode b_X_isTooMuch 24 = .ok (.goto 4, 3) := by decide +kernel
theorem d_X_isTooMuch_27 : decode b_X_isTooMuch 27 = .ok (.iconst 0, 1) := by decide +kernel
theorem d_X_isTooMuch_28 : decode b_X_isTooMuch 28 = .ok (.ireturn, 1) := by decide +kernel
theorem d_X_takeSpeed_0 : decode b_X_takeSpeed 0 = .ok (.aload_n 0, 1) := by decide +kernel
theorem d_X_takeSpeed_1 : decode b_X_takeSpeed 1 = .ok (.getfield 37, 3) := by decide +kernel
theorem d_X_takeSpeed_4 : decode b_X_takeSpeed 4 = .ok (.iconst 2, 1) := by decide +kernel
theorem d_X_takeSpeed_5 : decode b_X_takeSpeed 5 = .ok (.baload, 1) := by decide +kernel
theorem d_X_takeSpeed_6 : decode b_X_takeSpeed 6 = .ok (.ifCond .ne 8, 3) := by decide +kernel
theorem d_X_takeSpeed_9 : decode b_X_takeSpeed 9 = .ok (.aload_n 0, 1) := by decide +kernel
theorem d_X_takeSpeed_10 : decode b_X_takeSpeed 10 = .ok (.iload_n 1, 1) := by decide +kernel
theorem d_X_takeSpeed_11 : decode b_X_takeSpeed 11 = .ok (.putfield 107, 3) := by decide +kernel
theorem d_X_takeSpeed_14 : decode b_X_takeSpeed 14 = .ok (.return_, 1) := by decide +kernel
theorem d_X_takeTracks_0 : decode b_X_takeTracks 0 = .ok (.aload_n 0, 1) := by decide +kernel
theorem d_X_takeTracks_1 : decode b_X_takeTracks 1 = .ok (.getfield 37, 3) := by decide +kernel
theorem d_X_takeTracks_4 : decode b_X_takeTracks 4 = .ok (.iconst 0, 1) := by decide +kernel
theorem d_X_takeTracks_5 : decode b_X_takeTracks 5 = .ok (.baload, 1) := by decide +kernel
theorem d_X_takeTracks_6 : decode b_X_takeTracks 6 = .ok (.ifCond .eq 7, 3) := by decide +kernel
theorem d_X_takeTracks_9 : decode b_X_takeTracks 9 = .ok (.iload_n 2, 1) := by decide +kernel
theorem d_X_takeTracks_10 : decode b_X_takeTracks 10 = .ok (.goto 4, 3) := by decide +kernel
theorem d_X_takeTracks_13 : decode b_X_takeTracks 13 = .ok (.iload_n 1, 1) := by decide +kernel
theorem d_X_takeTracks_14 : decode b_X_takeTracks 14 = .ok (.istore_n 3, 1) := by decide +kernel
theorem d_X_takeTracks_15 : decode b_X_takeTracks 15 = .ok (.aload_n 0, 1) := by decide +kernel
theorem d_X_takeTracks_16 : decode b_X_takeTracks 16 = .ok (.getfield 37, 3) := by decide +kernel
theorem d_X_takeTracks_19 : decode b_X_takeTracks 19 = .ok (.iconst 1, 1) := by decide +kernel
theorem d_X_takeTracks_20 : decode b_X_takeTracks 20 = .ok (.baload, 1) := by decide +kernel
theorem d_X_takeTracks_21 : decode b_X_takeTracks 21 = .ok (.ifCond .eq 7, 3) := by decide +kernel
theorem d_X_takeTracks_24 : decode b_X_takeTracks 24 = .ok (.iload_n 1, 1) := by decide +kernel
theorem d_X_takeTracks_25 : decode b_X_takeTracks 25 = .ok (.goto 4, 3) := by decide +kernel
theorem d_X_takeTracks_28 : decode b_X_takeTracks 28 = .ok (.iload_n 2, 1) := by decide +kernel
theorem d_X_takeTracks_29 : decode b_X_takeTracks 29 = .ok (.istore 4, 2) := by decide +kernel
theorem d_X_takeTracks_31 : decode b_X_takeTracks 31 = .ok (.aload_n 0, 1) := by decide +kernel
theorem d_X_takeTracks_32 : decode b_X_takeTracks 32 = .ok (.getfield 37, 3) := by decide +kernel
theorem d_X_takeTracks_35 : decode b_X_takeTracks 35 = .ok (.iconst 0, 1) := by decide +kernel
theorem d_X_takeTracks_36 : decode b_X_takeTracks 36 = .ok (.baload, 1) := by decide +kernel
end
section
theorem d_X_takeTracks_37 : decode b_X_takeTracks 37 = .ok (.ifCond .ne 16, 3) := by decide +kernel
theorem d_X_takeTracks_40 : decode b_X_takeTracks 40 = .ok (.aload_n 0, 1) := by decide +kernel
theorem d_X_takeTracks_41 : decode b_X_takeTracks 41 = .ok (.getfield 37, 3) := by decide +kernel
theorem d_X_takeTracks_44 : decode b_X_takeTracks 44 = .ok (.iconst 1, 1) := by decide +kernel
theorem d_X_takeTracks_45 : decode b_X_takeTracks 45 = .ok (.baload, 1) := by decide +kernel
theorem d_X_takeTracks_46 : decode b_X_takeTracks 46 = .ok (.ifCond .ne 7, 3) := by decide +kernel
theorem d_X_takeTracks_49 : decode b_X_takeTracks 49 = .ok (.iconst 1, 1) := by decide +kernel
theorem d_X_takeTracks_50 : decode b_X_takeTracks 50 = .ok (.goto 4, 3) := by decide +kernel
theorem d_X_takeTracks_53 : decode b_X_takeTracks 53 = .ok (.iconst 0, 1) := by decide +kernel
theorem d_X_takeTracks_54 : decode b_X_takeTracks 54 = .ok (.istore 5, 2) := by decide +kernel
theorem d_X_takeTracks_56 : decode b_X_takeTracks 56 = .ok (.aload_n 0, 1) := by decide +kernel
theorem d_X_takeTracks_57 : decode b_X_takeTracks 57 = .ok (.iload 5, 2) := by decide +kernel
theorem d_X_takeTracks_59 : decode b_X_takeTracks 59 = .ok (.ifCond .eq 24, 3) := by decide +kernel
theorem d_X_takeTracks_62 : decode b_X_takeTracks 62 = .ok (.iload_n 3, 1) := by decide +kernel
theorem d_X_takeTracks_63 : decode b_X_takeTracks 63 = .ok (.iload 4, 2) := by decide +kernel
theorem d_X_takeTracks_65 : decode b_X_takeTracks 65 = .ok (.isub, 1) := by decide +kernel
theorem d_X_takeTracks_66 : decode b_X_takeTracks 66 = .ok (.invokestatic 189, 3) := by decide +kernel
theorem d_X_takeTracks_69 : decode b_X_takeTracks 69 = .ok (.bipush 50, 2) := by decide +kernel
theorem d_X_takeTracks_71 : decode b_X_takeTracks 71 = .ok (.if_icmp .le 12, 3) := by decide +kernel
theorem d_X_takeTracks_74 : decode b_X_takeTracks 74 = .ok (.aload_n 0, 1) := by decide +kernel
theorem d_X_takeTracks_75 : decode b_X_takeTracks 75 = .ok (.getfield 130, 3) := by decide +kernel
theorem d_X_takeTracks_78 : decode b_X_takeTracks 78 = .ok (.iconst 1, 1) := by decide +kernel
theorem d_X_takeTracks_79 : decode b_X_takeTracks 79 = .ok (.iadd, 1) := by decide +kernel
theorem d_X_takeTracks_80 : decode b_X_takeTracks 80 = .ok (.goto 4, 3) := by decide +kernel
theorem d_X_takeTracks_83 : decode b_X_takeTracks 83 = .ok (.iconst 0, 1) := by decide +kernel
theorem d_X_takeTracks_84 : decode b_X_takeTracks 84 = .ok (.putfield 130, 3) := by decide +kernel
theorem d_X_takeTracks_87 : decode b_X_takeTracks 87 = .ok (.aload_n 0, 1) := by decide +kernel
theorem d_X_takeTracks_88 : decode b_X_takeTracks 88 = .ok (.getfield 130, 3) := by decide +kernel
theorem d_X_takeTracks_91 : decode b_X_takeTracks 91 = .ok (.iconst 5, 1) := by decide +kernel
theorem d_X_takeTracks_92 : decode b_X_takeTracks 92 = .ok (.if_icmp .lt 8, 3) := by decide +kernel
theorem d_X_takeTracks_95 : decode b_X_takeTracks 95 = .ok (.aload_n 0, 1) := by decide +kernel
theorem d_X_takeTracks_96 : decode b_X_takeTracks 96 = .ok (.iconst 1, 1) := by decide +kernel
theorem d_X_takeTracks_97 : decode b_X_takeTracks 97 = .ok (.putfield 141, 3) := by decide +kernel
theorem d_X_takeTracks_100 : decode b_X_takeTracks 100 = .ok (.aload_n 0, 1) := by decide +kernel
theorem d_X_takeTracks_101 : decode b_X_takeTracks 101 = .ok (.iload_n 3, 1) := by decide +kernel
theorem d_X_takeTracks_102 : decode b_X_takeTracks 102 = .ok (.iload 4, 2) := by decide +kernel
theorem d_X_takeTracks_104 : decode b_X_takeTracks 104 = .ok (.invokestatic 91, 3) := by decide +kernel
theorem d_X_takeTracks_107 : decode b_X_takeTracks 107 = .ok (.putfield 85, 3) := by decide +kernel
theorem d_X_takeTracks_110 : decode b_X_takeTracks 110 = .ok (.return_, 1) := by decide +kernel
theorem d_X_chooseMode_0 : decode b_X_chooseMode 0 = .ok (.aload_n 0, 1) := by decide +kernel
theorem d_X_chooseMode_1 : decode b_X_chooseMode 1 = .ok (.getfield 141, 3) := by decide +kernel
theorem d_X_chooseMode_4 : decode b_X_chooseMode 4 = .ok (.ifCond .ne 21, 3) := by decide +kernel
theorem d_X_chooseMode_7 : decode b_X_chooseMode 7 = .ok (.aload_n 0, 1) := by decide +kernel
theorem d_X_chooseMode_8 : decode b_X_chooseMode 8 = .ok (.getfield 37, 3) := by decide +kernel
theorem d_X_chooseMode_11 : decode b_X_chooseMode 11 = .ok (.iconst 0, 1) := by decide +kernel
theorem d_X_chooseMode_12 : decode b_X_chooseMode 12 = .ok (.baload, 1) := by decide +kernel
theorem d_X_chooseMode_13 : decode b_X_chooseMode 13 = .ok (.ifCond .eq 14, 3) := by decide +kernel
theorem d_X_chooseMode_16 : decode b_X_chooseMode 16 = .ok (.aload_n 0, 1) := by decide +kernel
theorem d_X_chooseMode_17 : decode b_X_chooseMode 17 = .ok (.getfield 37, 3) := by decide +kernel
theorem d_X_chooseMode_20 : decode b_X_chooseMode 20 = .ok (.iconst 1, 1) := by decide +kernel
theorem d_X_chooseMode_21 : decode b_X_chooseMode 21 = .ok (.baload, 1) := by decide +kernel
theorem d_X_chooseMode_22 : decode b_X_chooseMode 22 = .ok (.ifCond .eq 5, 3) := by decide +kernel
theorem d_X_chooseMode_25 : decode b_X_chooseMode 25 = .ok (.iconst 4, 1) := by decide +kernel
theorem d_X_chooseMode_26 : decode b_X_chooseMode 26 = .ok (.ireturn, 1) := by decide +kernel
theorem d_X_chooseMode_27 : decode b_X_chooseMode 27 = .ok (.aload_n 0, 1) := by decide +kernel
theorem d_X_chooseMode_28 : decode b_X_chooseMode 28 = .ok (.getfield 107, 3) := by decide +kernel
theorem d_X_chooseMode_31 : decode b_X_chooseMode 31 = .ok (.ifCond .ne 5, 3) := by decide +kernel
theorem d_X_chooseMode_34 : decode b_X_chooseMode 34 = .ok (.iconst 3, 1) := by decide +kernel
theorem d_X_chooseMode_35 : decode b_X_chooseMode 35 = .ok (.ireturn, 1) := by decide +kernel
theorem d_X_chooseMode_36 : decode b_X_chooseMode 36 = .ok (.aload_n 0, 1) := by decide +kernel
theorem d_X_chooseMode_37 : decode b_X_chooseMode 37 = .ok (.getfield 186, 3) := by decide +kernel
theorem d_X_chooseMode_40 : decode b_X_chooseMode 40 = .ok (.ifCond .ne 30, 3) := by decide +kernel
theorem d_X_chooseMode_43 : decode b_X_chooseMode 43 = .ok (.aload_n 0, 1) := by decide +kernel
theorem d_X_chooseMode_44 : decode b_X_chooseMode 44 = .ok (.getfield 37, 3) := by decide +kernel
theorem d_X_chooseMode_47 : decode b_X_chooseMode 47 = .ok (.iconst 0, 1) := by decide +kernel
theorem d_X_chooseMode_48 : decode b_X_chooseMode 48 = .ok (.baload, 1) := by decide +kernel
theorem d_X_chooseMode_49 : decode b_X_chooseMode 49 = .ok (.ifCond .ne 21, 3) := by decide +kernel
theorem d_X_chooseMode_52 : decode b_X_chooseMode 52 = .ok (.aload_n 0, 1) := by decide +kernel
theorem d_X_chooseMode_53 : decode b_X_chooseMode 53 = .ok (.getfield 37, 3) := by decide +kernel
theorem d_X_chooseMode_56 : decode b_X_chooseMode 56 = .ok (.iconst 1, 1) := by decide +kernel
theorem d_X_chooseMode_57 : decode b_X_chooseMode 57 = .ok (.baload, 1) := by decide +kernel
theorem d_X_chooseMode_58 : decode b_X_chooseMode 58 = .ok (.ifCond .ne 12, 3) := by decide +kernel
theorem d_X_chooseMode_61 : decode b_X_chooseMode 61 = .ok (.aload_n 0, 1) := by decide +kernel
theorem d_X_chooseMode_62 : decode b_X_chooseMode 62 = .ok (.getfield 37, 3) := by decide +kernel
theorem d_X_chooseMode_65 : decode b_X_chooseMode 65 = .ok (.iconst 2, 1) := by decide +kernel
theorem d_X_chooseMode_66 : decode b_X_chooseMode 66 = .ok (.baload, 1) := by decide +kernel
theorem d_X_chooseMode_67 : decode b_X_chooseMode 67 = .ok (.ifCond .eq 5, 3) := by decide +kernel
theorem d_X_chooseMode_70 : decode b_X_chooseMode 70 = .ok (.iconst 2, 1) := by decide +kernel
theorem d_X_chooseMode_71 : decode b_X_chooseMode 71 = .ok (.ireturn, 1) := by decide +kernel
theorem d_X_chooseMode_72 : decode b_X_chooseMode 72 = .ok (.aload_n 0, 1) := by decide +kernel
theorem d_X_chooseMode_73 : decode b_X_chooseMode 73 = .ok (.getfield 130, 3) := by decide +kernel
theorem d_X_chooseMode_76 : decode b_X_chooseMode 76 = .ok (.ifCond .le 7, 3) := by decide +kernel
theorem d_X_chooseMode_79 : decode b_X_chooseMode 79 = .ok (.iconst 1, 1) := by decide +kernel
theorem d_X_chooseMode_80 : decode b_X_chooseMode 80 = .ok (.goto 4, 3) := by decide +kernel
theorem d_X_chooseMode_83 : decode b_X_chooseMode 83 = .ok (.iconst 0, 1) := by decide +kernel
theorem d_X_chooseMode_84 : decode b_X_chooseMode 84 = .ok (.ireturn, 1) := by decide +kernel
theorem d_X_pedalWanted_0 : decode b_X_pedalWanted 0 = .ok (.aload_n 0, 1) := by decide +kernel
theorem d_X_pedalWanted_1 : decode b_X_pedalWanted 1 = .ok (.getfield 82, 3) := by decide +kernel
theorem d_X_pedalWanted_4 : decode b_X_pedalWanted 4 = .ok (.iconst 2, 1) := by decide +kernel
theorem d_X_pedalWanted_5 : decode b_X_pedalWanted 5 = .ok (.if_icmp .ne 20, 3) := by decide +kernel
theorem d_X_pedalWanted_8 : decode b_X_pedalWanted 8 = .ok (.aload_n 0, 1) := by decide +kernel
theorem d_X_pedalWanted_9 : decode b_X_pedalWanted 9 = .ok (.getfield 10, 3) := by decide +kernel
theorem d_X_pedalWanted_12 : decode b_X_pedalWanted 12 = .ok (.iconst 1, 1) := by decide +kernel
theorem d_X_pedalWanted_13 : decode b_X_pedalWanted 13 = .ok (.aload_n 0, 1) := by decide +kernel
theorem d_X_pedalWanted_14 : decode b_X_pedalWanted 14 = .ok (.getfield 85, 3) := by decide +kernel
theorem d_X_pedalWanted_17 : decode b_X_pedalWanted 17 = .ok (.aload_n 0, 1) := by decide +kernel
theorem d_X_pedalWanted_18 : decode b_X_pedalWanted 18 = .ok (.getfield 107, 3) := by decide +kernel
theorem d_X_pedalWanted_21 : decode b_X_pedalWanted 21 = .ok (.invokevirtual 110, 3) := by decide +kernel
theorem d_X_pedalWanted_24 : decode b_X_pedalWanted 24 = .ok (.ireturn, 1) := by decide +kernel
theorem d_X_pedalWanted_25 : decode b_X_pedalWanted 25 = .ok (.aload_n 0, 1) := by decide +kernel
theorem d_X_pedalWanted_26 : decode b_X_pedalWanted 26 = .ok (.getfield 10, 3) := by decide +kernel
theorem d_X_pedalWanted_29 : decode b_X_pedalWanted 29 = .ok (.iconst 0, 1) := by decide +kernel
theorem d_X_pedalWanted_30 : decode b_X_pedalWanted 30 = .ok (.aload_n 0, 1) := by decide +kernel
theorem d_X_pedalWanted_31 : decode b_X_pedalWanted 31 = .ok (.getfield 85, 3) := by decide +kernel
theorem d_X_pedalWanted_34 : decode b_X_pedalWanted 34 = .ok (.aload_n 0, 1) := by decide +kernel
theorem d_X_pedalWanted_35 : decode b_X_pedalWanted 35 = .ok (.getfield 107, 3) := by decide +kernel
theorem d_X_pedalWanted_38 : decode b_X_pedalWanted 38 = .ok (.invokevirtual 110, 3) := by decide +kernel
theorem d_X_pedalWanted_41 : decode b_X_pedalWanted 41 = .ok (.istore_n 1, 1) := by decide +kernel
theorem d_X_pedalWanted_42 : decode b_X_pedalWanted 42 = .ok (.aload_n 0, 1) := by decide +kernel
theorem d_X_pedalWanted_43 : decode b_X_pedalWanted 43 = .ok (.getfield 82, 3) := by decide +kernel
theorem d_X_pedalWanted_46 : decode b_X_pedalWanted 46 = .ok (.iconst 1, 1) := by decide +kernel
theorem d_X_pedalWanted_47 : decode b_X_pedalWanted 47 = .ok (.if_icmp .ne 9, 3) := by decide +kernel
theorem d_X_pedalWanted_50 : decode b_X_pedalWanted 50 = .ok (.iload_n 1, 1) := by decide +kernel
theorem d_X_pedalWanted_51 : decode b_X_pedalWanted 51 = .ok (.iconst 2, 1) := by decide +kernel
theorem d_X_pedalWanted_52 : decode b_X_pedalWanted 52 = .ok (.idiv, 1) := by decide +kernel
theorem d_X_pedalWanted_53 : decode b_X_pedalWanted 53 = .ok (.goto 4, 3) := by decide +kernel
theorem d_X_pedalWanted_56 : decode b_X_pedalWanted 56 = .ok (.iload_n 1, 1) := by decide +kernel
theorem d_X_pedalWanted_57 : decode b_X_pedalWanted 57 = .ok (.ireturn, 1) := by decide +kernel
theorem d_X_chooseWanted_0 : decode b_X_chooseWanted 0 = .ok (.aload_n 0, 1) := by decide +kernel
theorem d_X_chooseWanted_1 : decode b_X_chooseWanted 1 = .ok (.invokevirtual 100, 3) := by decide +kernel
theorem d_X_chooseWanted_4 : decode b_X_chooseWanted 4 = .ok (.ifCond .eq 17, 3) := by decide +kernel
theorem d_X_chooseWanted_7 : decode b_X_chooseWanted 7 = .ok (.aload_n 0, 1) := by decide +kernel
theorem d_X_chooseWanted_8 : decode b_X_chooseWanted 8 = .ok (.getfield 19, 3) := by decide +kernel
theorem d_X_chooseWanted_11 : decode b_X_chooseWanted 11 = .ok (.aload_n 0, 1) := by decide +kernel
theorem d_X_chooseWanted_12 : decode b_X_chooseWanted 12 = .ok (.invokevirtual 192, 3) := by decide +kernel
theorem d_X_chooseWanted_15 : decode b_X_chooseWanted 15 = .ok (.invokevirtual 195, 3) := by decide +kernel
theorem d_X_chooseWanted_18 : decode b_X_chooseWanted 18 = .ok (.goto 4, 3) := by decide +kernel
theorem d_X_chooseWanted_21 : decode b_X_chooseWanted 21 = .ok (.iconst 0, 1) := by decide +kernel
theorem d_X_chooseWanted_22 : decode b_X_chooseWanted 22 = .ok (.istore_n 1, 1) := by decide +kernel
theorem d_X_chooseWanted_23 : decode b_X_chooseWanted 23 = .ok (.aload_n 0, 1) := by decide +kernel
theorem d_X_chooseWanted_24 : decode b_X_chooseWanted 24 = .ok (.getfield 19, 3) := by decide +kernel
theorem d_X_chooseWanted_27 : decode b_X_chooseWanted 27 = .ok (.invokevirtual 198, 3) := by decide +kernel
theorem d_X_chooseWanted_30 : decode b_X_chooseWanted 30 = .ok (.aload_n 0, 1) := by decide +kernel
theorem d_X_chooseWanted_31 : decode b_X_chooseWanted 31 = .ok (.invokevirtual 100, 3) := by decide +kernel
theorem d_X_chooseWanted_34 : decode b_X_chooseWanted 34 = .ok (.ifCond .eq 10, 3) := by decide +kernel
theorem d_X_chooseWanted_37 : decode b_X_chooseWanted 37 = .ok (.aload_n 0, 1) := by decide +kernel
theorem d_X_chooseWanted_38 : decode b_X_chooseWanted 38 = .ok (.getfield 85, 3) := by decide +kernel
theorem d_X_chooseWanted_41 : decode b_X_chooseWanted 41 = .ok (.ifCond .le 12, 3) := by decide +kernel
theorem d_X_chooseWanted_44 : decode b_X_chooseWanted 44 = .ok (.aload_n 0, 1) := by decide +kernel
theorem d_X_chooseWanted_45 : decode b_X_chooseWanted 45 = .ok (.getfield 26, 3) := by decide +kernel
theorem d_X_chooseWanted_48 : decode b_X_chooseWanted 48 = .ok (.invokevirtual 201, 3) := by decide +kernel
theorem d_X_chooseWanted_51 : decode b_X_chooseWanted 51 = .ok (.iload_n 1, 1) := by decide +kernel
theorem d_X_chooseWanted_52 : decode b_X_chooseWanted 52 = .ok (.ireturn, 1) := by decide +kernel
theorem d_X_chooseWanted_53 : decode b_X_chooseWanted 53 = .ok (.iload_n 1, 1) := by decide +kernel
theorem d_X_chooseWanted_54 : decode b_X_chooseWanted 54 = .ok (.aload_n 0, 1) := by decide +kernel
theorem d_X_chooseWanted_55 : decode b_X_chooseWanted 55 = .ok (.getfield 26, 3) := by decide +kernel
theorem d_X_chooseWanted_58 : decode b_X_chooseWanted 58 = .ok (.aload_n 0, 1) := by decide +kernel
theorem d_X_chooseWanted_59 : decode b_X_chooseWanted 59 = .ok (.getfield 107, 3) := by decide +kernel
theorem d_X_chooseWanted_62 : decode b_X_chooseWanted 62 = .ok (.invokevirtual 204, 3) := by decide +kernel
theorem d_X_chooseWanted_65 : decode b_X_chooseWanted 65 = .ok (.invokestatic 207, 3) := by decide +kernel
theorem d_X_chooseWanted_68 : decode b_X_chooseWanted 68 = .ok (.ireturn, 1) := by decide +kernel
theorem d_X_isFuelCut_0 : decode b_X_isFuelCut 0 = .ok (.aload_n 0, 1) := by decide +kernel
theorem d_X_isFuelCut_1 : decode b_X_isFuelCut 1 = .ok (.getfield 85, 3) := by decide +kernel
theorem d_X_isFuelCut_4 : decode b_X_isFuelCut 4 = .ok (.ifCond .ne 24, 3) := by decide +kernel
theorem d_X_isFuelCut_7 : decode b_X_isFuelCut 7 = .ok (.aload_n 0, 1) := by decide +kernel
theorem d_X_isFuelCut_8 : decode b_X_isFuelCut 8 = .ok (.getfield 64, 3) := by decide +kernel
theorem d_X_isFuelCut_11 : decode b_X_isFuelCut 11 = .ok (.ifCond .ne 17, 3) := by decide +kernel
theorem d_X_isFuelCut_14 : decode b_X_isFuelCut 14 = .ok (.aload_n 0, 1) := by decide +kernel
theorem d_X_isFuelCut_15 : decode b_X_isFuelCut 15 = .ok (.getfield 107, 3) := by decide +kernel
theorem d_X_isFuelCut_18 : decode b_X_isFuelCut 18 = .ok (.sipush 1500, 3) := by decide +kernel
theorem d_X_isFuelCut_21 : decode b_X_isFuelCut 21 = .ok (.if_icmp .le 7, 3) := by decide +kernel
theorem d_X_isFuelCut_24 : decode b_X_isFuelCut 24 = .ok (.iconst 1, 1) := by decide +kernel
theorem d_X_isFuelCut_25 : decode b_X_isFuelCut 25 = .ok (.goto 4, 3) := by decide +kernel
theorem d_X_isFuelCut_28 : decode b_X_isFuelCut 28 = .ok (.iconst 0, 1) := by decide +kernel
theorem d_X_isFuelCut_29 : decode b_X_isFuelCut 29 = .ok (.istore_n 1, 1) := by decide +kernel
theorem d_X_isFuelCut_30 : decode b_X_isFuelCut 30 = .ok (.iload_n 1, 1) := by decide +kernel
theorem d_X_isFuelCut_31 : decode b_X_isFuelCut 31 = .ok (.ifCond .ne 10, 3) := by decide +kernel
theorem d_X_isFuelCut_34 : decode b_X_isFuelCut 34 = .ok (.aload_n 0, 1) := by decide +kernel
theorem d_X_isFuelCut_35 : decode b_X_isFuelCut 35 = .ok (.invokevirtual 100, 3) := by decide +kernel
theorem d_X_isFuelCut_38 : decode b_X_isFuelCut 38 = .ok (.ifCond .ne 7, 3) := by decide +kernel
theorem d_X_isFuelCut_41 : decode b_X_isFuelCut 41 = .ok (.iconst 1, 1) := by decide +kernel
theorem d_X_isFuelCut_42 : decode b_X_isFuelCut 42 = .ok (.goto 4, 3) := by decide +kernel
theorem d_X_isFuelCut_45 : decode b_X_isFuelCut 45 = .ok (.iconst 0, 1) := by decide +kernel
theorem d_X_isFuelCut_46 : decode b_X_isFuelCut 46 = .ok (.ireturn, 1) := by decide +kernel
theorem d_X_costTogether_0 : decode b_X_costTogether 0 = .ok (.iload_n 2, 1) := by decide +kernel
theorem d_X_costTogether_1 : decode b_X_costTogether 1 = .ok (.iload_n 2, 1) := by decide +kernel
theorem d_X_costTogether_2 : decode b_X_costTogether 2 = .ok (.iload_n 2, 1) := by decide +kernel
theorem d_X_costTogether_3 : decode b_X_costTogether 3 = .ok (.imul, 1) := by decide +kernel
theorem d_X_costTogether_4 : decode b_X_costTogether 4 = .ok (.sipush 200, 3) := by decide +kernel
theorem d_X_costTogether_7 : decode b_X_costTogether 7 = .ok (.idiv, 1) := by decide +kernel
theorem d_X_costTogether_8 : decode b_X_costTogether 8 = .ok (.iadd, 1) := by decide +kernel
theorem d_X_costTogether_9 : decode b_X_costTogether 9 = .ok (.aload_n 0, 1) := by decide +kernel
theorem d_X_costTogether_10 : decode b_X_costTogether 10 = .ok (.getfield 10, 3) := by decide +kernel
theorem d_X_costTogether_13 : decode b_X_costTogether 13 = .ok (.iconst 4, 1) := by decide +kernel
theorem d_X_costTogether_14 : decode b_X_costTogether 14 = .ok (.iload_n 1, 1) := by decide +kernel
theorem d_X_costTogether_15 : decode b_X_costTogether 15 = .ok (.iload_n 2, 1) := by decide +kernel
theorem d_X_costTogether_16 : decode b_X_costTogether 16 = .ok (.isub, 1) := by decide +kernel
theorem d_X_costTogether_17 : decode b_X_costTogether 17 = .ok (.aload_n 0, 1) := by decide +kernel
theorem d_X_costTogether_18 : decode b_X_costTogether 18 = .ok (.getfield 107, 3) := by decide +kernel
theorem d_X_costTogether_21 : decode b_X_costTogether 21 = .ok (.invokevirtual 110, 3) := by decide +kernel
theorem d_X_costTogether_24 : decode b_X_costTogether 24 = .ok (.iadd, 1) := by decide +kernel
theorem d_X_costTogether_25 : decode b_X_costTogether 25 = .ok (.ireturn, 1) := by decide +kernel
theorem d_X_cheapestMotor_0 : decode b_X_cheapestMotor 0 = .ok (.iconst 0, 1) := by decide +kernel
theorem d_X_cheapestMotor_1 : decode b_X_cheapestMotor 1 = .ok (.istore_n 2, 1) := by decide +kernel
theorem d_X_cheapestMotor_2 : decode b_X_cheapestMotor 2 = .ok (.aload_n 0, 1) := by decide +kernel
theorem d_X_cheapestMotor_3 : decode b_X_cheapestMotor 3 = .ok (.iload_n 1, 1) := by decide +kernel
theorem d_X_cheapestMotor_4 : decode b_X_cheapestMotor 4 = .ok (.iconst 0, 1) := by decide +kernel
theorem d_X_cheapestMotor_5 : decode b_X_cheapestMotor 5 = .ok (.invokevirtual 183, 3) := by decide +kernel
theorem d_X_cheapestMotor_8 : decode b_X_cheapestMotor 8 = .ok (.istore_n 3, 1) := by decide +kernel
theorem d_X_cheapestMotor_9 : decode b_X_cheapestMotor 9 = .ok (.bipush 50, 2) := by decide +kernel
theorem d_X_cheapestMotor_11 : decode b_X_cheapestMotor 11 = .ok (.istore 4, 2) := by decide +kernel
theorem d_X_cheapestMotor_13 : decode b_X_cheapestMotor 13 = .ok (.iload 4, 2) := by decide +kernel
theorem d_X_cheapestMotor_15 : decode b_X_cheapestMotor 15 = .ok (.sipush 400, 3) := by decide +kernel
theorem d_X_cheapestMotor_18 : decode b_X_cheapestMotor 18 = .ok (.if_icmp .gt 36, 3) := by decide +kernel
theorem d_X_cheapestMotor_21 : decode b_X_cheapestMotor 21 = .ok (.iload 4, 2) := by decide +kernel
theorem d_X_cheapestMotor_23 : decode b_X_cheapestMotor 23 = .ok (.iload_n 1, 1) := by decide +kernel
theorem d_X_cheapestMotor_24 : decode b_X_cheapestMotor 24 = .ok (.if_icmp .gt 30, 3) := by decide +kernel
theorem d_X_cheapestMotor_27 : decode b_X_cheapestMotor 27 = .ok (.aload_n 0, 1) := by decide +kernel
theorem d_X_cheapestMotor_28 : decode b_X_cheapestMotor 28 = .ok (.iload_n 1, 1) := by decide +kernel
theorem d_X_cheapestMotor_29 : decode b_X_cheapestMotor 29 = .ok (.iload 4, 2) := by decide +kernel
theorem d_X_cheapestMotor_31 : decode b_X_cheapestMotor 31 = .ok (.invokevirtual 183, 3) := by decide +kernel
theorem d_X_cheapestMotor_34 : decode b_X_cheapestMotor 34 = .ok (.istore 5, 2) := by decide +kernel
theorem d_X_cheapestMotor_36 : decode b_X_cheapestMotor 36 = .ok (.iload 5, 2) := by decide +kernel
theorem d_X_cheapestMotor_38 : decode b_X_cheapestMotor 38 = .ok (.iload_n 3, 1) := by decide +kernel
theorem d_X_cheapestMotor_39 : decode b_X_cheapestMotor 39 = .ok (.if_icmp .ge 9, 3) := by decide +kernel
theorem d_X_cheapestMotor_42 : decode b_X_cheapestMotor 42 = .ok (.iload 4, 2) := by decide +kernel
theorem d_X_cheapestMotor_44 : decode b_X_cheapestMotor 44 = .ok (.istore_n 2, 1) := by decide +kernel
theorem d_X_cheapestMotor_45 : decode b_X_cheapestMotor 45 = .ok (.iload 5, 2) := by decide +kernel
theorem d_X_cheapestMotor_47 : decode b_X_cheapestMotor 47 = .ok (.istore_n 3, 1) := by decide +kernel
theorem d_X_cheapestMotor_48 : decode b_X_cheapestMotor 48 = .ok (.iinc 4 50, 3) := by decide +kernel
theorem d_X_cheapestMotor_51 : decode b_X_cheapestMotor 51 = .ok (.goto (-38), 3) := by decide +kernel
theorem d_X_cheapestMotor_54 : decode b_X_cheapestMotor 54 = .ok (.iload_n 2, 1) := by decide +kernel
theorem d_X_cheapestMotor_55 : decode b_X_cheapestMotor 55 = .ok (.ireturn, 1) := by decide +kernel
theorem d_X_table_0 : decode b_X_table 0 = .ok (.iload_n 1, 1) := by decide +kernel
theorem d_X_table_1 : decode b_X_table 1 = .ok (.ifCond .lt 8, 3) := by decide +kernel
theorem d_X_table_4 : decode b_X_table 4 = .ok (.iload_n 1, 1) := by decide +kernel
theorem d_X_table_5 : decode b_X_table 5 = .ok (.iconst 5, 1) := by decide +kernel
theorem d_X_table_6 : decode b_X_table 6 = .ok (.if_icmp .lt 5, 3) := by decide +kernel
theorem d_X_table_9 : decode b_X_table 9 = .ok (.iconst (-1), 1) := by decide +kernel
theorem d_X_table_10 : decode b_X_table 10 = .ok (.ireturn, 1) := by decide +kernel
theorem d_X_table_11 : decode b_X_table 11 = .ok (.iload_n 2, 1) := by decide +kernel
theorem d_X_table_12 : decode b_X_table 12 = .ok (.iload_n 3, 1) := by decide +kernel
theorem d_X_table_13 : decode b_X_table 13 = .ok (.invokestatic 48, 3) := by decide +kernel
theorem d_X_table_16 : decode b_X_table 16 = .ok (.ifCond .eq 14, 3) := by decide +kernel
theorem d_X_table_19 : decode b_X_table 19 = .ok (.lload 4, 2) := by decide +kernel
theorem d_X_table_21 : decode b_X_table 21 = .ok (.ldc2_w 52, 3) := by decide +kernel
theorem d_X_table_24 : decode b_X_table 24 = .ok (.invokestatic 54, 3) := by decide +kernel
theorem d_X_table_27 : decode b_X_table 27 = .ok (.ifCond .ne 6, 3) := by decide +kernel
theorem d_X_table_30 : decode b_X_table 30 = .ok (.bipush (-2), 2) := by decide +kernel
theorem d_X_table_32 : decode b_X_table 32 = .ok (.ireturn, 1) := by decide +kernel
theorem d_X_table_33 : decode b_X_table 33 = .ok (.aload_n 0, 1) := by decide +kernel
theorem d_X_table_34 : decode b_X_table 34 = .ok (.getfield 10, 3) := by decide +kernel
theorem d_X_table_37 : decode b_X_table 37 = .ok (.iload_n 1, 1) := by decide +kernel
theorem d_X_table_38 : decode b_X_table 38 = .ok (.iload_n 2, 1) := by decide +kernel
theorem d_X_table_39 : decode b_X_table 39 = .ok (.iload_n 3, 1) := by decide +kernel
theorem d_X_table_40 : decode b_X_table 40 = .ok (.lload 4, 2) := by decide +kernel
theorem d_X_table_42 : decode b_X_table 42 = .ok (.l2i, 1) := by decide +kernel
theorem d_X_table_43 : decode b_X_table 43 = .ok (.invokevirtual 58, 3) := by decide +kernel
theorem d_X_table_46 : decode b_X_table 46 = .ok (.ireturn, 1) := by decide +kernel
theorem d_X_step_0 : decode b_X_step 0 = .ok (.lload_n 1, 1) := by decide +kernel
theorem d_X_step_1 : decode b_X_step 1 = .ok (.ldc2_w 52, 3) := by decide +kernel
theorem d_X_step_4 : decode b_X_step 4 = .ok (.invokestatic 54, 3) := by decide +kernel
theorem d_X_step_7 : decode b_X_step 7 = .ok (.ifCond .eq 24, 3) := by decide +kernel
theorem d_X_step_10 : decode b_X_step 10 = .ok (.lload_n 3, 1) := by decide +kernel
theorem d_X_step_11 : decode b_X_step 11 = .ok (.ldc2_w 52, 3) := by decide +kernel
theorem d_X_step_14 : decode b_X_step 14 = .ok (.invokestatic 54, 3) := by decide +kernel
theorem d_X_step_17 : decode b_X_step 17 = .ok (.ifCond .eq 14, 3) := by decide +kernel
theorem d_X_step_20 : decode b_X_step 20 = .ok (.lload 5, 2) := by decide +kernel
theorem d_X_step_22 : decode b_X_step 22 = .ok (.ldc2_w 62, 3) := by decide +kernel
theorem d_X_step_25 : decode b_X_step 25 = .ok (.invokestatic 54, 3) := by decide +kernel
theorem d_X_step_28 : decode b_X_step 28 = .ok (.ifCond .ne 6, 3) := by decide +kernel
theorem d_X_step_31 : decode b_X_step 31 = .ok (.bipush (-2), 2) := by decide +kernel
theorem d_X_step_33 : decode b_X_step 33 = .ok (.ireturn, 1) := by decide +kernel
theorem d_X_step_34 : decode b_X_step 34 = .ok (.aload_n 0, 1) := by decide +kernel
theorem d_X_step_35 : decode b_X_step 35 = .ok (.aload_n 0, 1) := by decide +kernel
theorem d_X_step_36 : decode b_X_step 36 = .ok (.getfield 64, 3) := by decide +kernel
theorem d_X_step_39 : decode b_X_step 39 = .ok (.putfield 67, 3) := by decide +kernel
theorem d_X_step_42 : decode b_X_step 42 = .ok (.aload_n 0, 1) := by decide +kernel
theorem d_X_step_43 : decode b_X_step 43 = .ok (.lload 5, 2) := by decide +kernel
theorem d_X_step_45 : decode b_X_step 45 = .ok (.l2i, 1) := by decide +kernel
theorem d_X_step_46 : decode b_X_step 46 = .ok (.invokevirtual 70, 3) := by decide +kernel
theorem d_X_step_49 : decode b_X_step 49 = .ok (.aload_n 0, 1) := by decide +kernel
theorem d_X_step_50 : decode b_X_step 50 = .ok (.lload_n 1, 1) := by decide +kernel
theorem d_X_step_51 : decode b_X_step 51 = .ok (.l2i, 1) := by decide +kernel
theorem d_X_step_52 : decode b_X_step 52 = .ok (.lload_n 3, 1) := by decide +kernel
theorem d_X_step_53 : decode b_X_step 53 = .ok (.l2i, 1) := by decide +kernel
theorem d_X_step_54 : decode b_X_step 54 = .ok (.invokevirtual 74, 3) := by decide +kernel
theorem d_X_step_57 : decode b_X_step 57 = .ok (.aload_n 0, 1) := by decide +kernel
theorem d_X_step_58 : decode b_X_step 58 = .ok (.aload_n 0, 1) := by decide +kernel
theorem d_X_step_59 : decode b_X_step 59 = .ok (.invokevirtual 78, 3) := by decide +kernel
theorem d_X_step_62 : decode b_X_step 62 = .ok (.putfield 82, 3) := by decide +kernel
theorem d_X_step_65 : decode b_X_step 65 = .ok (.aload_n 0, 1) := by decide +kernel
theorem d_X_step_66 : decode b_X_step 66 = .ok (.getfield 82, 3) := by decide +kernel
theorem d_X_step_69 : decode b_X_step 69 = .ok (.iconst 4, 1) := by decide +kernel
theorem d_X_step_70 : decode b_X_step 70 = .ok (.if_icmp .ne 8, 3) := by decide +kernel
theorem d_X_step_73 : decode b_X_step 73 = .ok (.aload_n 0, 1) := by decide +kernel
theorem d_X_step_74 : decode b_X_step 74 = .ok (.iconst 0, 1) := by decide +kernel
theorem d_X_step_75 : decode b_X_step 75 = .ok (.putfield 85, 3) := by decide +kernel
theorem d_X_step_78 : decode b_X_step 78 = .ok (.aload_n 0, 1) := by decide +kernel
theorem d_X_step_79 : decode b_X_step 79 = .ok (.aload_n 0, 1) := by decide +kernel
theorem d_X_step_80 : decode b_X_step 80 = .ok (.invokevirtual 88, 3) := by decide +kernel
theorem d_X_step_83 : decode b_X_step 83 = .ok (.aload_n 0, 1) := by decide +kernel
theorem d_X_step_84 : decode b_X_step 84 = .ok (.getfield 41, 3) := by decide +kernel
theorem d_X_step_87 : decode b_X_step 87 = .ok (.invokestatic 91, 3) := by decide +kernel
theorem d_X_step_90 : decode b_X_step 90 = .ok (.putfield 97, 3) := by decide +kernel
theorem d_X_step_93 : decode b_X_step 93 = .ok (.aload_n 0, 1) := by decide +kernel
theorem d_X_step_94 : decode b_X_step 94 = .ok (.aload_n 0, 1) := by decide +kernel
theorem d_X_step_95 : decode b_X_step 95 = .ok (.invokevirtual 100, 3) := by decide +kernel
theorem d_X_step_98 : decode b_X_step 98 = .ok (.ifCond .eq 17, 3) := by decide +kernel
theorem d_X_step_101 : decode b_X_step 101 = .ok (.aload_n 0, 1) := by decide +kernel
theorem d_X_step_102 : decode b_X_step 102 = .ok (.getfield 64, 3) := by decide +kernel
theorem d_X_step_105 : decode b_X_step 105 = .ok (.aload_n 0, 1) := by decide +kernel
theorem d_X_step_106 : decode b_X_step 106 = .ok (.getfield 97, 3) := by decide +kernel
theorem d_X_step_109 : decode b_X_step 109 = .ok (.invokestatic 104, 3) := by decide +kernel
theorem d_X_step_112 : decode b_X_step 112 = .ok (.goto 4, 3) := by decide +kernel
theorem d_X_step_115 : decode b_X_step 115 = .ok (.iconst 0, 1) := by decide +kernel
theorem d_X_step_116 : decode b_X_step 116 = .ok (.putfield 64, 3) := by decide +kernel
theorem d_X_step_119 : decode b_X_step 119 = .ok (.aload_n 0, 1) := by decide +kernel
theorem d_X_step_120 : decode b_X_step 120 = .ok (.aload_n 0, 1) := by decide +kernel
theorem d_X_step_121 : decode b_X_step 121 = .ok (.getfield 10, 3) := by decide +kernel
theorem d_X_step_124 : decode b_X_step 124 = .ok (.iconst 2, 1) := by decide +kernel
theorem d_X_step_125 : decode b_X_step 125 = .ok (.aload_n 0, 1) := by decide +kernel
theorem d_X_step_126 : decode b_X_step 126 = .ok (.getfield 64, 3) := by decide +kernel
theorem d_X_step_129 : decode b_X_step 129 = .ok (.aload_n 0, 1) := by decide +kernel
theorem d_X_step_130 : decode b_X_step 130 = .ok (.getfield 107, 3) := by decide +kernel
theorem d_X_step_133 : decode b_X_step 133 = .ok (.invokevirtual 110, 3) := by decide +kernel
theorem d_X_step_136 : decode b_X_step 136 = .ok (.putfield 114, 3) := by decide +kernel
theorem d_X_step_139 : decode b_X_step 139 = .ok (.aload_n 0, 1) := by decide +kernel
theorem d_X_step_140 : decode b_X_step 140 = .ok (.aload_n 0, 1) := by decide +kernel
theorem d_X_step_141 : decode b_X_step 141 = .ok (.invokevirtual 117, 3) := by decide +kernel
theorem d_X_step_144 : decode b_X_step 144 = .ok (.ifCond .eq 7, 3) := by decide +kernel
theorem d_X_step_147 : decode b_X_step 147 = .ok (.iconst 0, 1) := by decide +kernel
theorem d_X_step_148 : decode b_X_step 148 = .ok (.goto 19, 3) := by decide +kernel
theorem d_X_step_151 : decode b_X_step 151 = .ok (.aload_n 0, 1) := by decide +kernel
theorem d_X_step_152 : decode b_X_step 152 = .ok (.getfield 10, 3) := by decide +kernel
theorem d_X_step_155 : decode b_X_step 155 = .ok (.iconst 3, 1) := by decide +kernel
theorem d_X_step_156 : decode b_X_step 156 = .ok (.aload_n 0, 1) := by decide +kernel
theorem d_X_step_157 : decode b_X_step 157 = .ok (.getfield 114, 3) := by decide +kernel
theorem d_X_step_160 : decode b_X_step 160 = .ok (.aload_n 0, 1) := by decide +kernel
theorem d_X_step_161 : decode b_X_step 161 = .ok (.getfield 107, 3) := by decide +kernel
theorem d_X_step_164 : decode b_X_step 164 = .ok (.invokevirtual 110, 3) := by decide +kernel
theorem d_X_step_167 : decode b_X_step 167 = .ok (.putfield 120, 3) := by decide +kernel
theorem d_X_step_170 : decode b_X_step 170 = .ok (.aload_n 0, 1) := by decide +kernel
theorem d_X_step_171 : decode b_X_step 171 = .ok (.getfield 33, 3) := by decide +kernel
theorem d_X_step_174 : decode b_X_step 174 = .ok (.aload_n 0, 1) := by decide +kernel
theorem d_X_step_175 : decode b_X_step 175 = .ok (.getfield 64, 3) := by decide +kernel
theorem d_X_step_178 : decode b_X_step 178 = .ok (.aload_n 0, 1) := by decide +kernel
theorem d_X_step_179 : decode b_X_step 179 = .ok (.getfield 107, 3) := by decide +kernel
theorem d_X_step_182 : decode b_X_step 182 = .ok (.aload_n 0, 1) := by decide +kernel
theorem d_X_step_183 : decode b_X_step 183 = .ok (.getfield 120, 3) := by decide +kernel
theorem d_X_step_186 : decode b_X_step 186 = .ok (.aload_n 0, 1) := by decide +kernel
theorem d_X_step_187 : decode b_X_step 187 = .ok (.getfield 82, 3) := by decide +kernel
theorem d_X_step_190 : decode b_X_step 190 = .ok (.iconst 4, 1) := by decide +kernel
theorem d_X_step_191 : decode b_X_step 191 = .ok (.if_icmp .ne 7, 3) := by decide +kernel
theorem d_X_step_194 : decode b_X_step 194 = .ok (.iconst 1, 1) := by decide +kernel
theorem d_X_step_195 : decode b_X_step 195 = .ok (.goto 4, 3) := by decide +kernel
theorem d_X_step_198 : decode b_X_step 198 = .ok (.iconst 0, 1) := by decide +kernel
theorem d_X_step_199 : decode b_X_step 199 = .ok (.invokevirtual 123, 3) := by decide +kernel
theorem d_X_step_202 : decode b_X_step 202 = .ok (.aload_n 0, 1) := by decide +kernel
theorem d_X_step_203 : decode b_X_step 203 = .ok (.getfield 82, 3) := by decide +kernel
theorem d_X_step_206 : decode b_X_step 206 = .ok (.ireturn, 1) := by decide +kernel
theorem d_X_torque_0 : decode b_X_torque 0 = .ok (.aload_n 0, 1) := by decide +kernel
theorem d_X_torque_1 : decode b_X_torque 1 = .ok (.getfield 64, 3) := by decide +kernel
theorem d_X_torque_4 : decode b_X_torque 4 = .ok (.i2l, 1) := by decide +kernel
theorem d_X_torque_5 : decode b_X_torque 5 = .ok (.lreturn, 1) := by decide +kernel
theorem d_X_value_0 : decode b_X_value 0 = .ok (.iload_n 1, 1) := by decide +kernel
theorem d_X_value_1 : decode b_X_value 1 = .ok (.tableswitch 98 0 7 #[47, 53, 59, 65, 71, 80, 86, 92], 47) := by decide +kernel
theorem d_X_value_48 : decode b_X_value 48 = .ok (.aload_n 0, 1) := by decide +kernel
theorem d_X_value_49 : decode b_X_value 49 = .ok (.getfield 85, 3) := by decide +kernel
theorem d_X_value_52 : decode b_X_value 52 = .ok (.i2l, 1) := by decide +kernel
theorem d_X_value_53 : decode b_X_value 53 = .ok (.lreturn, 1) := by decide +kernel
theorem d_X_value_54 : decode b_X_value 54 = .ok (.aload_n 0, 1) := by decide +kernel
theorem d_X_value_55 : decode b_X_value 55 = .ok (.getfield 97, 3) := by decide +kernel
theorem d_X_value_58 : decode b_X_value 58 = .ok (.i2l, 1) := by decide +kernel
theorem d_X_value_59 : decode b_X_value 59 = .ok (.lreturn, 1) := by decide +kernel
theorem d_X_value_60 : decode b_X_value 60 = .ok (.aload_n 0, 1) := by decide +kernel
theorem d_X_value_61 : decode b_X_value 61 = .ok (.getfield 114, 3) := by decide +kernel
theorem d_X_value_64 : decode b_X_value 64 = .ok (.i2l, 1) := by decide +kernel
theorem d_X_value_65 : decode b_X_value 65 = .ok (.lreturn, 1) := by decide +kernel
theorem d_X_value_66 : decode b_X_value 66 = .ok (.aload_n 0, 1) := by decide +kernel
theorem d_X_value_67 : decode b_X_value 67 = .ok (.getfield 120, 3) := by decide +kernel
theorem d_X_value_70 : decode b_X_value 70 = .ok (.i2l, 1) := by decide +kernel
theorem d_X_value_71 : decode b_X_value 71 = .ok (.lreturn, 1) := by decide +kernel
theorem d_X_value_72 : decode b_X_value 72 = .ok (.aload_n 0, 1) := by decide +kernel
theorem d_X_value_73 : decode b_X_value 73 = .ok (.getfield 26, 3) := by decide +kernel
theorem d_X_value_76 : decode b_X_value 76 = .ok (.getfield 127, 3) := by decide +kernel
theorem d_X_value_79 : decode b_X_value 79 = .ok (.i2l, 1) := by decide +kernel
theorem d_X_value_80 : decode b_X_value 80 = .ok (.lreturn, 1) := by decide +kernel
theorem d_X_value_81 : decode b_X_value 81 = .ok (.aload_n 0, 1) := by decide +kernel
theorem d_X_value_82 : decode b_X_value 82 = .ok (.getfield 130, 3) := by decide +kernel
theorem d_X_value_85 : decode b_X_value 85 = .ok (.i2l, 1) := by decide +kernel
theorem d_X_value_86 : decode b_X_value 86 = .ok (.lreturn, 1) := by decide +kernel
theorem d_X_value_87 : decode b_X_value 87 = .ok (.aload_n 0, 1) := by decide +kernel
theorem d_X_value_88 : decode b_X_value 88 = .ok (.getfield 82, 3) := by decide +kernel
theorem d_X_value_91 : decode b_X_value 91 = .ok (.i2l, 1) := by decide +kernel
theorem d_X_value_92 : decode b_X_value 92 = .ok (.lreturn, 1) := by decide +kernel
theorem d_X_value_93 : decode b_X_value 93 = .ok (.aload_n 0, 1) := by decide +kernel
theorem d_X_value_94 : decode b_X_value 94 = .ok (.getfield 107, 3) := by decide +kernel
theorem d_X_value_97 : decode b_X_value 97 = .ok (.i2l, 1) := by decide +kernel
theorem d_X_value_98 : decode b_X_value 98 = .ok (.lreturn, 1) := by decide +kernel
theorem d_X_value_99 : decode b_X_value 99 = .ok (.ldc2_w 133, 3) := by decide +kernel
theorem d_X_value_102 : decode b_X_value 102 = .ok (.lreturn, 1) := by decide +kernel
theorem d_X_wish_0 : decode b_X_wish 0 = .ok (.iload_n 1, 1) := by decide +kernel
theorem d_X_wish_1 : decode b_X_wish 1 = .ok (.iconst 1, 1) := by decide +kernel
theorem d_X_wish_2 : decode b_X_wish 2 = .ok (.if_icmp .lt 8, 3) := by decide +kernel
theorem d_X_wish_5 : decode b_X_wish 5 = .ok (.iload_n 1, 1) := by decide +kernel
theorem d_X_wish_6 : decode b_X_wish 6 = .ok (.iconst 5, 1) := by decide +kernel
theorem d_X_wish_7 : decode b_X_wish 7 = .ok (.if_icmp .le 5, 3) := by decide +kernel
theorem d_X_wish_10 : decode b_X_wish 10 = .ok (.iconst (-1), 1) := by decide +kernel
theorem d_X_wish_11 : decode b_X_wish 11 = .ok (.ireturn, 1) := by decide +kernel
end
section
theorem d_X_wish_12 : decode b_X_wish 12 = .ok (.lload_n 2, 1) := by decide +kernel
theorem d_X_wish_13 : decode b_X_wish 13 = .ok (.ldc2_w 52, 3) := by decide +kernel
theorem d_X_wish_16 : decode b_X_wish 16 = .ok (.invokestatic 54, 3) := by decide +kernel
theorem d_X_wish_19 : decode b_X_wish 19 = .ok (.ifCond .ne 6, 3) := by decide +kernel
theorem d_X_wish_22 : decode b_X_wish 22 = .ok (.bipush (-2), 2) := by decide +kernel
theorem d_X_wish_24 : decode b_X_wish 24 = .ok (.ireturn, 1) := by decide +kernel
theorem d_X_wish_25 : decode b_X_wish 25 = .ok (.aload_n 0, 1) := by decide +kernel
theorem d_X_wish_26 : decode b_X_wish 26 = .ok (.getfield 19, 3) := by decide +kernel
theorem d_X_wish_29 : decode b_X_wish 29 = .ok (.getfield 135, 3) := by decide +kernel
theorem d_X_wish_32 : decode b_X_wish 32 = .ok (.bipush 16, 2) := by decide +kernel
theorem d_X_wish_34 : decode b_X_wish 34 = .ok (.if_icmp .lt 6, 3) := by decide +kernel
theorem d_X_wish_37 : decode b_X_wish 37 = .ok (.bipush (-4), 2) := by decide +kernel
theorem d_X_wish_39 : decode b_X_wish 39 = .ok (.ireturn, 1) := by decide +kernel
theorem d_X_wish_40 : decode b_X_wish 40 = .ok (.aload_n 0, 1) := by decide +kernel
theorem d_X_wish_41 : decode b_X_wish 41 = .ok (.getfield 19, 3) := by decide +kernel
theorem d_X_wish_44 : decode b_X_wish 44 = .ok (.iload_n 1, 1) := by decide +kernel
theorem d_X_wish_45 : decode b_X_wish 45 = .ok (.lload_n 2, 1) := by decide +kernel
theorem d_X_wish_46 : decode b_X_wish 46 = .ok (.l2i, 1) := by decide +kernel
theorem d_X_wish_47 : decode b_X_wish 47 = .ok (.invokevirtual 138, 3) := by decide +kernel
theorem d_X_wish_50 : decode b_X_wish 50 = .ok (.ireturn, 1) := by decide +kernel
theorem d_X_bound_0 : decode b_X_bound 0 = .ok (.lload_n 1, 1) := by decide +kernel
theorem d_X_bound_1 : decode b_X_bound 1 = .ok (.ldc2_w 52, 3) := by decide +kernel
theorem d_X_bound_4 : decode b_X_bound 4 = .ok (.invokestatic 54, 3) := by decide +kernel
theorem d_X_bound_7 : decode b_X_bound 7 = .ok (.ifCond .ne 6, 3) := by decide +kernel
theorem d_X_bound_10 : decode b_X_bound 10 = .ok (.bipush (-2), 2) := by decide +kernel
theorem d_X_bound_12 : decode b_X_bound 12 = .ok (.ireturn, 1) := by decide +kernel
theorem d_X_bound_13 : decode b_X_bound 13 = .ok (.aload_n 0, 1) := by decide +kernel
theorem d_X_bound_14 : decode b_X_bound 14 = .ok (.getfield 41, 3) := by decide +kernel
theorem d_X_bound_17 : decode b_X_bound 17 = .ok (.istore_n 3, 1) := by decide +kernel
theorem d_X_bound_18 : decode b_X_bound 18 = .ok (.aload_n 0, 1) := by decide +kernel
theorem d_X_bound_19 : decode b_X_bound 19 = .ok (.lload_n 1, 1) := by decide +kernel
theorem d_X_bound_20 : decode b_X_bound 20 = .ok (.l2i, 1) := by decide +kernel
theorem d_X_bound_21 : decode b_X_bound 21 = .ok (.putfield 41, 3) := by decide +kernel
theorem d_X_bound_24 : decode b_X_bound 24 = .ok (.iload_n 3, 1) := by decide +kernel
theorem d_X_bound_25 : decode b_X_bound 25 = .ok (.ireturn, 1) := by decide +kernel
theorem d_X_monitor_0 : decode b_X_monitor 0 = .ok (.aload_n 0, 1) := by decide +kernel
theorem d_X_monitor_1 : decode b_X_monitor 1 = .ok (.getfield 141, 3) := by decide +kernel
theorem d_X_monitor_4 : decode b_X_monitor 4 = .ok (.ifCond .eq 6, 3) := by decide +kernel
theorem d_X_monitor_7 : decode b_X_monitor 7 = .ok (.bipush (-3), 2) := by decide +kernel
theorem d_X_monitor_9 : decode b_X_monitor 9 = .ok (.ireturn, 1) := by decide +kernel
theorem d_X_monitor_10 : decode b_X_monitor 10 = .ok (.aload_n 0, 1) := by decide +kernel
theorem d_X_monitor_11 : decode b_X_monitor 11 = .ok (.aload_n 0, 1) := by decide +kernel
theorem d_X_monitor_12 : decode b_X_monitor 12 = .ok (.lload_n 1, 1) := by decide +kernel
theorem d_X_monitor_13 : decode b_X_monitor 13 = .ok (.invokevirtual 145, 3) := by decide +kernel
theorem d_X_monitor_16 : decode b_X_monitor 16 = .ok (.ifCond .eq 12, 3) := by decide +kernel
theorem d_X_monitor_19 : decode b_X_monitor 19 = .ok (.aload_n 0, 1) := by decide +kernel
theorem d_X_monitor_20 : decode b_X_monitor 20 = .ok (.getfield 149, 3) := by decide +kernel
theorem d_X_monitor_23 : decode b_X_monitor 23 = .ok (.iconst 1, 1) := by decide +kernel
theorem d_X_monitor_24 : decode b_X_monitor 24 = .ok (.iadd, 1) := by decide +kernel
theorem d_X_monitor_25 : decode b_X_monitor 25 = .ok (.goto 4, 3) := by decide +kernel
theorem d_X_monitor_28 : decode b_X_monitor 28 = .ok (.iconst 0, 1) := by decide +kernel
theorem d_X_monitor_29 : decode b_X_monitor 29 = .ok (.putfield 149, 3) := by decide +kernel
theorem d_X_monitor_32 : decode b_X_monitor 32 = .ok (.aload_n 0, 1) := by decide +kernel
theorem d_X_monitor_33 : decode b_X_monitor 33 = .ok (.getfield 149, 3) := by decide +kernel
theorem d_X_monitor_36 : decode b_X_monitor 36 = .ok (.bipush 8, 2) := by decide +kernel
theorem d_X_monitor_38 : decode b_X_monitor 38 = .ok (.if_icmp .lt 8, 3) := by decide +kernel
theorem d_X_monitor_41 : decode b_X_monitor 41 = .ok (.aload_n 0, 1) := by decide +kernel
theorem d_X_monitor_42 : decode b_X_monitor 42 = .ok (.iconst 1, 1) := by decide +kernel
theorem d_X_monitor_43 : decode b_X_monitor 43 = .ok (.putfield 141, 3) := by decide +kernel
theorem d_X_monitor_46 : decode b_X_monitor 46 = .ok (.aload_n 0, 1) := by decide +kernel
theorem d_X_monitor_47 : decode b_X_monitor 47 = .ok (.getfield 149, 3) := by decide +kernel
theorem d_X_monitor_50 : decode b_X_monitor 50 = .ok (.ireturn, 1) := by decide +kernel
theorem d_X_sensor_0 : decode b_X_sensor 0 = .ok (.iload_n 1, 1) := by decide +kernel
theorem d_X_sensor_1 : decode b_X_sensor 1 = .ok (.ifCond .lt 8, 3) := by decide +kernel
theorem d_X_sensor_4 : decode b_X_sensor 4 = .ok (.iload_n 1, 1) := by decide +kernel
theorem d_X_sensor_5 : decode b_X_sensor 5 = .ok (.iconst 3, 1) := by decide +kernel
theorem d_X_sensor_6 : decode b_X_sensor 6 = .ok (.if_icmp .lt 5, 3) := by decide +kernel
theorem d_X_sensor_9 : decode b_X_sensor 9 = .ok (.iconst (-1), 1) := by decide +kernel
theorem d_X_sensor_10 : decode b_X_sensor 10 = .ok (.ireturn, 1) := by decide +kernel
theorem d_X_sensor_11 : decode b_X_sensor 11 = .ok (.iload_n 2, 1) := by decide +kernel
theorem d_X_sensor_12 : decode b_X_sensor 12 = .ok (.ifCond .eq 11, 3) := by decide +kernel
theorem d_X_sensor_15 : decode b_X_sensor 15 = .ok (.iload_n 2, 1) := by decide +kernel
theorem d_X_sensor_16 : decode b_X_sensor 16 = .ok (.iconst 1, 1) := by decide +kernel
theorem d_X_sensor_17 : decode b_X_sensor 17 = .ok (.if_icmp .eq 6, 3) := by decide +kernel
theorem d_X_sensor_20 : decode b_X_sensor 20 = .ok (.bipush (-2), 2) := by decide +kernel
theorem d_X_sensor_22 : decode b_X_sensor 22 = .ok (.ireturn, 1) := by decide +kernel
theorem d_X_sensor_23 : decode b_X_sensor 23 = .ok (.aload_n 0, 1) := by decide +kernel
theorem d_X_sensor_24 : decode b_X_sensor 24 = .ok (.getfield 37, 3) := by decide +kernel
theorem d_X_sensor_27 : decode b_X_sensor 27 = .ok (.iload_n 1, 1) := by decide +kernel
theorem d_X_sensor_28 : decode b_X_sensor 28 = .ok (.baload, 1) := by decide +kernel
theorem d_X_sensor_29 : decode b_X_sensor 29 = .ok (.ifCond .eq 7, 3) := by decide +kernel
theorem d_X_sensor_32 : decode b_X_sensor 32 = .ok (.iconst 1, 1) := by decide +kernel
theorem d_X_sensor_33 : decode b_X_sensor 33 = .ok (.goto 4, 3) := by decide +kernel
theorem d_X_sensor_36 : decode b_X_sensor 36 = .ok (.iconst 0, 1) := by decide +kernel
theorem d_X_sensor_37 : decode b_X_sensor 37 = .ok (.istore_n 3, 1) := by decide +kernel
theorem d_X_sensor_38 : decode b_X_sensor 38 = .ok (.aload_n 0, 1) := by decide +kernel
theorem d_X_sensor_39 : decode b_X_sensor 39 = .ok (.getfield 37, 3) := by decide +kernel
theorem d_X_sensor_42 : decode b_X_sensor 42 = .ok (.iload_n 1, 1) := by decide +kernel
theorem d_X_sensor_43 : decode b_X_sensor 43 = .ok (.iload_n 2, 1) := by decide +kernel
theorem d_X_sensor_44 : decode b_X_sensor 44 = .ok (.iconst 1, 1) := by decide +kernel
theorem d_X_sensor_45 : decode b_X_sensor 45 = .ok (.if_icmp .ne 7, 3) := by decide +kernel
theorem d_X_sensor_48 : decode b_X_sensor 48 = .ok (.iconst 1, 1) := by decide +kernel
theorem d_X_sensor_49 : decode b_X_sensor 49 = .ok (.goto 4, 3) := by decide +kernel
theorem d_X_sensor_52 : decode b_X_sensor 52 = .ok (.iconst 0, 1) := by decide +kernel
theorem d_X_sensor_53 : decode b_X_sensor 53 = .ok (.bastore, 1) := by decide +kernel
theorem d_X_sensor_54 : decode b_X_sensor 54 = .ok (.iload_n 3, 1) := by decide +kernel
theorem d_X_sensor_55 : decode b_X_sensor 55 = .ok (.ireturn, 1) := by decide +kernel
theorem d_X_cylinder_0 : decode b_X_cylinder 0 = .ok (.iload_n 1, 1) := by decide +kernel
theorem d_X_cylinder_1 : decode b_X_cylinder 1 = .ok (.iconst 1, 1) := by decide +kernel
theorem d_X_cylinder_2 : decode b_X_cylinder 2 = .ok (.if_icmp .lt 9, 3) := by decide +kernel
theorem d_X_cylinder_5 : decode b_X_cylinder 5 = .ok (.iload_n 1, 1) := by decide +kernel
theorem d_X_cylinder_6 : decode b_X_cylinder 6 = .ok (.bipush 12, 2) := by decide +kernel
theorem d_X_cylinder_8 : decode b_X_cylinder 8 = .ok (.if_icmp .le 5, 3) := by decide +kernel
theorem d_X_cylinder_11 : decode b_X_cylinder 11 = .ok (.iconst 0, 1) := by decide +kernel
theorem d_X_cylinder_12 : decode b_X_cylinder 12 = .ok (.ireturn, 1) := by decide +kernel
theorem d_X_cylinder_13 : decode b_X_cylinder 13 = .ok (.aload_n 0, 1) := by decide +kernel
theorem d_X_cylinder_14 : decode b_X_cylinder 14 = .ok (.iload_n 1, 1) := by decide +kernel
theorem d_X_cylinder_15 : decode b_X_cylinder 15 = .ok (.putfield 45, 3) := by decide +kernel
theorem d_X_cylinder_18 : decode b_X_cylinder 18 = .ok (.iconst 1, 1) := by decide +kernel
theorem d_X_cylinder_19 : decode b_X_cylinder 19 = .ok (.ireturn, 1) := by decide +kernel
theorem d_X_idle_0 : decode b_X_idle 0 = .ok (.lload_n 1, 1) := by decide +kernel
theorem d_X_idle_1 : decode b_X_idle 1 = .ok (.ldc2_w 161, 3) := by decide +kernel
theorem d_X_idle_4 : decode b_X_idle 4 = .ok (.invokestatic 54, 3) := by decide +kernel
theorem d_X_idle_7 : decode b_X_idle 7 = .ok (.ifCond .ne 6, 3) := by decide +kernel
theorem d_X_idle_10 : decode b_X_idle 10 = .ok (.bipush (-2), 2) := by decide +kernel
theorem d_X_idle_12 : decode b_X_idle 12 = .ok (.ireturn, 1) := by decide +kernel
theorem d_X_idle_13 : decode b_X_idle 13 = .ok (.aload_n 0, 1) := by decide +kernel
theorem d_X_idle_14 : decode b_X_idle 14 = .ok (.getfield 26, 3) := by decide +kernel
theorem d_X_idle_17 : decode b_X_idle 17 = .ok (.getfield 163, 3) := by decide +kernel
theorem d_X_idle_20 : decode b_X_idle 20 = .ok (.istore_n 3, 1) := by decide +kernel
theorem d_X_idle_21 : decode b_X_idle 21 = .ok (.aload_n 0, 1) := by decide +kernel
theorem d_X_idle_22 : decode b_X_idle 22 = .ok (.getfield 26, 3) := by decide +kernel
theorem d_X_idle_25 : decode b_X_idle 25 = .ok (.lload_n 1, 1) := by decide +kernel
theorem d_X_idle_26 : decode b_X_idle 26 = .ok (.l2i, 1) := by decide +kernel
theorem d_X_idle_27 : decode b_X_idle 27 = .ok (.putfield 163, 3) := by decide +kernel
theorem d_X_idle_30 : decode b_X_idle 30 = .ok (.iload_n 3, 1) := by decide +kernel
theorem d_X_idle_31 : decode b_X_idle 31 = .ok (.ireturn, 1) := by decide +kernel
theorem d_X_sum_0 : decode b_X_sum 0 = .ok (.iload_n 1, 1) := by decide +kernel
theorem d_X_sum_1 : decode b_X_sum 1 = .ok (.tableswitch 63 0 3 #[31, 39, 47, 55], 31) := by decide +kernel
theorem d_X_sum_32 : decode b_X_sum 32 = .ok (.aload_n 0, 1) := by decide +kernel
theorem d_X_sum_33 : decode b_X_sum 33 = .ok (.getfield 33, 3) := by decide +kernel
theorem d_X_sum_36 : decode b_X_sum 36 = .ok (.getfield 166, 3) := by decide +kernel
theorem d_X_sum_39 : decode b_X_sum 39 = .ok (.lreturn, 1) := by decide +kernel
theorem d_X_sum_40 : decode b_X_sum 40 = .ok (.aload_n 0, 1) := by decide +kernel
theorem d_X_sum_41 : decode b_X_sum 41 = .ok (.getfield 33, 3) := by decide +kernel
theorem d_X_sum_44 : decode b_X_sum 44 = .ok (.getfield 170, 3) := by decide +kernel
theorem d_X_sum_47 : decode b_X_sum 47 = .ok (.lreturn, 1) := by decide +kernel
theorem d_X_sum_48 : decode b_X_sum 48 = .ok (.aload_n 0, 1) := by decide +kernel
theorem d_X_sum_49 : decode b_X_sum 49 = .ok (.getfield 33, 3) := by decide +kernel
theorem d_X_sum_52 : decode b_X_sum 52 = .ok (.getfield 173, 3) := by decide +kernel
theorem d_X_sum_55 : decode b_X_sum 55 = .ok (.lreturn, 1) := by decide +kernel
theorem d_X_sum_56 : decode b_X_sum 56 = .ok (.aload_n 0, 1) := by decide +kernel
theorem d_X_sum_57 : decode b_X_sum 57 = .ok (.getfield 33, 3) := by decide +kernel
theorem d_X_sum_60 : decode b_X_sum 60 = .ok (.getfield 176, 3) := by decide +kernel
theorem d_X_sum_63 : decode b_X_sum 63 = .ok (.lreturn, 1) := by decide +kernel
theorem d_X_sum_64 : decode b_X_sum 64 = .ok (.ldc2_w 133, 3) := by decide +kernel
theorem d_X_sum_67 : decode b_X_sum 67 = .ok (.lreturn, 1) := by decide +kernel
theorem d_X_split_0 : decode b_X_split 0 = .ok (.lload_n 1, 1) := by decide +kernel
theorem d_X_split_1 : decode b_X_split 1 = .ok (.ldc2_w 52, 3) := by decide +kernel
theorem d_X_split_4 : decode b_X_split 4 = .ok (.invokestatic 54, 3) := by decide +kernel
theorem d_X_split_7 : decode b_X_split 7 = .ok (.ifCond .eq 12, 3) := by decide +kernel
theorem d_X_split_10 : decode b_X_split 10 = .ok (.iload_n 3, 1) := by decide +kernel
theorem d_X_split_11 : decode b_X_split 11 = .ok (.ifCond .lt 8, 3) := by decide +kernel
theorem d_X_split_14 : decode b_X_split 14 = .ok (.iload_n 3, 1) := by decide +kernel
theorem d_X_split_15 : decode b_X_split 15 = .ok (.iconst 2, 1) := by decide +kernel
theorem d_X_split_16 : decode b_X_split 16 = .ok (.if_icmp .le 6, 3) := by decide +kernel
theorem d_X_split_19 : decode b_X_split 19 = .ok (.bipush (-2), 2) := by decide +kernel
theorem d_X_split_21 : decode b_X_split 21 = .ok (.ireturn, 1) := by decide +kernel
theorem d_X_split_22 : decode b_X_split 22 = .ok (.lload_n 1, 1) := by decide +kernel
theorem d_X_split_23 : decode b_X_split 23 = .ok (.l2i, 1) := by decide +kernel
theorem d_X_split_24 : decode b_X_split 24 = .ok (.istore 4, 2) := by decide +kernel
theorem d_X_split_26 : decode b_X_split 26 = .ok (.aload_n 0, 1) := by decide +kernel
theorem d_X_split_27 : decode b_X_split 27 = .ok (.iload 4, 2) := by decide +kernel
theorem d_X_split_29 : decode b_X_split 29 = .ok (.invokevirtual 179, 3) := by decide +kernel
theorem d_X_split_32 : decode b_X_split 32 = .ok (.istore 5, 2) := by decide +kernel
theorem d_X_split_34 : decode b_X_split 34 = .ok (.iload_n 3, 1) := by decide +kernel
theorem d_X_split_35 : decode b_X_split 35 = .ok (.ifCond .ne 9, 3) := by decide +kernel
theorem d_X_split_38 : decode b_X_split 38 = .ok (.iload 4, 2) := by decide +kernel
theorem d_X_split_40 : decode b_X_split 40 = .ok (.iload 5, 2) := by decide +kernel
theorem d_X_split_42 : decode b_X_split 42 = .ok (.isub, 1) := by decide +kernel
theorem d_X_split_43 : decode b_X_split 43 = .ok (.ireturn, 1) := by decide +kernel
theorem d_X_split_44 : decode b_X_split 44 = .ok (.iload_n 3, 1) := by decide +kernel
theorem d_X_split_45 : decode b_X_split 45 = .ok (.iconst 1, 1) := by decide +kernel
theorem d_X_split_46 : decode b_X_split 46 = .ok (.if_icmp .ne 8, 3) := by decide +kernel
theorem d_X_split_49 : decode b_X_split 49 = .ok (.iload 5, 2) := by decide +kernel
theorem d_X_split_51 : decode b_X_split 51 = .ok (.goto 11, 3) := by decide +kernel
theorem d_X_split_54 : decode b_X_split 54 = .ok (.aload_n 0, 1) := by decide +kernel
theorem d_X_split_55 : decode b_X_split 55 = .ok (.iload 4, 2) := by decide +kernel
theorem d_X_split_57 : decode b_X_split 57 = .ok (.iload 5, 2) := by decide +kernel
theorem d_X_split_59 : decode b_X_split 59 = .ok (.invokevirtual 183, 3) := by decide +kernel
theorem d_X_split_62 : decode b_X_split 62 = .ok (.ireturn, 1) := by decide +kernel
theorem d_X_limp_0 : decode b_X_limp 0 = .ok (.aload_n 0, 1) := by decide +kernel
theorem d_X_limp_1 : decode b_X_limp 1 = .ok (.getfield 186, 3) := by decide +kernel
theorem d_X_limp_4 : decode b_X_limp 4 = .ok (.iload_n 1, 1) := by decide +kernel
theorem d_X_limp_5 : decode b_X_limp 5 = .ok (.if_icmp .eq 7, 3) := by decide +kernel
theorem d_X_limp_8 : decode b_X_limp 8 = .ok (.iconst 1, 1) := by decide +kernel
theorem d_X_limp_9 : decode b_X_limp 9 = .ok (.goto 4, 3) := by decide +kernel
theorem d_X_limp_12 : decode b_X_limp 12 = .ok (.iconst 0, 1) := by decide +kernel
theorem d_X_limp_13 : decode b_X_limp 13 = .ok (.istore_n 2, 1) := by decide +kernel
theorem d_X_limp_14 : decode b_X_limp 14 = .ok (.aload_n 0, 1) := by decide +kernel
theorem d_X_limp_15 : decode b_X_limp 15 = .ok (.iload_n 1, 1) := by decide +kernel
theorem d_X_limp_16 : decode b_X_limp 16 = .ok (.putfield 186, 3) := by decide +kernel
theorem d_X_limp_19 : decode b_X_limp 19 = .ok (.iload_n 1, 1) := by decide +kernel
theorem d_X_limp_20 : decode b_X_limp 20 = .ok (.ifCond .ne 35, 3) := by decide +kernel
theorem d_X_limp_23 : decode b_X_limp 23 = .ok (.iload_n 2, 1) := by decide +kernel
theorem d_X_limp_24 : decode b_X_limp 24 = .ok (.ifCond .ne 10, 3) := by decide +kernel
theorem d_X_limp_27 : decode b_X_limp 27 = .ok (.aload_n 0, 1) := by decide +kernel
theorem d_X_limp_28 : decode b_X_limp 28 = .ok (.getfield 141, 3) := by decide +kernel
theorem d_X_limp_31 : decode b_X_limp 31 = .ok (.ifCond .eq 7, 3) := by decide +kernel
theorem d_X_limp_34 : decode b_X_limp 34 = .ok (.iconst 1, 1) := by decide +kernel
theorem d_X_limp_35 : decode b_X_limp 35 = .ok (.goto 4, 3) := by decide +kernel
theorem d_X_limp_38 : decode b_X_limp 38 = .ok (.iconst 0, 1) := by decide +kernel
theorem d_X_limp_39 : decode b_X_limp 39 = .ok (.istore_n 2, 1) := by decide +kernel
theorem d_X_limp_40 : decode b_X_limp 40 = .ok (.aload_n 0, 1) := by decide +kernel
theorem d_X_limp_41 : decode b_X_limp 41 = .ok (.iconst 0, 1) := by decide +kernel
theorem d_X_limp_42 : decode b_X_limp 42 = .ok (.putfield 141, 3) := by decide +kernel
theorem d_X_limp_45 : decode b_X_limp 45 = .ok (.aload_n 0, 1) := by decide +kernel
theorem d_X_limp_46 : decode b_X_limp 46 = .ok (.iconst 0, 1) := by decide +kernel
theorem d_X_limp_47 : decode b_X_limp 47 = .ok (.putfield 130, 3) := by decide +kernel
theorem d_X_limp_50 : decode b_X_limp 50 = .ok (.aload_n 0, 1) := by decide +kernel
theorem d_X_limp_51 : decode b_X_limp 51 = .ok (.iconst 0, 1) := by decide +kernel
theorem d_X_limp_52 : decode b_X_limp 52 = .ok (.putfield 149, 3) := by decide +kernel
theorem d_X_limp_55 : decode b_X_limp 55 = .ok (.iload_n 2, 1) := by decide +kernel
theorem d_X_limp_56 : decode b_X_limp 56 = .ok (.ifCond .eq 7, 3) := by decide +kernel
theorem d_X_limp_59 : decode b_X_limp 59 = .ok (.iconst 1, 1) := by decide +kernel
theorem d_X_limp_60 : decode b_X_limp 60 = .ok (.goto 4, 3) := by decide +kernel
theorem d_X_limp_63 : decode b_X_limp 63 = .ok (.iconst 0, 1) := by decide +kernel
theorem d_X_limp_64 : decode b_X_limp 64 = .ok (.ireturn, 1) := by decide +kernel
theorem d_Ta_init_0 : decode b_Ta_init 0 = .ok (.aload_n 0, 1) := by decide +kernel
theorem d_Ta_init_1 : decode b_Ta_init 1 = .ok (.invokespecial 1, 3) := by decide +kernel
theorem d_Ta_init_4 : decode b_Ta_init 4 = .ok (.aload_n 0, 1) := by decide +kernel
theorem d_Ta_init_5 : decode b_Ta_init 5 = .ok (.sipush 320, 3) := by decide +kernel
theorem d_Ta_init_8 : decode b_Ta_init 8 = .ok (.newarray .int, 2) := by decide +kernel
theorem d_Ta_init_10 : decode b_Ta_init 10 = .ok (.putfield 9, 3) := by decide +kernel
theorem d_Ta_init_13 : decode b_Ta_init 13 = .ok (.return_, 1) := by decide +kernel
theorem d_Wi_init_0 : decode b_Wi_init 0 = .ok (.aload_n 0, 1) := by decide +kernel
theorem d_Wi_init_1 : decode b_Wi_init 1 = .ok (.invokespecial 1, 3) := by decide +kernel
theorem d_Wi_init_4 : decode b_Wi_init 4 = .ok (.aload_n 0, 1) := by decide +kernel
theorem d_Wi_init_5 : decode b_Wi_init 5 = .ok (.bipush 6, 2) := by decide +kernel
theorem d_Wi_init_7 : decode b_Wi_init 7 = .ok (.newarray .int, 2) := by decide +kernel
theorem d_Wi_init_9 : decode b_Wi_init 9 = .ok (.putfield 9, 3) := by decide +kernel
theorem d_Wi_init_12 : decode b_Wi_init 12 = .ok (.aload_n 0, 1) := by decide +kernel
theorem d_Wi_init_13 : decode b_Wi_init 13 = .ok (.invokevirtual 13, 3) := by decide +kernel
theorem d_Wi_init_16 : decode b_Wi_init 16 = .ok (.return_, 1) := by decide +kernel
theorem d_Id_init_0 : decode b_Id_init 0 = .ok (.aload_n 0, 1) := by decide +kernel
theorem d_Id_init_1 : decode b_Id_init 1 = .ok (.invokespecial 1, 3) := by decide +kernel
theorem d_Id_init_4 : decode b_Id_init 4 = .ok (.aload_n 0, 1) := by decide +kernel
theorem d_Id_init_5 : decode b_Id_init 5 = .ok (.sipush 800, 3) := by decide +kernel
theorem d_Id_init_8 : decode b_Id_init 8 = .ok (.putfield 7, 3) := by decide +kernel
theorem d_Id_init_11 : decode b_Id_init 11 = .ok (.return_, 1) := by decide +kernel
theorem d_To_init_0 : decode b_To_init 0 = .ok (.aload_n 0, 1) := by decide +kernel
theorem d_To_init_1 : decode b_To_init 1 = .ok (.invokespecial 1, 3) := by decide +kernel
theorem d_To_init_4 : decode b_To_init 4 = .ok (.return_, 1) := by decide +kernel
theorem d_X_init_0 : decode b_X_init 0 = .ok (.aload_n 0, 1) := by decide +kernel
theorem d_X_init_1 : decode b_X_init 1 = .ok (.invokespecial 1, 3) := by decide +kernel
theorem d_X_init_4 : decode b_X_init 4 = .ok (.aload_n 0, 1) := by decide +kernel
theorem d_X_init_5 : decode b_X_init 5 = .ok (.new 7, 3) := by decide +kernel
theorem d_X_init_8 : decode b_X_init 8 = .ok (.dup, 1) := by decide +kernel
theorem d_X_init_9 : decode b_X_init 9 = .ok (.invokespecial 9, 3) := by decide +kernel
theorem d_X_init_12 : decode b_X_init 12 = .ok (.putfield 10, 3) := by decide +kernel
theorem d_X_init_15 : decode b_X_init 15 = .ok (.aload_n 0, 1) := by decide +kernel
theorem d_X_init_16 : decode b_X_init 16 = .ok (.new 16, 3) := by decide +kernel
theorem d_X_init_19 : decode b_X_init 19 = .ok (.dup, 1) := by decide +kernel
theorem d_X_init_20 : decode b_X_init 20 = .ok (.invokespecial 18, 3) := by decide +kernel
theorem d_X_init_23 : decode b_X_init 23 = .ok (.putfield 19, 3) := by decide +kernel
theorem d_X_init_26 : decode b_X_init 26 = .ok (.aload_n 0, 1) := by decide +kernel
theorem d_X_init_27 : decode b_X_init 27 = .ok (.new 23, 3) := by decide +kernel
theorem d_X_init_30 : decode b_X_init 30 = .ok (.dup, 1) := by decide +kernel
theorem d_X_init_31 : decode b_X_init 31 = .ok (.invokespecial 25, 3) := by decide +kernel
theorem d_X_init_34 : decode b_X_init 34 = .ok (.putfield 26, 3) := by decide +kernel
theorem d_X_init_37 : decode b_X_init 37 = .ok (.aload_n 0, 1) := by decide +kernel
theorem d_X_init_38 : decode b_X_init 38 = .ok (.new 30, 3) := by decide +kernel
theorem d_X_init_41 : decode b_X_init 41 = .ok (.dup, 1) := by decide +kernel
theorem d_X_init_42 : decode b_X_init 42 = .ok (.invokespecial 32, 3) := by decide +kernel
theorem d_X_init_45 : decode b_X_init 45 = .ok (.putfield 33, 3) := by decide +kernel
theorem d_X_init_48 : decode b_X_init 48 = .ok (.aload_n 0, 1) := by decide +kernel
theorem d_X_init_49 : decode b_X_init 49 = .ok (.iconst 3, 1) := by decide +kernel
theorem d_X_init_50 : decode b_X_init 50 = .ok (.newarray .boolean, 2) := by decide +kernel
theorem d_X_init_52 : decode b_X_init 52 = .ok (.putfield 37, 3) := by decide +kernel
theorem d_X_init_55 : decode b_X_init 55 = .ok (.aload_n 0, 1) := by decide +kernel
theorem d_X_init_56 : decode b_X_init 56 = .ok (.sipush 1000, 3) := by decide +kernel
theorem d_X_init_59 : decode b_X_init 59 = .ok (.putfield 41, 3) := by decide +kernel
theorem d_X_init_62 : decode b_X_init 62 = .ok (.aload_n 0, 1) := by decide +kernel
theorem d_X_init_63 : decode b_X_init 63 = .ok (.iconst 4, 1) := by decide +kernel
theorem d_X_init_64 : decode b_X_init 64 = .ok (.putfield 45, 3) := by decide +kernel
theorem d_X_init_67 : decode b_X_init 67 = .ok (.return_, 1) := by decide +kernel
theorem d_Z_down_0 : decode b_Z_down 0 = .ok (.lload_n 0, 1) := by decide +kernel
theorem d_Z_down_1 : decode b_Z_down 1 = .ok (.lload_n 2, 1) := by decide +kernel
theorem d_Z_down_2 : decode b_Z_down 2 = .ok (.ldiv, 1) := by decide +kernel
theorem d_Z_down_3 : decode b_Z_down 3 = .ok (.lstore 4, 2) := by decide +kernel
theorem d_Z_down_5 : decode b_Z_down 5 = .ok (.lload 4, 2) := by decide +kernel
theorem d_Z_down_7 : decode b_Z_down 7 = .ok (.lload_n 2, 1) := by decide +kernel
theorem d_Z_down_8 : decode b_Z_down 8 = .ok (.lmul, 1) := by decide +kernel
theorem d_Z_down_9 : decode b_Z_down 9 = .ok (.lload_n 0, 1) := by decide +kernel
theorem d_Z_down_10 : decode b_Z_down 10 = .ok (.lcmp, 1) := by decide +kernel
theorem d_Z_down_11 : decode b_Z_down 11 = .ok (.ifCond .le 10, 3) := by decide +kernel
theorem d_Z_down_14 : decode b_Z_down 14 = .ok (.lload 4, 2) := by decide +kernel
theorem d_Z_down_16 : decode b_Z_down 16 = .ok (.lconst 1, 1) := by decide +kernel
theorem d_Z_down_17 : decode b_Z_down 17 = .ok (.lsub, 1) := by decide +kernel
theorem d_Z_down_18 : decode b_Z_down 18 = .ok (.goto 5, 3) := by decide +kernel
theorem d_Z_down_21 : decode b_Z_down 21 = .ok (.lload 4, 2) := by decide +kernel
theorem d_Z_down_23 : decode b_Z_down 23 = .ok (.lreturn, 1) := by decide +kernel
theorem d_Z_v_0 : decode b_Z_v 0 = .ok (.aload_n 0, 1) := by decide +kernel
theorem d_Z_v_1 : decode b_Z_v 1 = .ok (.getfield 7, 3) := by decide +kernel
theorem d_Z_v_4 : decode b_Z_v 4 = .ok (.bipush 64, 2) := by decide +kernel
theorem d_Z_v_6 : decode b_Z_v 6 = .ok (.iload_n 1, 1) := by decide +kernel
theorem d_Z_v_7 : decode b_Z_v 7 = .ok (.imul, 1) := by decide +kernel
theorem d_Z_v_8 : decode b_Z_v 8 = .ok (.bipush 8, 2) := by decide +kernel
theorem d_Z_v_10 : decode b_Z_v 10 = .ok (.iload_n 2, 1) := by decide +kernel
theorem d_Z_v_11 : decode b_Z_v 11 = .ok (.imul, 1) := by decide +kernel
theorem d_Z_v_12 : decode b_Z_v 12 = .ok (.iadd, 1) := by decide +kernel
theorem d_Z_v_13 : decode b_Z_v 13 = .ok (.iload_n 3, 1) := by decide +kernel
theorem d_Z_v_14 : decode b_Z_v 14 = .ok (.iadd, 1) := by decide +kernel
theorem d_Z_v_15 : decode b_Z_v 15 = .ok (.iaload, 1) := by decide +kernel
theorem d_Z_v_16 : decode b_Z_v 16 = .ok (.ireturn, 1) := by decide +kernel
theorem d_Z_valueAt_0 : decode b_Z_valueAt 0 = .ok (.lload_n 2, 1) := by decide +kernel
theorem d_Z_valueAt_1 : decode b_Z_valueAt 1 = .ok (.lconst 0, 1) := by decide +kernel
theorem d_Z_valueAt_2 : decode b_Z_valueAt 2 = .ok (.lcmp, 1) := by decide +kernel
theorem d_Z_valueAt_3 : decode b_Z_valueAt 3 = .ok (.ifCond .ge 7, 3) := by decide +kernel
theorem d_Z_valueAt_6 : decode b_Z_valueAt 6 = .ok (.iconst 0, 1) := by decide +kernel
theorem d_Z_valueAt_7 : decode b_Z_valueAt 7 = .ok (.goto 19, 3) := by decide +kernel
theorem d_Z_valueAt_10 : decode b_Z_valueAt 10 = .ok (.lload_n 2, 1) := by decide +kernel
theorem d_Z_valueAt_11 : decode b_Z_valueAt 11 = .ok (.ldc2_w 36, 3) := by decide +kernel
theorem d_Z_valueAt_14 : decode b_Z_valueAt 14 = .ok (.lcmp, 1) := by decide +kernel
theorem d_Z_valueAt_15 : decode b_Z_valueAt 15 = .ok (.ifCond .le 9, 3) := by decide +kernel
theorem d_Z_valueAt_18 : decode b_Z_valueAt 18 = .ok (.sipush 896, 3) := by decide +kernel
theorem d_Z_valueAt_21 : decode b_Z_valueAt 21 = .ok (.goto 5, 3) := by decide +kernel
theorem d_Z_valueAt_24 : decode b_Z_valueAt 24 = .ok (.lload_n 2, 1) := by decide +kernel
theorem d_Z_valueAt_25 : decode b_Z_valueAt 25 = .ok (.l2i, 1) := by decide +kernel
theorem d_Z_valueAt_26 : decode b_Z_valueAt 26 = .ok (.istore 6, 2) := by decide +kernel
theorem d_Z_valueAt_28 : decode b_Z_valueAt 28 = .ok (.lload 4, 2) := by decide +kernel
theorem d_Z_valueAt_30 : decode b_Z_valueAt 30 = .ok (.lconst 0, 1) := by decide +kernel
theorem d_Z_valueAt_31 : decode b_Z_valueAt 31 = .ok (.lcmp, 1) := by decide +kernel
theorem d_Z_valueAt_32 : decode b_Z_valueAt 32 = .ok (.ifCond .ge 7, 3) := by decide +kernel
theorem d_Z_valueAt_35 : decode b_Z_valueAt 35 = .ok (.iconst 0, 1) := by decide +kernel
theorem d_Z_valueAt_36 : decode b_Z_valueAt 36 = .ok (.goto 21, 3) := by decide +kernel
theorem d_Z_valueAt_39 : decode b_Z_valueAt 39 = .ok (.lload 4, 2) := by decide +kernel
theorem d_Z_valueAt_41 : decode b_Z_valueAt 41 = .ok (.ldc2_w 38, 3) := by decide +kernel
theorem d_Z_valueAt_44 : decode b_Z_valueAt 44 = .ok (.lcmp, 1) := by decide +kernel
theorem d_Z_valueAt_45 : decode b_Z_valueAt 45 = .ok (.ifCond .le 9, 3) := by decide +kernel
theorem d_Z_valueAt_48 : decode b_Z_valueAt 48 = .ok (.sipush 7000, 3) := by decide +kernel
theorem d_Z_valueAt_51 : decode b_Z_valueAt 51 = .ok (.goto 6, 3) := by decide +kernel
theorem d_Z_valueAt_54 : decode b_Z_valueAt 54 = .ok (.lload 4, 2) := by decide +kernel
theorem d_Z_valueAt_56 : decode b_Z_valueAt 56 = .ok (.l2i, 1) := by decide +kernel
theorem d_Z_valueAt_57 : decode b_Z_valueAt 57 = .ok (.istore 7, 2) := by decide +kernel
theorem d_Z_valueAt_59 : decode b_Z_valueAt 59 = .ok (.iload 6, 2) := by decide +kernel
theorem d_Z_valueAt_61 : decode b_Z_valueAt 61 = .ok (.sipush 128, 3) := by decide +kernel
theorem d_Z_valueAt_64 : decode b_Z_valueAt 64 = .ok (.idiv, 1) := by decide +kernel
theorem d_Z_valueAt_65 : decode b_Z_valueAt 65 = .ok (.bipush 6, 2) := by decide +kernel
theorem d_Z_valueAt_67 : decode b_Z_valueAt 67 = .ok (.if_icmp .le 8, 3) := by decide +kernel
theorem d_Z_valueAt_70 : decode b_Z_valueAt 70 = .ok (.bipush 6, 2) := by decide +kernel
theorem d_Z_valueAt_72 : decode b_Z_valueAt 72 = .ok (.goto 9, 3) := by decide +kernel
theorem d_Z_valueAt_75 : decode b_Z_valueAt 75 = .ok (.iload 6, 2) := by decide +kernel
theorem d_Z_valueAt_77 : decode b_Z_valueAt 77 = .ok (.sipush 128, 3) := by decide +kernel
theorem d_Z_valueAt_80 : decode b_Z_valueAt 80 = .ok (.idiv, 1) := by decide +kernel
theorem d_Z_valueAt_81 : decode b_Z_valueAt 81 = .ok (.istore 8, 2) := by decide +kernel
theorem d_Z_valueAt_83 : decode b_Z_valueAt 83 = .ok (.iload 7, 2) := by decide +kernel
theorem d_Z_valueAt_85 : decode b_Z_valueAt 85 = .ok (.sipush 1000, 3) := by decide +kernel
theorem d_Z_valueAt_88 : decode b_Z_valueAt 88 = .ok (.idiv, 1) := by decide +kernel
theorem d_Z_valueAt_89 : decode b_Z_valueAt 89 = .ok (.bipush 6, 2) := by decide +kernel
theorem d_Z_valueAt_91 : decode b_Z_valueAt 91 = .ok (.if_icmp .le 8, 3) := by decide +kernel
theorem d_Z_valueAt_94 : decode b_Z_valueAt 94 = .ok (.bipush 6, 2) := by decide +kernel
theorem d_Z_valueAt_96 : decode b_Z_valueAt 96 = .ok (.goto 9, 3) := by decide +kernel
theorem d_Z_valueAt_99 : decode b_Z_valueAt 99 = .ok (.iload 7, 2) := by decide +kernel
theorem d_Z_valueAt_101 : decode b_Z_valueAt 101 = .ok (.sipush 1000, 3) := by decide +kernel
theorem d_Z_valueAt_104 : decode b_Z_valueAt 104 = .ok (.idiv, 1) := by decide +kernel
theorem d_Z_valueAt_105 : decode b_Z_valueAt 105 = .ok (.istore 9, 2) := by decide +kernel
theorem d_Z_valueAt_107 : decode b_Z_valueAt 107 = .ok (.iload 6, 2) := by decide +kernel
theorem d_Z_valueAt_109 : decode b_Z_valueAt 109 = .ok (.sipush 128, 3) := by decide +kernel
theorem d_Z_valueAt_112 : decode b_Z_valueAt 112 = .ok (.iload 8, 2) := by decide +kernel
theorem d_Z_valueAt_114 : decode b_Z_valueAt 114 = .ok (.imul, 1) := by decide +kernel
theorem d_Z_valueAt_115 : decode b_Z_valueAt 115 = .ok (.isub, 1) := by decide +kernel
theorem d_Z_valueAt_116 : decode b_Z_valueAt 116 = .ok (.i2l, 1) := by decide +kernel
theorem d_Z_valueAt_117 : decode b_Z_valueAt 117 = .ok (.lstore 10, 2) := by decide +kernel
theorem d_Z_valueAt_119 : decode b_Z_valueAt 119 = .ok (.iload 7, 2) := by decide +kernel
theorem d_Z_valueAt_121 : decode b_Z_valueAt 121 = .ok (.sipush 1000, 3) := by decide +kernel
theorem d_Z_valueAt_124 : decode b_Z_valueAt 124 = .ok (.iload 9, 2) := by decide +kernel
theorem d_Z_valueAt_126 : decode b_Z_valueAt 126 = .ok (.imul, 1) := by decide +kernel
theorem d_Z_valueAt_127 : decode b_Z_valueAt 127 = .ok (.isub, 1) := by decide +kernel
theorem d_Z_valueAt_128 : decode b_Z_valueAt 128 = .ok (.i2l, 1) := by decide +kernel
theorem d_Z_valueAt_129 : decode b_Z_valueAt 129 = .ok (.lstore 12, 2) := by decide +kernel
theorem d_Z_valueAt_131 : decode b_Z_valueAt 131 = .ok (.aload_n 0, 1) := by decide +kernel
theorem d_Z_valueAt_132 : decode b_Z_valueAt 132 = .ok (.iload_n 1, 1) := by decide +kernel
theorem d_Z_valueAt_133 : decode b_Z_valueAt 133 = .ok (.iload 8, 2) := by decide +kernel
theorem d_Z_valueAt_135 : decode b_Z_valueAt 135 = .ok (.iload 9, 2) := by decide +kernel
theorem d_Z_valueAt_137 : decode b_Z_valueAt 137 = .ok (.invokevirtual 40, 3) := by decide +kernel
theorem d_Z_valueAt_140 : decode b_Z_valueAt 140 = .ok (.i2l, 1) := by decide +kernel
theorem d_Z_valueAt_141 : decode b_Z_valueAt 141 = .ok (.ldc2_w 44, 3) := by decide +kernel
theorem d_Z_valueAt_144 : decode b_Z_valueAt 144 = .ok (.lload 10, 2) := by decide +kernel
theorem d_Z_valueAt_146 : decode b_Z_valueAt 146 = .ok (.lsub, 1) := by decide +kernel
theorem d_Z_valueAt_147 : decode b_Z_valueAt 147 = .ok (.lmul, 1) := by decide +kernel
theorem d_Z_valueAt_148 : decode b_Z_valueAt 148 = .ok (.ldc2_w 46, 3) := by decide +kernel
theorem d_Z_valueAt_151 : decode b_Z_valueAt 151 = .ok (.lload 12, 2) := by decide +kernel
theorem d_Z_valueAt_153 : decode b_Z_valueAt 153 = .ok (.lsub, 1) := by decide +kernel
theorem d_Z_valueAt_154 : decode b_Z_valueAt 154 = .ok (.lmul, 1) := by decide +kernel
theorem d_Z_valueAt_155 : decode b_Z_valueAt 155 = .ok (.aload_n 0, 1) := by decide +kernel
theorem d_Z_valueAt_156 : decode b_Z_valueAt 156 = .ok (.iload_n 1, 1) := by decide +kernel
theorem d_Z_valueAt_157 : decode b_Z_valueAt 157 = .ok (.iload 8, 2) := by decide +kernel
theorem d_Z_valueAt_159 : decode b_Z_valueAt 159 = .ok (.iconst 1, 1) := by decide +kernel
theorem d_Z_valueAt_160 : decode b_Z_valueAt 160 = .ok (.iadd, 1) := by decide +kernel
theorem d_Z_valueAt_161 : decode b_Z_valueAt 161 = .ok (.iload 9, 2) := by decide +kernel
theorem d_Z_valueAt_163 : decode b_Z_valueAt 163 = .ok (.invokevirtual 40, 3) := by decide +kernel
theorem d_Z_valueAt_166 : decode b_Z_valueAt 166 = .ok (.i2l, 1) := by decide +kernel
theorem d_Z_valueAt_167 : decode b_Z_valueAt 167 = .ok (.lload 10, 2) := by decide +kernel
theorem d_Z_valueAt_169 : decode b_Z_valueAt 169 = .ok (.lmul, 1) := by decide +kernel
theorem d_Z_valueAt_170 : decode b_Z_valueAt 170 = .ok (.ldc2_w 46, 3) := by decide +kernel
theorem d_Z_valueAt_173 : decode b_Z_valueAt 173 = .ok (.lload 12, 2) := by decide +kernel
theorem d_Z_valueAt_175 : decode b_Z_valueAt 175 = .ok (.lsub, 1) := by decide +kernel
theorem d_Z_valueAt_176 : decode b_Z_valueAt 176 = .ok (.lmul, 1) := by decide +kernel
theorem d_Z_valueAt_177 : decode b_Z_valueAt 177 = .ok (.ladd, 1) := by decide +kernel
end
section
theorem d_Z_valueAt_178 : decode b_Z_valueAt 178 = .ok (.aload_n 0, 1) := by decide +kernel
theorem d_Z_valueAt_179 : decode b_Z_valueAt 179 = .ok (.iload_n 1, 1) := by decide +kernel
theorem d_Z_valueAt_180 : decode b_Z_valueAt 180 = .ok (.iload 8, 2) := by decide +kernel
theorem d_Z_valueAt_182 : decode b_Z_valueAt 182 = .ok (.iload 9, 2) := by decide +kernel
theorem d_Z_valueAt_184 : decode b_Z_valueAt 184 = .ok (.iconst 1, 1) := by decide +kernel
theorem d_Z_valueAt_185 : decode b_Z_valueAt 185 = .ok (.iadd, 1) := by decide +kernel
theorem d_Z_valueAt_186 : decode b_Z_valueAt 186 = .ok (.invokevirtual 40, 3) := by decide +kernel
theorem d_Z_valueAt_189 : decode b_Z_valueAt 189 = .ok (.i2l, 1) := by decide +kernel
theorem d_Z_valueAt_190 : decode b_Z_valueAt 190 = .ok (.ldc2_w 44, 3) := by decide +kernel
theorem d_Z_valueAt_193 : decode b_Z_valueAt 193 = .ok (.lload 10, 2) := by decide +kernel
theorem d_Z_valueAt_195 : decode b_Z_valueAt 195 = .ok (.lsub, 1) := by decide +kernel
theorem d_Z_valueAt_196 : decode b_Z_valueAt 196 = .ok (.lmul, 1) := by decide +kernel
theorem d_Z_valueAt_197 : decode b_Z_valueAt 197 = .ok (.lload 12, 2) := by decide +kernel
theorem d_Z_valueAt_199 : decode b_Z_valueAt 199 = .ok (.lmul, 1) := by decide +kernel
theorem d_Z_valueAt_200 : decode b_Z_valueAt 200 = .ok (.ladd, 1) := by decide +kernel
theorem d_Z_valueAt_201 : decode b_Z_valueAt 201 = .ok (.aload_n 0, 1) := by decide +kernel
theorem d_Z_valueAt_202 : decode b_Z_valueAt 202 = .ok (.iload_n 1, 1) := by decide +kernel
theorem d_Z_valueAt_203 : decode b_Z_valueAt 203 = .ok (.iload 8, 2) := by decide +kernel
theorem d_Z_valueAt_205 : decode b_Z_valueAt 205 = .ok (.iconst 1, 1) := by decide +kernel
theorem d_Z_valueAt_206 : decode b_Z_valueAt 206 = .ok (.iadd, 1) := by decide +kernel
theorem d_Z_valueAt_207 : decode b_Z_valueAt 207 = .ok (.iload 9, 2) := by decide +kernel
theorem d_Z_valueAt_209 : decode b_Z_valueAt 209 = .ok (.iconst 1, 1) := by decide +kernel
theorem d_Z_valueAt_210 : decode b_Z_valueAt 210 = .ok (.iadd, 1) := by decide +kernel
theorem d_Z_valueAt_211 : decode b_Z_valueAt 211 = .ok (.invokevirtual 40, 3) := by decide +kernel
theorem d_Z_valueAt_214 : decode b_Z_valueAt 214 = .ok (.i2l, 1) := by decide +kernel
theorem d_Z_valueAt_215 : decode b_Z_valueAt 215 = .ok (.lload 10, 2) := by decide +kernel
theorem d_Z_valueAt_217 : decode b_Z_valueAt 217 = .ok (.lmul, 1) := by decide +kernel
theorem d_Z_valueAt_218 : decode b_Z_valueAt 218 = .ok (.lload 12, 2) := by decide +kernel
theorem d_Z_valueAt_220 : decode b_Z_valueAt 220 = .ok (.lmul, 1) := by decide +kernel
theorem d_Z_valueAt_221 : decode b_Z_valueAt 221 = .ok (.ladd, 1) := by decide +kernel
theorem d_Z_valueAt_222 : decode b_Z_valueAt 222 = .ok (.lstore 14, 2) := by decide +kernel
theorem d_Z_valueAt_224 : decode b_Z_valueAt 224 = .ok (.lload 14, 2) := by decide +kernel
theorem d_Z_valueAt_226 : decode b_Z_valueAt 226 = .ok (.ldc2_w 48, 3) := by decide +kernel
theorem d_Z_valueAt_229 : decode b_Z_valueAt 229 = .ok (.ldiv, 1) := by decide +kernel
theorem d_Z_valueAt_230 : decode b_Z_valueAt 230 = .ok (.l2i, 1) := by decide +kernel
theorem d_Z_valueAt_231 : decode b_Z_valueAt 231 = .ok (.ireturn, 1) := by decide +kernel
theorem d_Z_takeWishes_0 : decode b_Z_takeWishes 0 = .ok (.iconst 1, 1) := by decide +kernel
theorem d_Z_takeWishes_1 : decode b_Z_takeWishes 1 = .ok (.istore_n 1, 1) := by decide +kernel
theorem d_Z_takeWishes_2 : decode b_Z_takeWishes 2 = .ok (.iload_n 1, 1) := by decide +kernel
theorem d_Z_takeWishes_3 : decode b_Z_takeWishes 3 = .ok (.bipush 6, 2) := by decide +kernel
theorem d_Z_takeWishes_5 : decode b_Z_takeWishes 5 = .ok (.if_icmp .ge 96, 3) := by decide +kernel
theorem d_Z_takeWishes_8 : decode b_Z_takeWishes 8 = .ok (.iconst (-1), 1) := by decide +kernel
theorem d_Z_takeWishes_9 : decode b_Z_takeWishes 9 = .ok (.istore_n 2, 1) := by decide +kernel
theorem d_Z_takeWishes_10 : decode b_Z_takeWishes 10 = .ok (.iconst 0, 1) := by decide +kernel
theorem d_Z_takeWishes_11 : decode b_Z_takeWishes 11 = .ok (.istore_n 3, 1) := by decide +kernel
theorem d_Z_takeWishes_12 : decode b_Z_takeWishes 12 = .ok (.iload_n 3, 1) := by decide +kernel
theorem d_Z_takeWishes_13 : decode b_Z_takeWishes 13 = .ok (.aload_n 0, 1) := by decide +kernel
theorem d_Z_takeWishes_14 : decode b_Z_takeWishes 14 = .ok (.getfield 50, 3) := by decide +kernel
theorem d_Z_takeWishes_17 : decode b_Z_takeWishes 17 = .ok (.if_icmp .ge 40, 3) := by decide +kernel
theorem d_Z_takeWishes_20 : decode b_Z_takeWishes 20 = .ok (.aload_n 0, 1) := by decide +kernel
theorem d_Z_takeWishes_21 : decode b_Z_takeWishes 21 = .ok (.getfield 17, 3) := by decide +kernel
theorem d_Z_takeWishes_24 : decode b_Z_takeWishes 24 = .ok (.iload_n 3, 1) := by decide +kernel
theorem d_Z_takeWishes_25 : decode b_Z_takeWishes 25 = .ok (.iaload, 1) := by decide +kernel
theorem d_Z_takeWishes_26 : decode b_Z_takeWishes 26 = .ok (.iload_n 1, 1) := by decide +kernel
theorem d_Z_takeWishes_27 : decode b_Z_takeWishes 27 = .ok (.if_icmp .ne 24, 3) := by decide +kernel
theorem d_Z_takeWishes_30 : decode b_Z_takeWishes 30 = .ok (.iload_n 2, 1) := by decide +kernel
theorem d_Z_takeWishes_31 : decode b_Z_takeWishes 31 = .ok (.ifCond .lt 13, 3) := by decide +kernel
theorem d_Z_takeWishes_34 : decode b_Z_takeWishes 34 = .ok (.aload_n 0, 1) := by decide +kernel
theorem d_Z_takeWishes_35 : decode b_Z_takeWishes 35 = .ok (.getfield 20, 3) := by decide +kernel
theorem d_Z_takeWishes_38 : decode b_Z_takeWishes 38 = .ok (.iload_n 3, 1) := by decide +kernel
theorem d_Z_takeWishes_39 : decode b_Z_takeWishes 39 = .ok (.iaload, 1) := by decide +kernel
theorem d_Z_takeWishes_40 : decode b_Z_takeWishes 40 = .ok (.iload_n 2, 1) := by decide +kernel
theorem d_Z_takeWishes_41 : decode b_Z_takeWishes 41 = .ok (.if_icmp .ge 10, 3) := by decide +kernel
theorem d_Z_takeWishes_44 : decode b_Z_takeWishes 44 = .ok (.aload_n 0, 1) := by decide +kernel
theorem d_Z_takeWishes_45 : decode b_Z_takeWishes 45 = .ok (.getfield 20, 3) := by decide +kernel
theorem d_Z_takeWishes_48 : decode b_Z_takeWishes 48 = .ok (.iload_n 3, 1) := by decide +kernel
theorem d_Z_takeWishes_49 : decode b_Z_takeWishes 49 = .ok (.iaload, 1) := by decide +kernel
theorem d_Z_takeWishes_50 : decode b_Z_takeWishes 50 = .ok (.istore_n 2, 1) := by decide +kernel
theorem d_Z_takeWishes_51 : decode b_Z_takeWishes 51 = .ok (.iinc 3 1, 3) := by decide +kernel
theorem d_Z_takeWishes_54 : decode b_Z_takeWishes 54 = .ok (.goto (-42), 3) := by decide +kernel
theorem d_Z_takeWishes_57 : decode b_Z_takeWishes 57 = .ok (.iload_n 2, 1) := by decide +kernel
theorem d_Z_takeWishes_58 : decode b_Z_takeWishes 58 = .ok (.ifCond .ge 6, 3) := by decide +kernel
theorem d_Z_takeWishes_61 : decode b_Z_takeWishes 61 = .ok (.goto 34, 3) := by decide +kernel
theorem d_Z_takeWishes_64 : decode b_Z_takeWishes 64 = .ok (.iload_n 1, 1) := by decide +kernel
theorem d_Z_takeWishes_65 : decode b_Z_takeWishes 65 = .ok (.iconst 2, 1) := by decide +kernel
theorem d_Z_takeWishes_66 : decode b_Z_takeWishes 66 = .ok (.irem, 1) := by decide +kernel
theorem d_Z_takeWishes_67 : decode b_Z_takeWishes 67 = .ok (.iconst 1, 1) := by decide +kernel
theorem d_Z_takeWishes_68 : decode b_Z_takeWishes 68 = .ok (.if_icmp .ne 14, 3) := by decide +kernel
theorem d_Z_takeWishes_71 : decode b_Z_takeWishes 71 = .ok (.aload_n 0, 1) := by decide +kernel
theorem d_Z_takeWishes_72 : decode b_Z_takeWishes 72 = .ok (.getfield 53, 3) := by decide +kernel
theorem d_Z_takeWishes_75 : decode b_Z_takeWishes 75 = .ok (.iload_n 2, 1) := by decide +kernel
theorem d_Z_takeWishes_76 : decode b_Z_takeWishes 76 = .ok (.if_icmp .ge 19, 3) := by decide +kernel
theorem d_Z_takeWishes_79 : decode b_Z_takeWishes 79 = .ok (.goto 11, 3) := by decide +kernel
theorem d_Z_takeWishes_82 : decode b_Z_takeWishes 82 = .ok (.aload_n 0, 1) := by decide +kernel
theorem d_Z_takeWishes_83 : decode b_Z_takeWishes 83 = .ok (.getfield 53, 3) := by decide +kernel
theorem d_Z_takeWishes_86 : decode b_Z_takeWishes 86 = .ok (.iload_n 2, 1) := by decide +kernel
theorem d_Z_takeWishes_87 : decode b_Z_takeWishes 87 = .ok (.if_icmp .le 8, 3) := by decide +kernel
theorem d_Z_takeWishes_90 : decode b_Z_takeWishes 90 = .ok (.aload_n 0, 1) := by decide +kernel
theorem d_Z_takeWishes_91 : decode b_Z_takeWishes 91 = .ok (.iload_n 2, 1) := by decide +kernel
theorem d_Z_takeWishes_92 : decode b_Z_takeWishes 92 = .ok (.putfield 53, 3) := by decide +kernel
theorem d_Z_takeWishes_95 : decode b_Z_takeWishes 95 = .ok (.iinc 1 1, 3) := by decide +kernel
theorem d_Z_takeWishes_98 : decode b_Z_takeWishes 98 = .ok (.goto (-96), 3) := by decide +kernel
theorem d_Z_takeWishes_101 : decode b_Z_takeWishes 101 = .ok (.return_, 1) := by decide +kernel
theorem d_Z_idles_0 : decode b_Z_idles 0 = .ok (.aload_n 0, 1) := by decide +kernel
theorem d_Z_idles_1 : decode b_Z_idles 1 = .ok (.getfield 23, 3) := by decide +kernel
theorem d_Z_idles_4 : decode b_Z_idles 4 = .ok (.aload_n 0, 1) := by decide +kernel
theorem d_Z_idles_5 : decode b_Z_idles 5 = .ok (.getfield 56, 3) := by decide +kernel
theorem d_Z_idles_8 : decode b_Z_idles 8 = .ok (.isub, 1) := by decide +kernel
theorem d_Z_idles_9 : decode b_Z_idles 9 = .ok (.i2l, 1) := by decide +kernel
theorem d_Z_idles_10 : decode b_Z_idles 10 = .ok (.lstore_n 1, 1) := by decide +kernel
theorem d_Z_idles_11 : decode b_Z_idles 11 = .ok (.ldc2_w 59, 3) := by decide +kernel
theorem d_Z_idles_14 : decode b_Z_idles 14 = .ok (.lload_n 1, 1) := by decide +kernel
theorem d_Z_idles_15 : decode b_Z_idles 15 = .ok (.lmul, 1) := by decide +kernel
theorem d_Z_idles_16 : decode b_Z_idles 16 = .ok (.aload_n 0, 1) := by decide +kernel
theorem d_Z_idles_17 : decode b_Z_idles 17 = .ok (.getfield 61, 3) := by decide +kernel
theorem d_Z_idles_20 : decode b_Z_idles 20 = .ok (.ladd, 1) := by decide +kernel
theorem d_Z_idles_21 : decode b_Z_idles 21 = .ok (.ldc2_w 65, 3) := by decide +kernel
theorem d_Z_idles_24 : decode b_Z_idles 24 = .ok (.invokestatic 67, 3) := by decide +kernel
theorem d_Z_idles_27 : decode b_Z_idles 27 = .ok (.lstore_n 3, 1) := by decide +kernel
theorem d_Z_idles_28 : decode b_Z_idles 28 = .ok (.lload_n 3, 1) := by decide +kernel
theorem d_Z_idles_29 : decode b_Z_idles 29 = .ok (.ldc2_w 71, 3) := by decide +kernel
theorem d_Z_idles_32 : decode b_Z_idles 32 = .ok (.lcmp, 1) := by decide +kernel
theorem d_Z_idles_33 : decode b_Z_idles 33 = .ok (.ifCond .le 9, 3) := by decide +kernel
theorem d_Z_idles_36 : decode b_Z_idles 36 = .ok (.lload_n 1, 1) := by decide +kernel
theorem d_Z_idles_37 : decode b_Z_idles 37 = .ok (.lconst 0, 1) := by decide +kernel
theorem d_Z_idles_38 : decode b_Z_idles 38 = .ok (.lcmp, 1) := by decide +kernel
theorem d_Z_idles_39 : decode b_Z_idles 39 = .ok (.ifCond .gt 25, 3) := by decide +kernel
theorem d_Z_idles_42 : decode b_Z_idles 42 = .ok (.lload_n 3, 1) := by decide +kernel
theorem d_Z_idles_43 : decode b_Z_idles 43 = .ok (.lconst 0, 1) := by decide +kernel
theorem d_Z_idles_44 : decode b_Z_idles 44 = .ok (.lcmp, 1) := by decide +kernel
theorem d_Z_idles_45 : decode b_Z_idles 45 = .ok (.ifCond .ge 9, 3) := by decide +kernel
theorem d_Z_idles_48 : decode b_Z_idles 48 = .ok (.lload_n 1, 1) := by decide +kernel
theorem d_Z_idles_49 : decode b_Z_idles 49 = .ok (.lconst 0, 1) := by decide +kernel
theorem d_Z_idles_50 : decode b_Z_idles 50 = .ok (.lcmp, 1) := by decide +kernel
theorem d_Z_idles_51 : decode b_Z_idles 51 = .ok (.ifCond .lt 13, 3) := by decide +kernel
theorem d_Z_idles_54 : decode b_Z_idles 54 = .ok (.aload_n 0, 1) := by decide +kernel
theorem d_Z_idles_55 : decode b_Z_idles 55 = .ok (.dup, 1) := by decide +kernel
theorem d_Z_idles_56 : decode b_Z_idles 56 = .ok (.getfield 61, 3) := by decide +kernel
theorem d_Z_idles_59 : decode b_Z_idles 59 = .ok (.lload_n 1, 1) := by decide +kernel
theorem d_Z_idles_60 : decode b_Z_idles 60 = .ok (.ladd, 1) := by decide +kernel
theorem d_Z_idles_61 : decode b_Z_idles 61 = .ok (.putfield 61, 3) := by decide +kernel
theorem d_Z_idles_64 : decode b_Z_idles 64 = .ok (.lload_n 3, 1) := by decide +kernel
theorem d_Z_idles_65 : decode b_Z_idles 65 = .ok (.lconst 0, 1) := by decide +kernel
theorem d_Z_idles_66 : decode b_Z_idles 66 = .ok (.lcmp, 1) := by decide +kernel
theorem d_Z_idles_67 : decode b_Z_idles 67 = .ok (.ifCond .ge 7, 3) := by decide +kernel
theorem d_Z_idles_70 : decode b_Z_idles 70 = .ok (.iconst 0, 1) := by decide +kernel
theorem d_Z_idles_71 : decode b_Z_idles 71 = .ok (.goto 19, 3) := by decide +kernel
theorem d_Z_idles_74 : decode b_Z_idles 74 = .ok (.lload_n 3, 1) := by decide +kernel
theorem d_Z_idles_75 : decode b_Z_idles 75 = .ok (.ldc2_w 71, 3) := by decide +kernel
theorem d_Z_idles_78 : decode b_Z_idles 78 = .ok (.lcmp, 1) := by decide +kernel
theorem d_Z_idles_79 : decode b_Z_idles 79 = .ok (.ifCond .le 9, 3) := by decide +kernel
theorem d_Z_idles_82 : decode b_Z_idles 82 = .ok (.sipush 200, 3) := by decide +kernel
theorem d_Z_idles_85 : decode b_Z_idles 85 = .ok (.goto 5, 3) := by decide +kernel
theorem d_Z_idles_88 : decode b_Z_idles 88 = .ok (.lload_n 3, 1) := by decide +kernel
theorem d_Z_idles_89 : decode b_Z_idles 89 = .ok (.l2i, 1) := by decide +kernel
theorem d_Z_idles_90 : decode b_Z_idles 90 = .ok (.istore 5, 2) := by decide +kernel
theorem d_Z_idles_92 : decode b_Z_idles 92 = .ok (.aload_n 0, 1) := by decide +kernel
theorem d_Z_idles_93 : decode b_Z_idles 93 = .ok (.aload_n 0, 1) := by decide +kernel
theorem d_Z_idles_94 : decode b_Z_idles 94 = .ok (.getfield 53, 3) := by decide +kernel
theorem d_Z_idles_97 : decode b_Z_idles 97 = .ok (.iload 5, 2) := by decide +kernel
theorem d_Z_idles_99 : decode b_Z_idles 99 = .ok (.if_icmp .ge 8, 3) := by decide +kernel
theorem d_Z_idles_102 : decode b_Z_idles 102 = .ok (.iload 5, 2) := by decide +kernel
theorem d_Z_idles_104 : decode b_Z_idles 104 = .ok (.goto 7, 3) := by decide +kernel
theorem d_Z_idles_107 : decode b_Z_idles 107 = .ok (.aload_n 0, 1) := by decide +kernel
theorem d_Z_idles_108 : decode b_Z_idles 108 = .ok (.getfield 53, 3) := by decide +kernel
theorem d_Z_idles_111 : decode b_Z_idles 111 = .ok (.putfield 53, 3) := by decide +kernel
theorem d_Z_idles_114 : decode b_Z_idles 114 = .ok (.return_, 1) := by decide +kernel
theorem d_Z_thrown_0 : decode b_Z_thrown 0 = .ok (.aload_n 0, 1) := by decide +kernel
theorem d_Z_thrown_1 : decode b_Z_thrown 1 = .ok (.getfield 33, 3) := by decide +kernel
theorem d_Z_thrown_4 : decode b_Z_thrown 4 = .ok (.ireturn, 1) := by decide +kernel
theorem d_Z_table_0 : decode b_Z_table 0 = .ok (.aload_n 0, 1) := by decide +kernel
theorem d_Z_table_1 : decode b_Z_table 1 = .ok (.iconst 0, 1) := by decide +kernel
theorem d_Z_table_2 : decode b_Z_table 2 = .ok (.putfield 33, 3) := by decide +kernel
theorem d_Z_table_5 : decode b_Z_table 5 = .ok (.iload_n 1, 1) := by decide +kernel
theorem d_Z_table_6 : decode b_Z_table 6 = .ok (.ifCond .lt 8, 3) := by decide +kernel
theorem d_Z_table_9 : decode b_Z_table 9 = .ok (.iload_n 1, 1) := by decide +kernel
theorem d_Z_table_10 : decode b_Z_table 10 = .ok (.iconst 4, 1) := by decide +kernel
theorem d_Z_table_11 : decode b_Z_table 11 = .ok (.if_icmp .le 5, 3) := by decide +kernel
theorem d_Z_table_14 : decode b_Z_table 14 = .ok (.iconst (-1), 1) := by decide +kernel
theorem d_Z_table_15 : decode b_Z_table 15 = .ok (.ireturn, 1) := by decide +kernel
theorem d_Z_table_16 : decode b_Z_table 16 = .ok (.iload_n 2, 1) := by decide +kernel
theorem d_Z_table_17 : decode b_Z_table 17 = .ok (.ifCond .lt 35, 3) := by decide +kernel
theorem d_Z_table_20 : decode b_Z_table 20 = .ok (.iload_n 2, 1) := by decide +kernel
theorem d_Z_table_21 : decode b_Z_table 21 = .ok (.bipush 7, 2) := by decide +kernel
theorem d_Z_table_23 : decode b_Z_table 23 = .ok (.if_icmp .gt 29, 3) := by decide +kernel
theorem d_Z_table_26 : decode b_Z_table 26 = .ok (.iload_n 3, 1) := by decide +kernel
theorem d_Z_table_27 : decode b_Z_table 27 = .ok (.ifCond .lt 25, 3) := by decide +kernel
theorem d_Z_table_30 : decode b_Z_table 30 = .ok (.iload_n 3, 1) := by decide +kernel
theorem d_Z_table_31 : decode b_Z_table 31 = .ok (.bipush 7, 2) := by decide +kernel
theorem d_Z_table_33 : decode b_Z_table 33 = .ok (.if_icmp .gt 19, 3) := by decide +kernel
theorem d_Z_table_36 : decode b_Z_table 36 = .ok (.lload 4, 2) := by decide +kernel
theorem d_Z_table_38 : decode b_Z_table 38 = .ok (.lconst 0, 1) := by decide +kernel
theorem d_Z_table_39 : decode b_Z_table 39 = .ok (.lcmp, 1) := by decide +kernel
theorem d_Z_table_40 : decode b_Z_table 40 = .ok (.ifCond .lt 12, 3) := by decide +kernel
theorem d_Z_table_43 : decode b_Z_table 43 = .ok (.lload 4, 2) := by decide +kernel
theorem d_Z_table_45 : decode b_Z_table 45 = .ok (.ldc2_w 46, 3) := by decide +kernel
theorem d_Z_table_48 : decode b_Z_table 48 = .ok (.lcmp, 1) := by decide +kernel
theorem d_Z_table_49 : decode b_Z_table 49 = .ok (.ifCond .le 6, 3) := by decide +kernel
theorem d_Z_table_52 : decode b_Z_table 52 = .ok (.bipush (-2), 2) := by decide +kernel
theorem d_Z_table_54 : decode b_Z_table 54 = .ok (.ireturn, 1) := by decide +kernel
theorem d_Z_table_55 : decode b_Z_table 55 = .ok (.aload_n 0, 1) := by decide +kernel
theorem d_Z_table_56 : decode b_Z_table 56 = .ok (.iload_n 1, 1) := by decide +kernel
theorem d_Z_table_57 : decode b_Z_table 57 = .ok (.iload_n 2, 1) := by decide +kernel
theorem d_Z_table_58 : decode b_Z_table 58 = .ok (.iload_n 3, 1) := by decide +kernel
theorem d_Z_table_59 : decode b_Z_table 59 = .ok (.invokevirtual 40, 3) := by decide +kernel
theorem d_Z_table_62 : decode b_Z_table 62 = .ok (.istore 6, 2) := by decide +kernel
theorem d_Z_table_64 : decode b_Z_table 64 = .ok (.aload_n 0, 1) := by decide +kernel
theorem d_Z_table_65 : decode b_Z_table 65 = .ok (.getfield 7, 3) := by decide +kernel
theorem d_Z_table_68 : decode b_Z_table 68 = .ok (.bipush 64, 2) := by decide +kernel
theorem d_Z_table_70 : decode b_Z_table 70 = .ok (.iload_n 1, 1) := by decide +kernel
theorem d_Z_table_71 : decode b_Z_table 71 = .ok (.imul, 1) := by decide +kernel
theorem d_Z_table_72 : decode b_Z_table 72 = .ok (.bipush 8, 2) := by decide +kernel
theorem d_Z_table_74 : decode b_Z_table 74 = .ok (.iload_n 2, 1) := by decide +kernel
theorem d_Z_table_75 : decode b_Z_table 75 = .ok (.imul, 1) := by decide +kernel
theorem d_Z_table_76 : decode b_Z_table 76 = .ok (.iadd, 1) := by decide +kernel
theorem d_Z_table_77 : decode b_Z_table 77 = .ok (.iload_n 3, 1) := by decide +kernel
theorem d_Z_table_78 : decode b_Z_table 78 = .ok (.iadd, 1) := by decide +kernel
theorem d_Z_table_79 : decode b_Z_table 79 = .ok (.lload 4, 2) := by decide +kernel
theorem d_Z_table_81 : decode b_Z_table 81 = .ok (.l2i, 1) := by decide +kernel
theorem d_Z_table_82 : decode b_Z_table 82 = .ok (.iastore, 1) := by decide +kernel
theorem d_Z_table_83 : decode b_Z_table 83 = .ok (.iload 6, 2) := by decide +kernel
theorem d_Z_table_85 : decode b_Z_table 85 = .ok (.ireturn, 1) := by decide +kernel
theorem d_Z_step_0 : decode b_Z_step 0 = .ok (.aload_n 0, 1) := by decide +kernel
theorem d_Z_step_1 : decode b_Z_step 1 = .ok (.iconst 0, 1) := by decide +kernel
theorem d_Z_step_2 : decode b_Z_step 2 = .ok (.putfield 33, 3) := by decide +kernel
theorem d_Z_step_5 : decode b_Z_step 5 = .ok (.lload_n 1, 1) := by decide +kernel
theorem d_Z_step_6 : decode b_Z_step 6 = .ok (.lconst 0, 1) := by decide +kernel
theorem d_Z_step_7 : decode b_Z_step 7 = .ok (.lcmp, 1) := by decide +kernel
theorem d_Z_step_8 : decode b_Z_step 8 = .ok (.ifCond .lt 41, 3) := by decide +kernel
theorem d_Z_step_11 : decode b_Z_step 11 = .ok (.lload_n 1, 1) := by decide +kernel
theorem d_Z_step_12 : decode b_Z_step 12 = .ok (.ldc2_w 46, 3) := by decide +kernel
theorem d_Z_step_15 : decode b_Z_step 15 = .ok (.lcmp, 1) := by decide +kernel
theorem d_Z_step_16 : decode b_Z_step 16 = .ok (.ifCond .gt 33, 3) := by decide +kernel
theorem d_Z_step_19 : decode b_Z_step 19 = .ok (.lload_n 3, 1) := by decide +kernel
theorem d_Z_step_20 : decode b_Z_step 20 = .ok (.lconst 0, 1) := by decide +kernel
theorem d_Z_step_21 : decode b_Z_step 21 = .ok (.lcmp, 1) := by decide +kernel
theorem d_Z_step_22 : decode b_Z_step 22 = .ok (.ifCond .lt 27, 3) := by decide +kernel
theorem d_Z_step_25 : decode b_Z_step 25 = .ok (.lload_n 3, 1) := by decide +kernel
theorem d_Z_step_26 : decode b_Z_step 26 = .ok (.ldc2_w 46, 3) := by decide +kernel
theorem d_Z_step_29 : decode b_Z_step 29 = .ok (.lcmp, 1) := by decide +kernel
theorem d_Z_step_30 : decode b_Z_step 30 = .ok (.ifCond .gt 19, 3) := by decide +kernel
theorem d_Z_step_33 : decode b_Z_step 33 = .ok (.lload 5, 2) := by decide +kernel
theorem d_Z_step_35 : decode b_Z_step 35 = .ok (.lconst 0, 1) := by decide +kernel
theorem d_Z_step_36 : decode b_Z_step 36 = .ok (.lcmp, 1) := by decide +kernel
theorem d_Z_step_37 : decode b_Z_step 37 = .ok (.ifCond .lt 12, 3) := by decide +kernel
theorem d_Z_step_40 : decode b_Z_step 40 = .ok (.lload 5, 2) := by decide +kernel
theorem d_Z_step_42 : decode b_Z_step 42 = .ok (.ldc2_w 73, 3) := by decide +kernel
theorem d_Z_step_45 : decode b_Z_step 45 = .ok (.lcmp, 1) := by decide +kernel
theorem d_Z_step_46 : decode b_Z_step 46 = .ok (.ifCond .le 6, 3) := by decide +kernel
theorem d_Z_step_49 : decode b_Z_step 49 = .ok (.bipush (-2), 2) := by decide +kernel
theorem d_Z_step_51 : decode b_Z_step 51 = .ok (.ireturn, 1) := by decide +kernel
theorem d_Z_step_52 : decode b_Z_step 52 = .ok (.aload_n 0, 1) := by decide +kernel
theorem d_Z_step_53 : decode b_Z_step 53 = .ok (.aload_n 0, 1) := by decide +kernel
theorem d_Z_step_54 : decode b_Z_step 54 = .ok (.getfield 13, 3) := by decide +kernel
theorem d_Z_step_57 : decode b_Z_step 57 = .ok (.iconst 2, 1) := by decide +kernel
theorem d_Z_step_58 : decode b_Z_step 58 = .ok (.baload, 1) := by decide +kernel
theorem d_Z_step_59 : decode b_Z_step 59 = .ok (.ifCond .eq 10, 3) := by decide +kernel
theorem d_Z_step_62 : decode b_Z_step 62 = .ok (.aload_n 0, 1) := by decide +kernel
theorem d_Z_step_63 : decode b_Z_step 63 = .ok (.getfield 56, 3) := by decide +kernel
theorem d_Z_step_66 : decode b_Z_step 66 = .ok (.goto 6, 3) := by decide +kernel
theorem d_Z_step_69 : decode b_Z_step 69 = .ok (.lload 5, 2) := by decide +kernel
theorem d_Z_step_71 : decode b_Z_step 71 = .ok (.l2i, 1) := by decide +kernel
theorem d_Z_step_72 : decode b_Z_step 72 = .ok (.putfield 56, 3) := by decide +kernel
theorem d_Z_step_75 : decode b_Z_step 75 = .ok (.aload_n 0, 1) := by decide +kernel
theorem d_Z_step_76 : decode b_Z_step 76 = .ok (.getfield 13, 3) := by decide +kernel
theorem d_Z_step_79 : decode b_Z_step 79 = .ok (.iconst 0, 1) := by decide +kernel
theorem d_Z_step_80 : decode b_Z_step 80 = .ok (.baload, 1) := by decide +kernel
theorem d_Z_step_81 : decode b_Z_step 81 = .ok (.ifCond .eq 7, 3) := by decide +kernel
theorem d_Z_step_84 : decode b_Z_step 84 = .ok (.lload_n 3, 1) := by decide +kernel
theorem d_Z_step_85 : decode b_Z_step 85 = .ok (.goto 4, 3) := by decide +kernel
theorem d_Z_step_88 : decode b_Z_step 88 = .ok (.lload_n 1, 1) := by decide +kernel
theorem d_Z_step_89 : decode b_Z_step 89 = .ok (.l2i, 1) := by decide +kernel
theorem d_Z_step_90 : decode b_Z_step 90 = .ok (.istore 7, 2) := by decide +kernel
theorem d_Z_step_92 : decode b_Z_step 92 = .ok (.aload_n 0, 1) := by decide +kernel
theorem d_Z_step_93 : decode b_Z_step 93 = .ok (.getfield 13, 3) := by decide +kernel
theorem d_Z_step_96 : decode b_Z_step 96 = .ok (.iconst 1, 1) := by decide +kernel
theorem d_Z_step_97 : decode b_Z_step 97 = .ok (.baload, 1) := by decide +kernel
theorem d_Z_step_98 : decode b_Z_step 98 = .ok (.ifCond .eq 7, 3) := by decide +kernel
theorem d_Z_step_101 : decode b_Z_step 101 = .ok (.lload_n 1, 1) := by decide +kernel
theorem d_Z_step_102 : decode b_Z_step 102 = .ok (.goto 4, 3) := by decide +kernel
theorem d_Z_step_105 : decode b_Z_step 105 = .ok (.lload_n 3, 1) := by decide +kernel
theorem d_Z_step_106 : decode b_Z_step 106 = .ok (.l2i, 1) := by decide +kernel
theorem d_Z_step_107 : decode b_Z_step 107 = .ok (.istore 8, 2) := by decide +kernel
theorem d_Z_step_109 : decode b_Z_step 109 = .ok (.aload_n 0, 1) := by decide +kernel
theorem d_Z_step_110 : decode b_Z_step 110 = .ok (.getfield 13, 3) := by decide +kernel
theorem d_Z_step_113 : decode b_Z_step 113 = .ok (.iconst 0, 1) := by decide +kernel
theorem d_Z_step_114 : decode b_Z_step 114 = .ok (.baload, 1) := by decide +kernel
theorem d_Z_step_115 : decode b_Z_step 115 = .ok (.ifCond .ne 36, 3) := by decide +kernel
theorem d_Z_step_118 : decode b_Z_step 118 = .ok (.aload_n 0, 1) := by decide +kernel
theorem d_Z_step_119 : decode b_Z_step 119 = .ok (.getfield 13, 3) := by decide +kernel
theorem d_Z_step_122 : decode b_Z_step 122 = .ok (.iconst 1, 1) := by decide +kernel
theorem d_Z_step_123 : decode b_Z_step 123 = .ok (.baload, 1) := by decide +kernel
theorem d_Z_step_124 : decode b_Z_step 124 = .ok (.ifCond .ne 27, 3) := by decide +kernel
theorem d_Z_step_127 : decode b_Z_step 127 = .ok (.iload 7, 2) := by decide +kernel
theorem d_Z_step_129 : decode b_Z_step 129 = .ok (.iload 8, 2) := by decide +kernel
theorem d_Z_step_131 : decode b_Z_step 131 = .ok (.isub, 1) := by decide +kernel
theorem d_Z_step_132 : decode b_Z_step 132 = .ok (.bipush 50, 2) := by decide +kernel
theorem d_Z_step_134 : decode b_Z_step 134 = .ok (.if_icmp .gt 13, 3) := by decide +kernel
theorem d_Z_step_137 : decode b_Z_step 137 = .ok (.iload 8, 2) := by decide +kernel
theorem d_Z_step_139 : decode b_Z_step 139 = .ok (.iload 7, 2) := by decide +kernel
theorem d_Z_step_141 : decode b_Z_step 141 = .ok (.isub, 1) := by decide +kernel
theorem d_Z_step_142 : decode b_Z_step 142 = .ok (.bipush 50, 2) := by decide +kernel
theorem d_Z_step_144 : decode b_Z_step 144 = .ok (.if_icmp .le 7, 3) := by decide +kernel
theorem d_Z_step_147 : decode b_Z_step 147 = .ok (.iconst 1, 1) := by decide +kernel
theorem d_Z_step_148 : decode b_Z_step 148 = .ok (.goto 4, 3) := by decide +kernel
theorem d_Z_step_151 : decode b_Z_step 151 = .ok (.iconst 0, 1) := by decide +kernel
theorem d_Z_step_152 : decode b_Z_step 152 = .ok (.istore 9, 2) := by decide +kernel
theorem d_Z_step_154 : decode b_Z_step 154 = .ok (.aload_n 0, 1) := by decide +kernel
theorem d_Z_step_155 : decode b_Z_step 155 = .ok (.iload 9, 2) := by decide +kernel
theorem d_Z_step_157 : decode b_Z_step 157 = .ok (.ifCond .eq 12, 3) := by decide +kernel
theorem d_Z_step_160 : decode b_Z_step 160 = .ok (.aload_n 0, 1) := by decide +kernel
theorem d_Z_step_161 : decode b_Z_step 161 = .ok (.getfield 75, 3) := by decide +kernel
theorem d_Z_step_164 : decode b_Z_step 164 = .ok (.iconst 1, 1) := by decide +kernel
theorem d_Z_step_165 : decode b_Z_step 165 = .ok (.iadd, 1) := by decide +kernel
theorem d_Z_step_166 : decode b_Z_step 166 = .ok (.goto 4, 3) := by decide +kernel
theorem d_Z_step_169 : decode b_Z_step 169 = .ok (.iconst 0, 1) := by decide +kernel
theorem d_Z_step_170 : decode b_Z_step 170 = .ok (.putfield 75, 3) := by decide +kernel
theorem d_Z_step_173 : decode b_Z_step 173 = .ok (.aload_n 0, 1) := by decide +kernel
theorem d_Z_step_174 : decode b_Z_step 174 = .ok (.aload_n 0, 1) := by decide +kernel
theorem d_Z_step_175 : decode b_Z_step 175 = .ok (.getfield 78, 3) := by decide +kernel
theorem d_Z_step_178 : decode b_Z_step 178 = .ok (.ifCond .ne 11, 3) := by decide +kernel
theorem d_Z_step_181 : decode b_Z_step 181 = .ok (.aload_n 0, 1) := by decide +kernel
theorem d_Z_step_182 : decode b_Z_step 182 = .ok (.getfield 75, 3) := by decide +kernel
theorem d_Z_step_185 : decode b_Z_step 185 = .ok (.iconst 5, 1) := by decide +kernel
theorem d_Z_step_186 : decode b_Z_step 186 = .ok (.if_icmp .ne 7, 3) := by decide +kernel
theorem d_Z_step_189 : decode b_Z_step 189 = .ok (.iconst 1, 1) := by decide +kernel
theorem d_Z_step_190 : decode b_Z_step 190 = .ok (.goto 4, 3) := by decide +kernel
theorem d_Z_step_193 : decode b_Z_step 193 = .ok (.iconst 0, 1) := by decide +kernel
theorem d_Z_step_194 : decode b_Z_step 194 = .ok (.putfield 78, 3) := by decide +kernel
theorem d_Z_step_197 : decode b_Z_step 197 = .ok (.aload_n 0, 1) := by decide +kernel
theorem d_Z_step_198 : decode b_Z_step 198 = .ok (.iload 7, 2) := by decide +kernel
theorem d_Z_step_200 : decode b_Z_step 200 = .ok (.iload 8, 2) := by decide +kernel
theorem d_Z_step_202 : decode b_Z_step 202 = .ok (.if_icmp .ge 8, 3) := by decide +kernel
theorem d_Z_step_205 : decode b_Z_step 205 = .ok (.iload 7, 2) := by decide +kernel
theorem d_Z_step_207 : decode b_Z_step 207 = .ok (.goto 5, 3) := by decide +kernel
theorem d_Z_step_210 : decode b_Z_step 210 = .ok (.iload 8, 2) := by decide +kernel
theorem d_Z_step_212 : decode b_Z_step 212 = .ok (.putfield 82, 3) := by decide +kernel
theorem d_Z_step_215 : decode b_Z_step 215 = .ok (.aload_n 0, 1) := by decide +kernel
theorem d_Z_step_216 : decode b_Z_step 216 = .ok (.getfield 13, 3) := by decide +kernel
theorem d_Z_step_219 : decode b_Z_step 219 = .ok (.iconst 0, 1) := by decide +kernel
theorem d_Z_step_220 : decode b_Z_step 220 = .ok (.baload, 1) := by decide +kernel
theorem d_Z_step_221 : decode b_Z_step 221 = .ok (.ifCond .eq 16, 3) := by decide +kernel
theorem d_Z_step_224 : decode b_Z_step 224 = .ok (.aload_n 0, 1) := by decide +kernel
theorem d_Z_step_225 : decode b_Z_step 225 = .ok (.getfield 13, 3) := by decide +kernel
theorem d_Z_step_228 : decode b_Z_step 228 = .ok (.iconst 1, 1) := by decide +kernel
theorem d_Z_step_229 : decode b_Z_step 229 = .ok (.baload, 1) := by decide +kernel
theorem d_Z_step_230 : decode b_Z_step 230 = .ok (.ifCond .eq 7, 3) := by decide +kernel
theorem d_Z_step_233 : decode b_Z_step 233 = .ok (.iconst 1, 1) := by decide +kernel
theorem d_Z_step_234 : decode b_Z_step 234 = .ok (.goto 4, 3) := by decide +kernel
theorem d_Z_step_237 : decode b_Z_step 237 = .ok (.iconst 0, 1) := by decide +kernel
theorem d_Z_step_238 : decode b_Z_step 238 = .ok (.istore 10, 2) := by decide +kernel
theorem d_Z_step_240 : decode b_Z_step 240 = .ok (.aload_n 0, 1) := by decide +kernel
theorem d_Z_step_241 : decode b_Z_step 241 = .ok (.getfield 85, 3) := by decide +kernel
theorem d_Z_step_244 : decode b_Z_step 244 = .ok (.ifCond .ne 30, 3) := by decide +kernel
theorem d_Z_step_247 : decode b_Z_step 247 = .ok (.aload_n 0, 1) := by decide +kernel
theorem d_Z_step_248 : decode b_Z_step 248 = .ok (.getfield 13, 3) := by decide +kernel
theorem d_Z_step_251 : decode b_Z_step 251 = .ok (.iconst 0, 1) := by decide +kernel
theorem d_Z_step_252 : decode b_Z_step 252 = .ok (.baload, 1) := by decide +kernel
theorem d_Z_step_253 : decode b_Z_step 253 = .ok (.ifCond .ne 21, 3) := by decide +kernel
theorem d_Z_step_256 : decode b_Z_step 256 = .ok (.aload_n 0, 1) := by decide +kernel
theorem d_Z_step_257 : decode b_Z_step 257 = .ok (.getfield 13, 3) := by decide +kernel
theorem d_Z_step_260 : decode b_Z_step 260 = .ok (.iconst 1, 1) := by decide +kernel
theorem d_Z_step_261 : decode b_Z_step 261 = .ok (.baload, 1) := by decide +kernel
theorem d_Z_step_262 : decode b_Z_step 262 = .ok (.ifCond .ne 12, 3) := by decide +kernel
theorem d_Z_step_265 : decode b_Z_step 265 = .ok (.aload_n 0, 1) := by decide +kernel
theorem d_Z_step_266 : decode b_Z_step 266 = .ok (.getfield 13, 3) := by decide +kernel
theorem d_Z_step_269 : decode b_Z_step 269 = .ok (.iconst 2, 1) := by decide +kernel
theorem d_Z_step_270 : decode b_Z_step 270 = .ok (.baload, 1) := by decide +kernel
theorem d_Z_step_271 : decode b_Z_step 271 = .ok (.ifCond .eq 7, 3) := by decide +kernel
theorem d_Z_step_274 : decode b_Z_step 274 = .ok (.iconst 1, 1) := by decide +kernel
theorem d_Z_step_275 : decode b_Z_step 275 = .ok (.goto 4, 3) := by decide +kernel
theorem d_Z_step_278 : decode b_Z_step 278 = .ok (.iconst 0, 1) := by decide +kernel
theorem d_Z_step_279 : decode b_Z_step 279 = .ok (.istore 11, 2) := by decide +kernel
theorem d_Z_step_281 : decode b_Z_step 281 = .ok (.aload_n 0, 1) := by decide +kernel
theorem d_Z_step_282 : decode b_Z_step 282 = .ok (.aload_n 0, 1) := by decide +kernel
theorem d_Z_step_283 : decode b_Z_step 283 = .ok (.getfield 78, 3) := by decide +kernel
theorem d_Z_step_286 : decode b_Z_step 286 = .ok (.ifCond .ne 8, 3) := by decide +kernel
theorem d_Z_step_289 : decode b_Z_step 289 = .ok (.iload 10, 2) := by decide +kernel
theorem d_Z_step_291 : decode b_Z_step 291 = .ok (.ifCond .eq 7, 3) := by decide +kernel
theorem d_Z_step_294 : decode b_Z_step 294 = .ok (.iconst 4, 1) := by decide +kernel
theorem d_Z_step_295 : decode b_Z_step 295 = .ok (.goto 35, 3) := by decide +kernel
theorem d_Z_step_298 : decode b_Z_step 298 = .ok (.aload_n 0, 1) := by decide +kernel
theorem d_Z_step_299 : decode b_Z_step 299 = .ok (.getfield 56, 3) := by decide +kernel
theorem d_Z_step_302 : decode b_Z_step 302 = .ok (.ifCond .ne 7, 3) := by decide +kernel
theorem d_Z_step_305 : decode b_Z_step 305 = .ok (.iconst 3, 1) := by decide +kernel
theorem d_Z_step_306 : decode b_Z_step 306 = .ok (.goto 24, 3) := by decide +kernel
theorem d_Z_step_309 : decode b_Z_step 309 = .ok (.iload 11, 2) := by decide +kernel
theorem d_Z_step_311 : decode b_Z_step 311 = .ok (.ifCond .eq 7, 3) := by decide +kernel
theorem d_Z_step_314 : decode b_Z_step 314 = .ok (.iconst 2, 1) := by decide +kernel
theorem d_Z_step_315 : decode b_Z_step 315 = .ok (.goto 15, 3) := by decide +kernel
theorem d_Z_step_318 : decode b_Z_step 318 = .ok (.aload_n 0, 1) := by decide +kernel
theorem d_Z_step_319 : decode b_Z_step 319 = .ok (.getfield 75, 3) := by decide +kernel
theorem d_Z_step_322 : decode b_Z_step 322 = .ok (.ifCond .le 7, 3) := by decide +kernel
theorem d_Z_step_325 : decode b_Z_step 325 = .ok (.iconst 1, 1) := by decide +kernel
theorem d_Z_step_326 : decode b_Z_step 326 = .ok (.goto 4, 3) := by decide +kernel
theorem d_Z_step_329 : decode b_Z_step 329 = .ok (.iconst 0, 1) := by decide +kernel
theorem d_Z_step_330 : decode b_Z_step 330 = .ok (.putfield 88, 3) := by decide +kernel
theorem d_Z_step_333 : decode b_Z_step 333 = .ok (.aload_n 0, 1) := by decide +kernel
theorem d_Z_step_334 : decode b_Z_step 334 = .ok (.aload_n 0, 1) := by decide +kernel
theorem d_Z_step_335 : decode b_Z_step 335 = .ok (.getfield 88, 3) := by decide +kernel
theorem d_Z_step_338 : decode b_Z_step 338 = .ok (.iconst 4, 1) := by decide +kernel
theorem d_Z_step_339 : decode b_Z_step 339 = .ok (.if_icmp .ne 7, 3) := by decide +kernel
theorem d_Z_step_342 : decode b_Z_step 342 = .ok (.iconst 0, 1) := by decide +kernel
theorem d_Z_step_343 : decode b_Z_step 343 = .ok (.goto 7, 3) := by decide +kernel
theorem d_Z_step_346 : decode b_Z_step 346 = .ok (.aload_n 0, 1) := by decide +kernel
theorem d_Z_step_347 : decode b_Z_step 347 = .ok (.getfield 82, 3) := by decide +kernel
theorem d_Z_step_350 : decode b_Z_step 350 = .ok (.putfield 82, 3) := by decide +kernel
theorem d_Z_step_353 : decode b_Z_step 353 = .ok (.aload_n 0, 1) := by decide +kernel
theorem d_Z_step_354 : decode b_Z_step 354 = .ok (.getfield 88, 3) := by decide +kernel
theorem d_Z_step_357 : decode b_Z_step 357 = .ok (.iconst 3, 1) := by decide +kernel
end
section
theorem d_Z_step_358 : decode b_Z_step 358 = .ok (.if_icmp .ge 7, 3) := by decide +kernel
theorem d_Z_step_361 : decode b_Z_step 361 = .ok (.iconst 1, 1) := by decide +kernel
theorem d_Z_step_362 : decode b_Z_step 362 = .ok (.goto 4, 3) := by decide +kernel
theorem d_Z_step_365 : decode b_Z_step 365 = .ok (.iconst 0, 1) := by decide +kernel
theorem d_Z_step_366 : decode b_Z_step 366 = .ok (.istore 12, 2) := by decide +kernel
theorem d_Z_step_368 : decode b_Z_step 368 = .ok (.aload_n 0, 1) := by decide +kernel
theorem d_Z_step_369 : decode b_Z_step 369 = .ok (.iload 12, 2) := by decide +kernel
theorem d_Z_step_371 : decode b_Z_step 371 = .ok (.ifCond .ne 7, 3) := by decide +kernel
theorem d_Z_step_374 : decode b_Z_step 374 = .ok (.iconst 0, 1) := by decide +kernel
theorem d_Z_step_375 : decode b_Z_step 375 = .ok (.goto 72, 3) := by decide +kernel
theorem d_Z_step_378 : decode b_Z_step 378 = .ok (.aload_n 0, 1) := by decide +kernel
theorem d_Z_step_379 : decode b_Z_step 379 = .ok (.getfield 88, 3) := by decide +kernel
theorem d_Z_step_382 : decode b_Z_step 382 = .ok (.iconst 2, 1) := by decide +kernel
theorem d_Z_step_383 : decode b_Z_step 383 = .ok (.if_icmp .ne 21, 3) := by decide +kernel
theorem d_Z_step_386 : decode b_Z_step 386 = .ok (.aload_n 0, 1) := by decide +kernel
theorem d_Z_step_387 : decode b_Z_step 387 = .ok (.iconst 1, 1) := by decide +kernel
theorem d_Z_step_388 : decode b_Z_step 388 = .ok (.aload_n 0, 1) := by decide +kernel
theorem d_Z_step_389 : decode b_Z_step 389 = .ok (.getfield 82, 3) := by decide +kernel
theorem d_Z_step_392 : decode b_Z_step 392 = .ok (.i2l, 1) := by decide +kernel
theorem d_Z_step_393 : decode b_Z_step 393 = .ok (.aload_n 0, 1) := by decide +kernel
theorem d_Z_step_394 : decode b_Z_step 394 = .ok (.getfield 56, 3) := by decide +kernel
theorem d_Z_step_397 : decode b_Z_step 397 = .ok (.i2l, 1) := by decide +kernel
theorem d_Z_step_398 : decode b_Z_step 398 = .ok (.invokevirtual 91, 3) := by decide +kernel
theorem d_Z_step_401 : decode b_Z_step 401 = .ok (.goto 46, 3) := by decide +kernel
theorem d_Z_step_404 : decode b_Z_step 404 = .ok (.aload_n 0, 1) := by decide +kernel
theorem d_Z_step_405 : decode b_Z_step 405 = .ok (.getfield 88, 3) := by decide +kernel
theorem d_Z_step_408 : decode b_Z_step 408 = .ok (.iconst 1, 1) := by decide +kernel
theorem d_Z_step_409 : decode b_Z_step 409 = .ok (.if_icmp .ne 23, 3) := by decide +kernel
theorem d_Z_step_412 : decode b_Z_step 412 = .ok (.aload_n 0, 1) := by decide +kernel
theorem d_Z_step_413 : decode b_Z_step 413 = .ok (.iconst 0, 1) := by decide +kernel
theorem d_Z_step_414 : decode b_Z_step 414 = .ok (.aload_n 0, 1) := by decide +kernel
theorem d_Z_step_415 : decode b_Z_step 415 = .ok (.getfield 82, 3) := by decide +kernel
theorem d_Z_step_418 : decode b_Z_step 418 = .ok (.i2l, 1) := by decide +kernel
theorem d_Z_step_419 : decode b_Z_step 419 = .ok (.aload_n 0, 1) := by decide +kernel
theorem d_Z_step_420 : decode b_Z_step 420 = .ok (.getfield 56, 3) := by decide +kernel
theorem d_Z_step_423 : decode b_Z_step 423 = .ok (.i2l, 1) := by decide +kernel
theorem d_Z_step_424 : decode b_Z_step 424 = .ok (.invokevirtual 91, 3) := by decide +kernel
theorem d_Z_step_427 : decode b_Z_step 427 = .ok (.iconst 2, 1) := by decide +kernel
theorem d_Z_step_428 : decode b_Z_step 428 = .ok (.idiv, 1) := by decide +kernel
theorem d_Z_step_429 : decode b_Z_step 429 = .ok (.goto 18, 3) := by decide +kernel
theorem d_Z_step_432 : decode b_Z_step 432 = .ok (.aload_n 0, 1) := by decide +kernel
theorem d_Z_step_433 : decode b_Z_step 433 = .ok (.iconst 0, 1) := by decide +kernel
theorem d_Z_step_434 : decode b_Z_step 434 = .ok (.aload_n 0, 1) := by decide +kernel
theorem d_Z_step_435 : decode b_Z_step 435 = .ok (.getfield 82, 3) := by decide +kernel
theorem d_Z_step_438 : decode b_Z_step 438 = .ok (.i2l, 1) := by decide +kernel
theorem d_Z_step_439 : decode b_Z_step 439 = .ok (.aload_n 0, 1) := by decide +kernel
theorem d_Z_step_440 : decode b_Z_step 440 = .ok (.getfield 56, 3) := by decide +kernel
theorem d_Z_step_443 : decode b_Z_step 443 = .ok (.i2l, 1) := by decide +kernel
theorem d_Z_step_444 : decode b_Z_step 444 = .ok (.invokevirtual 91, 3) := by decide +kernel
theorem d_Z_step_447 : decode b_Z_step 447 = .ok (.putfield 53, 3) := by decide +kernel
theorem d_Z_step_450 : decode b_Z_step 450 = .ok (.iload 12, 2) := by decide +kernel
theorem d_Z_step_452 : decode b_Z_step 452 = .ok (.ifCond .eq 7, 3) := by decide +kernel
theorem d_Z_step_455 : decode b_Z_step 455 = .ok (.aload_n 0, 1) := by decide +kernel
theorem d_Z_step_456 : decode b_Z_step 456 = .ok (.invokevirtual 95, 3) := by decide +kernel
theorem d_Z_step_459 : decode b_Z_step 459 = .ok (.aload_n 0, 1) := by decide +kernel
theorem d_Z_step_460 : decode b_Z_step 460 = .ok (.iconst 0, 1) := by decide +kernel
theorem d_Z_step_461 : decode b_Z_step 461 = .ok (.putfield 50, 3) := by decide +kernel
theorem d_Z_step_464 : decode b_Z_step 464 = .ok (.aload_n 0, 1) := by decide +kernel
theorem d_Z_step_465 : decode b_Z_step 465 = .ok (.getfield 82, 3) := by decide +kernel
theorem d_Z_step_468 : decode b_Z_step 468 = .ok (.ifCond .ne 15, 3) := by decide +kernel
theorem d_Z_step_471 : decode b_Z_step 471 = .ok (.iload 12, 2) := by decide +kernel
theorem d_Z_step_473 : decode b_Z_step 473 = .ok (.ifCond .eq 10, 3) := by decide +kernel
theorem d_Z_step_476 : decode b_Z_step 476 = .ok (.aload_n 0, 1) := by decide +kernel
theorem d_Z_step_477 : decode b_Z_step 477 = .ok (.invokevirtual 98, 3) := by decide +kernel
theorem d_Z_step_480 : decode b_Z_step 480 = .ok (.goto 8, 3) := by decide +kernel
theorem d_Z_step_483 : decode b_Z_step 483 = .ok (.aload_n 0, 1) := by decide +kernel
theorem d_Z_step_484 : decode b_Z_step 484 = .ok (.lconst 0, 1) := by decide +kernel
theorem d_Z_step_485 : decode b_Z_step 485 = .ok (.putfield 61, 3) := by decide +kernel
theorem d_Z_step_488 : decode b_Z_step 488 = .ok (.aload_n 0, 1) := by decide +kernel
theorem d_Z_step_489 : decode b_Z_step 489 = .ok (.aload_n 0, 1) := by decide +kernel
theorem d_Z_step_490 : decode b_Z_step 490 = .ok (.getfield 53, 3) := by decide +kernel
theorem d_Z_step_493 : decode b_Z_step 493 = .ok (.aload_n 0, 1) := by decide +kernel
theorem d_Z_step_494 : decode b_Z_step 494 = .ok (.getfield 27, 3) := by decide +kernel
theorem d_Z_step_497 : decode b_Z_step 497 = .ok (.if_icmp .le 10, 3) := by decide +kernel
theorem d_Z_step_500 : decode b_Z_step 500 = .ok (.aload_n 0, 1) := by decide +kernel
theorem d_Z_step_501 : decode b_Z_step 501 = .ok (.getfield 27, 3) := by decide +kernel
theorem d_Z_step_504 : decode b_Z_step 504 = .ok (.goto 7, 3) := by decide +kernel
theorem d_Z_step_507 : decode b_Z_step 507 = .ok (.aload_n 0, 1) := by decide +kernel
theorem d_Z_step_508 : decode b_Z_step 508 = .ok (.getfield 53, 3) := by decide +kernel
theorem d_Z_step_511 : decode b_Z_step 511 = .ok (.putfield 53, 3) := by decide +kernel
theorem d_Z_step_514 : decode b_Z_step 514 = .ok (.aload_n 0, 1) := by decide +kernel
theorem d_Z_step_515 : decode b_Z_step 515 = .ok (.aload_n 0, 1) := by decide +kernel
theorem d_Z_step_516 : decode b_Z_step 516 = .ok (.getfield 101, 3) := by decide +kernel
theorem d_Z_step_519 : decode b_Z_step 519 = .ok (.putfield 104, 3) := by decide +kernel
theorem d_Z_step_522 : decode b_Z_step 522 = .ok (.aload_n 0, 1) := by decide +kernel
theorem d_Z_step_523 : decode b_Z_step 523 = .ok (.getfield 101, 3) := by decide +kernel
theorem d_Z_step_526 : decode b_Z_step 526 = .ok (.bipush 80, 2) := by decide +kernel
theorem d_Z_step_528 : decode b_Z_step 528 = .ok (.isub, 1) := by decide +kernel
theorem d_Z_step_529 : decode b_Z_step 529 = .ok (.istore 13, 2) := by decide +kernel
theorem d_Z_step_531 : decode b_Z_step 531 = .ok (.aload_n 0, 1) := by decide +kernel
theorem d_Z_step_532 : decode b_Z_step 532 = .ok (.getfield 101, 3) := by decide +kernel
theorem d_Z_step_535 : decode b_Z_step 535 = .ok (.bipush 40, 2) := by decide +kernel
theorem d_Z_step_537 : decode b_Z_step 537 = .ok (.iadd, 1) := by decide +kernel
theorem d_Z_step_538 : decode b_Z_step 538 = .ok (.istore 14, 2) := by decide +kernel
theorem d_Z_step_540 : decode b_Z_step 540 = .ok (.aload_n 0, 1) := by decide +kernel
theorem d_Z_step_541 : decode b_Z_step 541 = .ok (.iload 12, 2) := by decide +kernel
theorem d_Z_step_543 : decode b_Z_step 543 = .ok (.ifCond .ne 7, 3) := by decide +kernel
theorem d_Z_step_546 : decode b_Z_step 546 = .ok (.iconst 0, 1) := by decide +kernel
theorem d_Z_step_547 : decode b_Z_step 547 = .ok (.goto 35, 3) := by decide +kernel
theorem d_Z_step_550 : decode b_Z_step 550 = .ok (.aload_n 0, 1) := by decide +kernel
theorem d_Z_step_551 : decode b_Z_step 551 = .ok (.getfield 53, 3) := by decide +kernel
theorem d_Z_step_554 : decode b_Z_step 554 = .ok (.iload 13, 2) := by decide +kernel
theorem d_Z_step_556 : decode b_Z_step 556 = .ok (.if_icmp .ge 8, 3) := by decide +kernel
theorem d_Z_step_559 : decode b_Z_step 559 = .ok (.iload 13, 2) := by decide +kernel
theorem d_Z_step_561 : decode b_Z_step 561 = .ok (.goto 21, 3) := by decide +kernel
theorem d_Z_step_564 : decode b_Z_step 564 = .ok (.aload_n 0, 1) := by decide +kernel
theorem d_Z_step_565 : decode b_Z_step 565 = .ok (.getfield 53, 3) := by decide +kernel
theorem d_Z_step_568 : decode b_Z_step 568 = .ok (.iload 14, 2) := by decide +kernel
theorem d_Z_step_570 : decode b_Z_step 570 = .ok (.if_icmp .le 8, 3) := by decide +kernel
theorem d_Z_step_573 : decode b_Z_step 573 = .ok (.iload 14, 2) := by decide +kernel
theorem d_Z_step_575 : decode b_Z_step 575 = .ok (.goto 7, 3) := by decide +kernel
theorem d_Z_step_578 : decode b_Z_step 578 = .ok (.aload_n 0, 1) := by decide +kernel
theorem d_Z_step_579 : decode b_Z_step 579 = .ok (.getfield 53, 3) := by decide +kernel
theorem d_Z_step_582 : decode b_Z_step 582 = .ok (.putfield 101, 3) := by decide +kernel
theorem d_Z_step_585 : decode b_Z_step 585 = .ok (.aload_n 0, 1) := by decide +kernel
theorem d_Z_step_586 : decode b_Z_step 586 = .ok (.aload_n 0, 1) := by decide +kernel
theorem d_Z_step_587 : decode b_Z_step 587 = .ok (.iconst 2, 1) := by decide +kernel
theorem d_Z_step_588 : decode b_Z_step 588 = .ok (.aload_n 0, 1) := by decide +kernel
theorem d_Z_step_589 : decode b_Z_step 589 = .ok (.getfield 101, 3) := by decide +kernel
theorem d_Z_step_592 : decode b_Z_step 592 = .ok (.i2l, 1) := by decide +kernel
theorem d_Z_step_593 : decode b_Z_step 593 = .ok (.aload_n 0, 1) := by decide +kernel
theorem d_Z_step_594 : decode b_Z_step 594 = .ok (.getfield 56, 3) := by decide +kernel
theorem d_Z_step_597 : decode b_Z_step 597 = .ok (.i2l, 1) := by decide +kernel
theorem d_Z_step_598 : decode b_Z_step 598 = .ok (.invokevirtual 91, 3) := by decide +kernel
theorem d_Z_step_601 : decode b_Z_step 601 = .ok (.putfield 107, 3) := by decide +kernel
theorem d_Z_step_604 : decode b_Z_step 604 = .ok (.aload_n 0, 1) := by decide +kernel
theorem d_Z_step_605 : decode b_Z_step 605 = .ok (.iload 12, 2) := by decide +kernel
theorem d_Z_step_607 : decode b_Z_step 607 = .ok (.ifCond .eq 27, 3) := by decide +kernel
theorem d_Z_step_610 : decode b_Z_step 610 = .ok (.aload_n 0, 1) := by decide +kernel
theorem d_Z_step_611 : decode b_Z_step 611 = .ok (.getfield 82, 3) := by decide +kernel
theorem d_Z_step_614 : decode b_Z_step 614 = .ok (.ifCond .ne 24, 3) := by decide +kernel
theorem d_Z_step_617 : decode b_Z_step 617 = .ok (.aload_n 0, 1) := by decide +kernel
theorem d_Z_step_618 : decode b_Z_step 618 = .ok (.getfield 101, 3) := by decide +kernel
theorem d_Z_step_621 : decode b_Z_step 621 = .ok (.ifCond .ne 17, 3) := by decide +kernel
theorem d_Z_step_624 : decode b_Z_step 624 = .ok (.aload_n 0, 1) := by decide +kernel
theorem d_Z_step_625 : decode b_Z_step 625 = .ok (.getfield 56, 3) := by decide +kernel
theorem d_Z_step_628 : decode b_Z_step 628 = .ok (.sipush 1500, 3) := by decide +kernel
theorem d_Z_step_631 : decode b_Z_step 631 = .ok (.if_icmp .le 7, 3) := by decide +kernel
theorem d_Z_step_634 : decode b_Z_step 634 = .ok (.iconst 0, 1) := by decide +kernel
theorem d_Z_step_635 : decode b_Z_step 635 = .ok (.goto 18, 3) := by decide +kernel
theorem d_Z_step_638 : decode b_Z_step 638 = .ok (.aload_n 0, 1) := by decide +kernel
theorem d_Z_step_639 : decode b_Z_step 639 = .ok (.iconst 3, 1) := by decide +kernel
theorem d_Z_step_640 : decode b_Z_step 640 = .ok (.aload_n 0, 1) := by decide +kernel
theorem d_Z_step_641 : decode b_Z_step 641 = .ok (.getfield 107, 3) := by decide +kernel
theorem d_Z_step_644 : decode b_Z_step 644 = .ok (.i2l, 1) := by decide +kernel
theorem d_Z_step_645 : decode b_Z_step 645 = .ok (.aload_n 0, 1) := by decide +kernel
theorem d_Z_step_646 : decode b_Z_step 646 = .ok (.getfield 56, 3) := by decide +kernel
theorem d_Z_step_649 : decode b_Z_step 649 = .ok (.i2l, 1) := by decide +kernel
theorem d_Z_step_650 : decode b_Z_step 650 = .ok (.invokevirtual 91, 3) := by decide +kernel
theorem d_Z_step_653 : decode b_Z_step 653 = .ok (.putfield 110, 3) := by decide +kernel
theorem d_Z_step_656 : decode b_Z_step 656 = .ok (.aload_n 0, 1) := by decide +kernel
theorem d_Z_step_657 : decode b_Z_step 657 = .ok (.dup, 1) := by decide +kernel
theorem d_Z_step_658 : decode b_Z_step 658 = .ok (.getfield 113, 3) := by decide +kernel
theorem d_Z_step_661 : decode b_Z_step 661 = .ok (.lconst 1, 1) := by decide +kernel
theorem d_Z_step_662 : decode b_Z_step 662 = .ok (.ladd, 1) := by decide +kernel
theorem d_Z_step_663 : decode b_Z_step 663 = .ok (.putfield 113, 3) := by decide +kernel
theorem d_Z_step_666 : decode b_Z_step 666 = .ok (.aload_n 0, 1) := by decide +kernel
theorem d_Z_step_667 : decode b_Z_step 667 = .ok (.dup, 1) := by decide +kernel
theorem d_Z_step_668 : decode b_Z_step 668 = .ok (.getfield 116, 3) := by decide +kernel
theorem d_Z_step_671 : decode b_Z_step 671 = .ok (.aload_n 0, 1) := by decide +kernel
theorem d_Z_step_672 : decode b_Z_step 672 = .ok (.getfield 101, 3) := by decide +kernel
theorem d_Z_step_675 : decode b_Z_step 675 = .ok (.i2l, 1) := by decide +kernel
theorem d_Z_step_676 : decode b_Z_step 676 = .ok (.aload_n 0, 1) := by decide +kernel
theorem d_Z_step_677 : decode b_Z_step 677 = .ok (.getfield 56, 3) := by decide +kernel
theorem d_Z_step_680 : decode b_Z_step 680 = .ok (.i2l, 1) := by decide +kernel
theorem d_Z_step_681 : decode b_Z_step 681 = .ok (.lmul, 1) := by decide +kernel
theorem d_Z_step_682 : decode b_Z_step 682 = .ok (.ladd, 1) := by decide +kernel
theorem d_Z_step_683 : decode b_Z_step 683 = .ok (.putfield 116, 3) := by decide +kernel
theorem d_Z_step_686 : decode b_Z_step 686 = .ok (.aload_n 0, 1) := by decide +kernel
theorem d_Z_step_687 : decode b_Z_step 687 = .ok (.dup, 1) := by decide +kernel
theorem d_Z_step_688 : decode b_Z_step 688 = .ok (.getfield 119, 3) := by decide +kernel
theorem d_Z_step_691 : decode b_Z_step 691 = .ok (.aload_n 0, 1) := by decide +kernel
theorem d_Z_step_692 : decode b_Z_step 692 = .ok (.getfield 110, 3) := by decide +kernel
theorem d_Z_step_695 : decode b_Z_step 695 = .ok (.i2l, 1) := by decide +kernel
theorem d_Z_step_696 : decode b_Z_step 696 = .ok (.ladd, 1) := by decide +kernel
theorem d_Z_step_697 : decode b_Z_step 697 = .ok (.putfield 119, 3) := by decide +kernel
theorem d_Z_step_700 : decode b_Z_step 700 = .ok (.aload_n 0, 1) := by decide +kernel
theorem d_Z_step_701 : decode b_Z_step 701 = .ok (.dup, 1) := by decide +kernel
theorem d_Z_step_702 : decode b_Z_step 702 = .ok (.getfield 122, 3) := by decide +kernel
theorem d_Z_step_705 : decode b_Z_step 705 = .ok (.aload_n 0, 1) := by decide +kernel
theorem d_Z_step_706 : decode b_Z_step 706 = .ok (.getfield 88, 3) := by decide +kernel
theorem d_Z_step_709 : decode b_Z_step 709 = .ok (.iconst 4, 1) := by decide +kernel
theorem d_Z_step_710 : decode b_Z_step 710 = .ok (.if_icmp .ne 7, 3) := by decide +kernel
theorem d_Z_step_713 : decode b_Z_step 713 = .ok (.lconst 1, 1) := by decide +kernel
theorem d_Z_step_714 : decode b_Z_step 714 = .ok (.goto 4, 3) := by decide +kernel
theorem d_Z_step_717 : decode b_Z_step 717 = .ok (.lconst 0, 1) := by decide +kernel
theorem d_Z_step_718 : decode b_Z_step 718 = .ok (.ladd, 1) := by decide +kernel
theorem d_Z_step_719 : decode b_Z_step 719 = .ok (.putfield 122, 3) := by decide +kernel
theorem d_Z_step_722 : decode b_Z_step 722 = .ok (.aload_n 0, 1) := by decide +kernel
theorem d_Z_step_723 : decode b_Z_step 723 = .ok (.getfield 88, 3) := by decide +kernel
theorem d_Z_step_726 : decode b_Z_step 726 = .ok (.ireturn, 1) := by decide +kernel
theorem d_Z_torque_0 : decode b_Z_torque 0 = .ok (.aload_n 0, 1) := by decide +kernel
theorem d_Z_torque_1 : decode b_Z_torque 1 = .ok (.iconst 0, 1) := by decide +kernel
theorem d_Z_torque_2 : decode b_Z_torque 2 = .ok (.putfield 33, 3) := by decide +kernel
theorem d_Z_torque_5 : decode b_Z_torque 5 = .ok (.aload_n 0, 1) := by decide +kernel
theorem d_Z_torque_6 : decode b_Z_torque 6 = .ok (.getfield 101, 3) := by decide +kernel
theorem d_Z_torque_9 : decode b_Z_torque 9 = .ok (.i2l, 1) := by decide +kernel
theorem d_Z_torque_10 : decode b_Z_torque 10 = .ok (.lreturn, 1) := by decide +kernel
theorem d_Z_value_0 : decode b_Z_value 0 = .ok (.aload_n 0, 1) := by decide +kernel
theorem d_Z_value_1 : decode b_Z_value 1 = .ok (.iconst 0, 1) := by decide +kernel
theorem d_Z_value_2 : decode b_Z_value 2 = .ok (.putfield 33, 3) := by decide +kernel
theorem d_Z_value_5 : decode b_Z_value 5 = .ok (.iload_n 1, 1) := by decide +kernel
theorem d_Z_value_6 : decode b_Z_value 6 = .ok (.tableswitch 93 0 7 #[46, 52, 58, 64, 70, 75, 81, 87], 46) := by decide +kernel
theorem d_Z_value_52 : decode b_Z_value 52 = .ok (.aload_n 0, 1) := by decide +kernel
theorem d_Z_value_53 : decode b_Z_value 53 = .ok (.getfield 82, 3) := by decide +kernel
theorem d_Z_value_56 : decode b_Z_value 56 = .ok (.i2l, 1) := by decide +kernel
theorem d_Z_value_57 : decode b_Z_value 57 = .ok (.lreturn, 1) := by decide +kernel
theorem d_Z_value_58 : decode b_Z_value 58 = .ok (.aload_n 0, 1) := by decide +kernel
theorem d_Z_value_59 : decode b_Z_value 59 = .ok (.getfield 53, 3) := by decide +kernel
theorem d_Z_value_62 : decode b_Z_value 62 = .ok (.i2l, 1) := by decide +kernel
theorem d_Z_value_63 : decode b_Z_value 63 = .ok (.lreturn, 1) := by decide +kernel
theorem d_Z_value_64 : decode b_Z_value 64 = .ok (.aload_n 0, 1) := by decide +kernel
theorem d_Z_value_65 : decode b_Z_value 65 = .ok (.getfield 107, 3) := by decide +kernel
theorem d_Z_value_68 : decode b_Z_value 68 = .ok (.i2l, 1) := by decide +kernel
theorem d_Z_value_69 : decode b_Z_value 69 = .ok (.lreturn, 1) := by decide +kernel
theorem d_Z_value_70 : decode b_Z_value 70 = .ok (.aload_n 0, 1) := by decide +kernel
theorem d_Z_value_71 : decode b_Z_value 71 = .ok (.getfield 110, 3) := by decide +kernel
theorem d_Z_value_74 : decode b_Z_value 74 = .ok (.i2l, 1) := by decide +kernel
theorem d_Z_value_75 : decode b_Z_value 75 = .ok (.lreturn, 1) := by decide +kernel
theorem d_Z_value_76 : decode b_Z_value 76 = .ok (.aload_n 0, 1) := by decide +kernel
theorem d_Z_value_77 : decode b_Z_value 77 = .ok (.getfield 61, 3) := by decide +kernel
theorem d_Z_value_80 : decode b_Z_value 80 = .ok (.lreturn, 1) := by decide +kernel
theorem d_Z_value_81 : decode b_Z_value 81 = .ok (.aload_n 0, 1) := by decide +kernel
theorem d_Z_value_82 : decode b_Z_value 82 = .ok (.getfield 75, 3) := by decide +kernel
theorem d_Z_value_85 : decode b_Z_value 85 = .ok (.i2l, 1) := by decide +kernel
theorem d_Z_value_86 : decode b_Z_value 86 = .ok (.lreturn, 1) := by decide +kernel
theorem d_Z_value_87 : decode b_Z_value 87 = .ok (.aload_n 0, 1) := by decide +kernel
theorem d_Z_value_88 : decode b_Z_value 88 = .ok (.getfield 88, 3) := by decide +kernel
theorem d_Z_value_91 : decode b_Z_value 91 = .ok (.i2l, 1) := by decide +kernel
theorem d_Z_value_92 : decode b_Z_value 92 = .ok (.lreturn, 1) := by decide +kernel
theorem d_Z_value_93 : decode b_Z_value 93 = .ok (.aload_n 0, 1) := by decide +kernel
theorem d_Z_value_94 : decode b_Z_value 94 = .ok (.getfield 56, 3) := by decide +kernel
theorem d_Z_value_97 : decode b_Z_value 97 = .ok (.i2l, 1) := by decide +kernel
theorem d_Z_value_98 : decode b_Z_value 98 = .ok (.lreturn, 1) := by decide +kernel
theorem d_Z_value_99 : decode b_Z_value 99 = .ok (.ldc2_w 125, 3) := by decide +kernel
theorem d_Z_value_102 : decode b_Z_value 102 = .ok (.lreturn, 1) := by decide +kernel
theorem d_Z_wish_0 : decode b_Z_wish 0 = .ok (.aload_n 0, 1) := by decide +kernel
theorem d_Z_wish_1 : decode b_Z_wish 1 = .ok (.iconst 0, 1) := by decide +kernel
theorem d_Z_wish_2 : decode b_Z_wish 2 = .ok (.putfield 33, 3) := by decide +kernel
theorem d_Z_wish_5 : decode b_Z_wish 5 = .ok (.iload_n 1, 1) := by decide +kernel
theorem d_Z_wish_6 : decode b_Z_wish 6 = .ok (.iconst 1, 1) := by decide +kernel
theorem d_Z_wish_7 : decode b_Z_wish 7 = .ok (.if_icmp .lt 8, 3) := by decide +kernel
theorem d_Z_wish_10 : decode b_Z_wish 10 = .ok (.iload_n 1, 1) := by decide +kernel
theorem d_Z_wish_11 : decode b_Z_wish 11 = .ok (.iconst 5, 1) := by decide +kernel
theorem d_Z_wish_12 : decode b_Z_wish 12 = .ok (.if_icmp .le 5, 3) := by decide +kernel
theorem d_Z_wish_15 : decode b_Z_wish 15 = .ok (.iconst (-1), 1) := by decide +kernel
theorem d_Z_wish_16 : decode b_Z_wish 16 = .ok (.ireturn, 1) := by decide +kernel
theorem d_Z_wish_17 : decode b_Z_wish 17 = .ok (.lload_n 2, 1) := by decide +kernel
theorem d_Z_wish_18 : decode b_Z_wish 18 = .ok (.lconst 0, 1) := by decide +kernel
theorem d_Z_wish_19 : decode b_Z_wish 19 = .ok (.lcmp, 1) := by decide +kernel
theorem d_Z_wish_20 : decode b_Z_wish 20 = .ok (.ifCond .lt 11, 3) := by decide +kernel
theorem d_Z_wish_23 : decode b_Z_wish 23 = .ok (.lload_n 2, 1) := by decide +kernel
theorem d_Z_wish_24 : decode b_Z_wish 24 = .ok (.ldc2_w 46, 3) := by decide +kernel
theorem d_Z_wish_27 : decode b_Z_wish 27 = .ok (.lcmp, 1) := by decide +kernel
theorem d_Z_wish_28 : decode b_Z_wish 28 = .ok (.ifCond .le 6, 3) := by decide +kernel
theorem d_Z_wish_31 : decode b_Z_wish 31 = .ok (.bipush (-2), 2) := by decide +kernel
theorem d_Z_wish_33 : decode b_Z_wish 33 = .ok (.ireturn, 1) := by decide +kernel
theorem d_Z_wish_34 : decode b_Z_wish 34 = .ok (.aload_n 0, 1) := by decide +kernel
theorem d_Z_wish_35 : decode b_Z_wish 35 = .ok (.getfield 50, 3) := by decide +kernel
theorem d_Z_wish_38 : decode b_Z_wish 38 = .ok (.bipush 16, 2) := by decide +kernel
theorem d_Z_wish_40 : decode b_Z_wish 40 = .ok (.if_icmp .ne 6, 3) := by decide +kernel
theorem d_Z_wish_43 : decode b_Z_wish 43 = .ok (.bipush (-4), 2) := by decide +kernel
theorem d_Z_wish_45 : decode b_Z_wish 45 = .ok (.ireturn, 1) := by decide +kernel
theorem d_Z_wish_46 : decode b_Z_wish 46 = .ok (.aload_n 0, 1) := by decide +kernel
theorem d_Z_wish_47 : decode b_Z_wish 47 = .ok (.getfield 17, 3) := by decide +kernel
theorem d_Z_wish_50 : decode b_Z_wish 50 = .ok (.aload_n 0, 1) := by decide +kernel
theorem d_Z_wish_51 : decode b_Z_wish 51 = .ok (.getfield 50, 3) := by decide +kernel
theorem d_Z_wish_54 : decode b_Z_wish 54 = .ok (.iload_n 1, 1) := by decide +kernel
theorem d_Z_wish_55 : decode b_Z_wish 55 = .ok (.iastore, 1) := by decide +kernel
theorem d_Z_wish_56 : decode b_Z_wish 56 = .ok (.aload_n 0, 1) := by decide +kernel
theorem d_Z_wish_57 : decode b_Z_wish 57 = .ok (.getfield 20, 3) := by decide +kernel
theorem d_Z_wish_60 : decode b_Z_wish 60 = .ok (.aload_n 0, 1) := by decide +kernel
theorem d_Z_wish_61 : decode b_Z_wish 61 = .ok (.getfield 50, 3) := by decide +kernel
theorem d_Z_wish_64 : decode b_Z_wish 64 = .ok (.lload_n 2, 1) := by decide +kernel
theorem d_Z_wish_65 : decode b_Z_wish 65 = .ok (.l2i, 1) := by decide +kernel
theorem d_Z_wish_66 : decode b_Z_wish 66 = .ok (.iastore, 1) := by decide +kernel
theorem d_Z_wish_67 : decode b_Z_wish 67 = .ok (.aload_n 0, 1) := by decide +kernel
theorem d_Z_wish_68 : decode b_Z_wish 68 = .ok (.dup, 1) := by decide +kernel
theorem d_Z_wish_69 : decode b_Z_wish 69 = .ok (.getfield 50, 3) := by decide +kernel
theorem d_Z_wish_72 : decode b_Z_wish 72 = .ok (.iconst 1, 1) := by decide +kernel
theorem d_Z_wish_73 : decode b_Z_wish 73 = .ok (.iadd, 1) := by decide +kernel
theorem d_Z_wish_74 : decode b_Z_wish 74 = .ok (.putfield 50, 3) := by decide +kernel
theorem d_Z_wish_77 : decode b_Z_wish 77 = .ok (.aload_n 0, 1) := by decide +kernel
theorem d_Z_wish_78 : decode b_Z_wish 78 = .ok (.getfield 50, 3) := by decide +kernel
theorem d_Z_wish_81 : decode b_Z_wish 81 = .ok (.ireturn, 1) := by decide +kernel
theorem d_Z_bound_0 : decode b_Z_bound 0 = .ok (.aload_n 0, 1) := by decide +kernel
theorem d_Z_bound_1 : decode b_Z_bound 1 = .ok (.iconst 0, 1) := by decide +kernel
theorem d_Z_bound_2 : decode b_Z_bound 2 = .ok (.putfield 33, 3) := by decide +kernel
theorem d_Z_bound_5 : decode b_Z_bound 5 = .ok (.lload_n 1, 1) := by decide +kernel
theorem d_Z_bound_6 : decode b_Z_bound 6 = .ok (.lconst 0, 1) := by decide +kernel
theorem d_Z_bound_7 : decode b_Z_bound 7 = .ok (.lcmp, 1) := by decide +kernel
theorem d_Z_bound_8 : decode b_Z_bound 8 = .ok (.ifCond .lt 11, 3) := by decide +kernel
theorem d_Z_bound_11 : decode b_Z_bound 11 = .ok (.lload_n 1, 1) := by decide +kernel
theorem d_Z_bound_12 : decode b_Z_bound 12 = .ok (.ldc2_w 46, 3) := by decide +kernel
theorem d_Z_bound_15 : decode b_Z_bound 15 = .ok (.lcmp, 1) := by decide +kernel
theorem d_Z_bound_16 : decode b_Z_bound 16 = .ok (.ifCond .le 6, 3) := by decide +kernel
theorem d_Z_bound_19 : decode b_Z_bound 19 = .ok (.bipush (-2), 2) := by decide +kernel
theorem d_Z_bound_21 : decode b_Z_bound 21 = .ok (.ireturn, 1) := by decide +kernel
theorem d_Z_bound_22 : decode b_Z_bound 22 = .ok (.aload_n 0, 1) := by decide +kernel
theorem d_Z_bound_23 : decode b_Z_bound 23 = .ok (.getfield 27, 3) := by decide +kernel
theorem d_Z_bound_26 : decode b_Z_bound 26 = .ok (.istore_n 3, 1) := by decide +kernel
theorem d_Z_bound_27 : decode b_Z_bound 27 = .ok (.aload_n 0, 1) := by decide +kernel
theorem d_Z_bound_28 : decode b_Z_bound 28 = .ok (.lload_n 1, 1) := by decide +kernel
theorem d_Z_bound_29 : decode b_Z_bound 29 = .ok (.l2i, 1) := by decide +kernel
theorem d_Z_bound_30 : decode b_Z_bound 30 = .ok (.putfield 27, 3) := by decide +kernel
theorem d_Z_bound_33 : decode b_Z_bound 33 = .ok (.iload_n 3, 1) := by decide +kernel
theorem d_Z_bound_34 : decode b_Z_bound 34 = .ok (.ireturn, 1) := by decide +kernel
theorem d_Z_monitor_0 : decode b_Z_monitor 0 = .ok (.aload_n 0, 1) := by decide +kernel
theorem d_Z_monitor_1 : decode b_Z_monitor 1 = .ok (.iconst 0, 1) := by decide +kernel
theorem d_Z_monitor_2 : decode b_Z_monitor 2 = .ok (.putfield 33, 3) := by decide +kernel
theorem d_Z_monitor_5 : decode b_Z_monitor 5 = .ok (.aload_n 0, 1) := by decide +kernel
theorem d_Z_monitor_6 : decode b_Z_monitor 6 = .ok (.getfield 78, 3) := by decide +kernel
theorem d_Z_monitor_9 : decode b_Z_monitor 9 = .ok (.ifCond .eq 6, 3) := by decide +kernel
theorem d_Z_monitor_12 : decode b_Z_monitor 12 = .ok (.bipush (-3), 2) := by decide +kernel
theorem d_Z_monitor_14 : decode b_Z_monitor 14 = .ok (.ireturn, 1) := by decide +kernel
theorem d_Z_monitor_15 : decode b_Z_monitor 15 = .ok (.aload_n 0, 1) := by decide +kernel
theorem d_Z_monitor_16 : decode b_Z_monitor 16 = .ok (.lload_n 1, 1) := by decide +kernel
theorem d_Z_monitor_17 : decode b_Z_monitor 17 = .ok (.aload_n 0, 1) := by decide +kernel
theorem d_Z_monitor_18 : decode b_Z_monitor 18 = .ok (.getfield 53, 3) := by decide +kernel
theorem d_Z_monitor_21 : decode b_Z_monitor 21 = .ok (.bipush 30, 2) := by decide +kernel
theorem d_Z_monitor_23 : decode b_Z_monitor 23 = .ok (.iadd, 1) := by decide +kernel
theorem d_Z_monitor_24 : decode b_Z_monitor 24 = .ok (.i2l, 1) := by decide +kernel
theorem d_Z_monitor_25 : decode b_Z_monitor 25 = .ok (.lcmp, 1) := by decide +kernel
theorem d_Z_monitor_26 : decode b_Z_monitor 26 = .ok (.ifCond .le 22, 3) := by decide +kernel
theorem d_Z_monitor_29 : decode b_Z_monitor 29 = .ok (.lload_n 1, 1) := by decide +kernel
theorem d_Z_monitor_30 : decode b_Z_monitor 30 = .ok (.aload_n 0, 1) := by decide +kernel
theorem d_Z_monitor_31 : decode b_Z_monitor 31 = .ok (.getfield 104, 3) := by decide +kernel
theorem d_Z_monitor_34 : decode b_Z_monitor 34 = .ok (.i2l, 1) := by decide +kernel
theorem d_Z_monitor_35 : decode b_Z_monitor 35 = .ok (.lcmp, 1) := by decide +kernel
theorem d_Z_monitor_36 : decode b_Z_monitor 36 = .ok (.ifCond .le 12, 3) := by decide +kernel
theorem d_Z_monitor_39 : decode b_Z_monitor 39 = .ok (.aload_n 0, 1) := by decide +kernel
theorem d_Z_monitor_40 : decode b_Z_monitor 40 = .ok (.getfield 127, 3) := by decide +kernel
theorem d_Z_monitor_43 : decode b_Z_monitor 43 = .ok (.iconst 1, 1) := by decide +kernel
theorem d_Z_monitor_44 : decode b_Z_monitor 44 = .ok (.iadd, 1) := by decide +kernel
theorem d_Z_monitor_45 : decode b_Z_monitor 45 = .ok (.goto 4, 3) := by decide +kernel
theorem d_Z_monitor_48 : decode b_Z_monitor 48 = .ok (.iconst 0, 1) := by decide +kernel
theorem d_Z_monitor_49 : decode b_Z_monitor 49 = .ok (.putfield 127, 3) := by decide +kernel
theorem d_Z_monitor_52 : decode b_Z_monitor 52 = .ok (.aload_n 0, 1) := by decide +kernel
theorem d_Z_monitor_53 : decode b_Z_monitor 53 = .ok (.aload_n 0, 1) := by decide +kernel
theorem d_Z_monitor_54 : decode b_Z_monitor 54 = .ok (.getfield 127, 3) := by decide +kernel
theorem d_Z_monitor_57 : decode b_Z_monitor 57 = .ok (.bipush 8, 2) := by decide +kernel
theorem d_Z_monitor_59 : decode b_Z_monitor 59 = .ok (.if_icmp .ne 7, 3) := by decide +kernel
theorem d_Z_monitor_62 : decode b_Z_monitor 62 = .ok (.iconst 1, 1) := by decide +kernel
theorem d_Z_monitor_63 : decode b_Z_monitor 63 = .ok (.goto 4, 3) := by decide +kernel
theorem d_Z_monitor_66 : decode b_Z_monitor 66 = .ok (.iconst 0, 1) := by decide +kernel
theorem d_Z_monitor_67 : decode b_Z_monitor 67 = .ok (.putfield 78, 3) := by decide +kernel
theorem d_Z_monitor_70 : decode b_Z_monitor 70 = .ok (.aload_n 0, 1) := by decide +kernel
theorem d_Z_monitor_71 : decode b_Z_monitor 71 = .ok (.getfield 127, 3) := by decide +kernel
theorem d_Z_monitor_74 : decode b_Z_monitor 74 = .ok (.ireturn, 1) := by decide +kernel
theorem d_Z_sensor_0 : decode b_Z_sensor 0 = .ok (.aload_n 0, 1) := by decide +kernel
theorem d_Z_sensor_1 : decode b_Z_sensor 1 = .ok (.iconst 0, 1) := by decide +kernel
theorem d_Z_sensor_2 : decode b_Z_sensor 2 = .ok (.putfield 33, 3) := by decide +kernel
theorem d_Z_sensor_5 : decode b_Z_sensor 5 = .ok (.iload_n 1, 1) := by decide +kernel
theorem d_Z_sensor_6 : decode b_Z_sensor 6 = .ok (.ifCond .lt 8, 3) := by decide +kernel
theorem d_Z_sensor_9 : decode b_Z_sensor 9 = .ok (.iload_n 1, 1) := by decide +kernel
theorem d_Z_sensor_10 : decode b_Z_sensor 10 = .ok (.iconst 2, 1) := by decide +kernel
theorem d_Z_sensor_11 : decode b_Z_sensor 11 = .ok (.if_icmp .le 5, 3) := by decide +kernel
theorem d_Z_sensor_14 : decode b_Z_sensor 14 = .ok (.iconst (-1), 1) := by decide +kernel
theorem d_Z_sensor_15 : decode b_Z_sensor 15 = .ok (.ireturn, 1) := by decide +kernel
theorem d_Z_sensor_16 : decode b_Z_sensor 16 = .ok (.iload_n 2, 1) := by decide +kernel
theorem d_Z_sensor_17 : decode b_Z_sensor 17 = .ok (.ifCond .lt 8, 3) := by decide +kernel
theorem d_Z_sensor_20 : decode b_Z_sensor 20 = .ok (.iload_n 2, 1) := by decide +kernel
theorem d_Z_sensor_21 : decode b_Z_sensor 21 = .ok (.iconst 1, 1) := by decide +kernel
theorem d_Z_sensor_22 : decode b_Z_sensor 22 = .ok (.if_icmp .le 6, 3) := by decide +kernel
theorem d_Z_sensor_25 : decode b_Z_sensor 25 = .ok (.bipush (-2), 2) := by decide +kernel
theorem d_Z_sensor_27 : decode b_Z_sensor 27 = .ok (.ireturn, 1) := by decide +kernel
theorem d_Z_sensor_28 : decode b_Z_sensor 28 = .ok (.aload_n 0, 1) := by decide +kernel
theorem d_Z_sensor_29 : decode b_Z_sensor 29 = .ok (.getfield 13, 3) := by decide +kernel
theorem d_Z_sensor_32 : decode b_Z_sensor 32 = .ok (.iload_n 1, 1) := by decide +kernel
theorem d_Z_sensor_33 : decode b_Z_sensor 33 = .ok (.baload, 1) := by decide +kernel
theorem d_Z_sensor_34 : decode b_Z_sensor 34 = .ok (.ifCond .eq 7, 3) := by decide +kernel
theorem d_Z_sensor_37 : decode b_Z_sensor 37 = .ok (.iconst 1, 1) := by decide +kernel
theorem d_Z_sensor_38 : decode b_Z_sensor 38 = .ok (.goto 4, 3) := by decide +kernel
theorem d_Z_sensor_41 : decode b_Z_sensor 41 = .ok (.iconst 0, 1) := by decide +kernel
theorem d_Z_sensor_42 : decode b_Z_sensor 42 = .ok (.istore_n 3, 1) := by decide +kernel
theorem d_Z_sensor_43 : decode b_Z_sensor 43 = .ok (.aload_n 0, 1) := by decide +kernel
theorem d_Z_sensor_44 : decode b_Z_sensor 44 = .ok (.getfield 13, 3) := by decide +kernel
theorem d_Z_sensor_47 : decode b_Z_sensor 47 = .ok (.iload_n 1, 1) := by decide +kernel
theorem d_Z_sensor_48 : decode b_Z_sensor 48 = .ok (.iload_n 2, 1) := by decide +kernel
theorem d_Z_sensor_49 : decode b_Z_sensor 49 = .ok (.iconst 1, 1) := by decide +kernel
theorem d_Z_sensor_50 : decode b_Z_sensor 50 = .ok (.if_icmp .ne 7, 3) := by decide +kernel
theorem d_Z_sensor_53 : decode b_Z_sensor 53 = .ok (.iconst 1, 1) := by decide +kernel
theorem d_Z_sensor_54 : decode b_Z_sensor 54 = .ok (.goto 4, 3) := by decide +kernel
theorem d_Z_sensor_57 : decode b_Z_sensor 57 = .ok (.iconst 0, 1) := by decide +kernel
theorem d_Z_sensor_58 : decode b_Z_sensor 58 = .ok (.bastore, 1) := by decide +kernel
theorem d_Z_sensor_59 : decode b_Z_sensor 59 = .ok (.iload_n 3, 1) := by decide +kernel
theorem d_Z_sensor_60 : decode b_Z_sensor 60 = .ok (.ireturn, 1) := by decide +kernel
theorem d_Z_cylinder_0 : decode b_Z_cylinder 0 = .ok (.aload_n 0, 1) := by decide +kernel
theorem d_Z_cylinder_1 : decode b_Z_cylinder 1 = .ok (.iconst 0, 1) := by decide +kernel
theorem d_Z_cylinder_2 : decode b_Z_cylinder 2 = .ok (.putfield 33, 3) := by decide +kernel
theorem d_Z_cylinder_5 : decode b_Z_cylinder 5 = .ok (.iload_n 1, 1) := by decide +kernel
theorem d_Z_cylinder_6 : decode b_Z_cylinder 6 = .ok (.iconst 1, 1) := by decide +kernel
theorem d_Z_cylinder_7 : decode b_Z_cylinder 7 = .ok (.if_icmp .lt 9, 3) := by decide +kernel
theorem d_Z_cylinder_10 : decode b_Z_cylinder 10 = .ok (.iload_n 1, 1) := by decide +kernel
theorem d_Z_cylinder_11 : decode b_Z_cylinder 11 = .ok (.bipush 12, 2) := by decide +kernel
theorem d_Z_cylinder_13 : decode b_Z_cylinder 13 = .ok (.if_icmp .le 5, 3) := by decide +kernel
theorem d_Z_cylinder_16 : decode b_Z_cylinder 16 = .ok (.iconst 0, 1) := by decide +kernel
theorem d_Z_cylinder_17 : decode b_Z_cylinder 17 = .ok (.ireturn, 1) := by decide +kernel
theorem d_Z_cylinder_18 : decode b_Z_cylinder 18 = .ok (.aload_n 0, 1) := by decide +kernel
theorem d_Z_cylinder_19 : decode b_Z_cylinder 19 = .ok (.iload_n 1, 1) := by decide +kernel
end
section
theorem d_Z_cylinder_20 : decode b_Z_cylinder 20 = .ok (.putfield 30, 3) := by decide +kernel
theorem d_Z_cylinder_23 : decode b_Z_cylinder 23 = .ok (.iconst 1, 1) := by decide +kernel
theorem d_Z_cylinder_24 : decode b_Z_cylinder 24 = .ok (.ireturn, 1) := by decide +kernel
theorem d_Z_period_0 : decode b_Z_period 0 = .ok (.aload_n 0, 1) := by decide +kernel
theorem d_Z_period_1 : decode b_Z_period 1 = .ok (.iconst 0, 1) := by decide +kernel
theorem d_Z_period_2 : decode b_Z_period 2 = .ok (.putfield 33, 3) := by decide +kernel
theorem d_Z_period_5 : decode b_Z_period 5 = .ok (.lload_n 1, 1) := by decide +kernel
theorem d_Z_period_6 : decode b_Z_period 6 = .ok (.lconst 0, 1) := by decide +kernel
theorem d_Z_period_7 : decode b_Z_period 7 = .ok (.lcmp, 1) := by decide +kernel
theorem d_Z_period_8 : decode b_Z_period 8 = .ok (.ifCond .lt 11, 3) := by decide +kernel
theorem d_Z_period_11 : decode b_Z_period 11 = .ok (.lload_n 1, 1) := by decide +kernel
theorem d_Z_period_12 : decode b_Z_period 12 = .ok (.ldc2_w 73, 3) := by decide +kernel
theorem d_Z_period_15 : decode b_Z_period 15 = .ok (.lcmp, 1) := by decide +kernel
theorem d_Z_period_16 : decode b_Z_period 16 = .ok (.ifCond .le 7, 3) := by decide +kernel
theorem d_Z_period_19 : decode b_Z_period 19 = .ok (.ldc2_w 125, 3) := by decide +kernel
theorem d_Z_period_22 : decode b_Z_period 22 = .ok (.lreturn, 1) := by decide +kernel
theorem d_Z_period_23 : decode b_Z_period 23 = .ok (.aload_n 0, 1) := by decide +kernel
theorem d_Z_period_24 : decode b_Z_period 24 = .ok (.lload_n 1, 1) := by decide +kernel
theorem d_Z_period_25 : decode b_Z_period 25 = .ok (.lconst 0, 1) := by decide +kernel
theorem d_Z_period_26 : decode b_Z_period 26 = .ok (.lcmp, 1) := by decide +kernel
theorem d_Z_period_27 : decode b_Z_period 27 = .ok (.ifCond .ne 7, 3) := by decide +kernel
theorem d_Z_period_30 : decode b_Z_period 30 = .ok (.iconst 1, 1) := by decide +kernel
theorem d_Z_period_31 : decode b_Z_period 31 = .ok (.goto 4, 3) := by decide +kernel
theorem d_Z_period_34 : decode b_Z_period 34 = .ok (.iconst 0, 1) := by decide +kernel
theorem d_Z_period_35 : decode b_Z_period 35 = .ok (.putfield 33, 3) := by decide +kernel
theorem d_Z_period_38 : decode b_Z_period 38 = .ok (.aload_n 0, 1) := by decide +kernel
theorem d_Z_period_39 : decode b_Z_period 39 = .ok (.getfield 33, 3) := by decide +kernel
theorem d_Z_period_42 : decode b_Z_period 42 = .ok (.ifCond .le 7, 3) := by decide +kernel
theorem d_Z_period_45 : decode b_Z_period 45 = .ok (.lconst 0, 1) := by decide +kernel
theorem d_Z_period_46 : decode b_Z_period 46 = .ok (.goto 14, 3) := by decide +kernel
theorem d_Z_period_49 : decode b_Z_period 49 = .ok (.ldc2_w 130, 3) := by decide +kernel
theorem d_Z_period_52 : decode b_Z_period 52 = .ok (.lload_n 1, 1) := by decide +kernel
theorem d_Z_period_53 : decode b_Z_period 53 = .ok (.aload_n 0, 1) := by decide +kernel
theorem d_Z_period_54 : decode b_Z_period 54 = .ok (.getfield 30, 3) := by decide +kernel
theorem d_Z_period_57 : decode b_Z_period 57 = .ok (.i2l, 1) := by decide +kernel
theorem d_Z_period_58 : decode b_Z_period 58 = .ok (.lmul, 1) := by decide +kernel
theorem d_Z_period_59 : decode b_Z_period 59 = .ok (.ldiv, 1) := by decide +kernel
theorem d_Z_period_60 : decode b_Z_period 60 = .ok (.lreturn, 1) := by decide +kernel
theorem d_Z_idle_0 : decode b_Z_idle 0 = .ok (.aload_n 0, 1) := by decide +kernel
theorem d_Z_idle_1 : decode b_Z_idle 1 = .ok (.iconst 0, 1) := by decide +kernel
theorem d_Z_idle_2 : decode b_Z_idle 2 = .ok (.putfield 33, 3) := by decide +kernel
theorem d_Z_idle_5 : decode b_Z_idle 5 = .ok (.lload_n 1, 1) := by decide +kernel
theorem d_Z_idle_6 : decode b_Z_idle 6 = .ok (.lconst 0, 1) := by decide +kernel
theorem d_Z_idle_7 : decode b_Z_idle 7 = .ok (.lcmp, 1) := by decide +kernel
theorem d_Z_idle_8 : decode b_Z_idle 8 = .ok (.ifCond .lt 11, 3) := by decide +kernel
theorem d_Z_idle_11 : decode b_Z_idle 11 = .ok (.lload_n 1, 1) := by decide +kernel
theorem d_Z_idle_12 : decode b_Z_idle 12 = .ok (.ldc2_w 132, 3) := by decide +kernel
theorem d_Z_idle_15 : decode b_Z_idle 15 = .ok (.lcmp, 1) := by decide +kernel
theorem d_Z_idle_16 : decode b_Z_idle 16 = .ok (.ifCond .le 6, 3) := by decide +kernel
theorem d_Z_idle_19 : decode b_Z_idle 19 = .ok (.bipush (-2), 2) := by decide +kernel
theorem d_Z_idle_21 : decode b_Z_idle 21 = .ok (.ireturn, 1) := by decide +kernel
theorem d_Z_idle_22 : decode b_Z_idle 22 = .ok (.aload_n 0, 1) := by decide +kernel
theorem d_Z_idle_23 : decode b_Z_idle 23 = .ok (.getfield 23, 3) := by decide +kernel
theorem d_Z_idle_26 : decode b_Z_idle 26 = .ok (.istore_n 3, 1) := by decide +kernel
theorem d_Z_idle_27 : decode b_Z_idle 27 = .ok (.aload_n 0, 1) := by decide +kernel
theorem d_Z_idle_28 : decode b_Z_idle 28 = .ok (.lload_n 1, 1) := by decide +kernel
theorem d_Z_idle_29 : decode b_Z_idle 29 = .ok (.l2i, 1) := by decide +kernel
theorem d_Z_idle_30 : decode b_Z_idle 30 = .ok (.putfield 23, 3) := by decide +kernel
theorem d_Z_idle_33 : decode b_Z_idle 33 = .ok (.iload_n 3, 1) := by decide +kernel
theorem d_Z_idle_34 : decode b_Z_idle 34 = .ok (.ireturn, 1) := by decide +kernel
theorem d_Z_sum_0 : decode b_Z_sum 0 = .ok (.aload_n 0, 1) := by decide +kernel
theorem d_Z_sum_1 : decode b_Z_sum 1 = .ok (.iconst 0, 1) := by decide +kernel
theorem d_Z_sum_2 : decode b_Z_sum 2 = .ok (.putfield 33, 3) := by decide +kernel
theorem d_Z_sum_5 : decode b_Z_sum 5 = .ok (.iload_n 1, 1) := by decide +kernel
theorem d_Z_sum_6 : decode b_Z_sum 6 = .ok (.ifCond .ne 10, 3) := by decide +kernel
theorem d_Z_sum_9 : decode b_Z_sum 9 = .ok (.aload_n 0, 1) := by decide +kernel
theorem d_Z_sum_10 : decode b_Z_sum 10 = .ok (.getfield 113, 3) := by decide +kernel
theorem d_Z_sum_13 : decode b_Z_sum 13 = .ok (.goto 42, 3) := by decide +kernel
theorem d_Z_sum_16 : decode b_Z_sum 16 = .ok (.iload_n 1, 1) := by decide +kernel
theorem d_Z_sum_17 : decode b_Z_sum 17 = .ok (.iconst 1, 1) := by decide +kernel
theorem d_Z_sum_18 : decode b_Z_sum 18 = .ok (.if_icmp .ne 10, 3) := by decide +kernel
theorem d_Z_sum_21 : decode b_Z_sum 21 = .ok (.aload_n 0, 1) := by decide +kernel
theorem d_Z_sum_22 : decode b_Z_sum 22 = .ok (.getfield 116, 3) := by decide +kernel
theorem d_Z_sum_25 : decode b_Z_sum 25 = .ok (.goto 30, 3) := by decide +kernel
theorem d_Z_sum_28 : decode b_Z_sum 28 = .ok (.iload_n 1, 1) := by decide +kernel
theorem d_Z_sum_29 : decode b_Z_sum 29 = .ok (.iconst 2, 1) := by decide +kernel
theorem d_Z_sum_30 : decode b_Z_sum 30 = .ok (.if_icmp .ne 10, 3) := by decide +kernel
theorem d_Z_sum_33 : decode b_Z_sum 33 = .ok (.aload_n 0, 1) := by decide +kernel
theorem d_Z_sum_34 : decode b_Z_sum 34 = .ok (.getfield 119, 3) := by decide +kernel
theorem d_Z_sum_37 : decode b_Z_sum 37 = .ok (.goto 18, 3) := by decide +kernel
theorem d_Z_sum_40 : decode b_Z_sum 40 = .ok (.iload_n 1, 1) := by decide +kernel
theorem d_Z_sum_41 : decode b_Z_sum 41 = .ok (.iconst 3, 1) := by decide +kernel
theorem d_Z_sum_42 : decode b_Z_sum 42 = .ok (.if_icmp .ne 10, 3) := by decide +kernel
theorem d_Z_sum_45 : decode b_Z_sum 45 = .ok (.aload_n 0, 1) := by decide +kernel
theorem d_Z_sum_46 : decode b_Z_sum 46 = .ok (.getfield 122, 3) := by decide +kernel
theorem d_Z_sum_49 : decode b_Z_sum 49 = .ok (.goto 6, 3) := by decide +kernel
theorem d_Z_sum_52 : decode b_Z_sum 52 = .ok (.ldc2_w 125, 3) := by decide +kernel
theorem d_Z_sum_55 : decode b_Z_sum 55 = .ok (.lreturn, 1) := by decide +kernel
theorem d_Z_split_0 : decode b_Z_split 0 = .ok (.aload_n 0, 1) := by decide +kernel
theorem d_Z_split_1 : decode b_Z_split 1 = .ok (.iconst 0, 1) := by decide +kernel
theorem d_Z_split_2 : decode b_Z_split 2 = .ok (.putfield 33, 3) := by decide +kernel
theorem d_Z_split_5 : decode b_Z_split 5 = .ok (.lload_n 1, 1) := by decide +kernel
theorem d_Z_split_6 : decode b_Z_split 6 = .ok (.lconst 0, 1) := by decide +kernel
theorem d_Z_split_7 : decode b_Z_split 7 = .ok (.lcmp, 1) := by decide +kernel
theorem d_Z_split_8 : decode b_Z_split 8 = .ok (.ifCond .lt 20, 3) := by decide +kernel
theorem d_Z_split_11 : decode b_Z_split 11 = .ok (.lload_n 1, 1) := by decide +kernel
theorem d_Z_split_12 : decode b_Z_split 12 = .ok (.ldc2_w 46, 3) := by decide +kernel
theorem d_Z_split_15 : decode b_Z_split 15 = .ok (.lcmp, 1) := by decide +kernel
theorem d_Z_split_16 : decode b_Z_split 16 = .ok (.ifCond .gt 12, 3) := by decide +kernel
theorem d_Z_split_19 : decode b_Z_split 19 = .ok (.iload_n 3, 1) := by decide +kernel
theorem d_Z_split_20 : decode b_Z_split 20 = .ok (.ifCond .lt 8, 3) := by decide +kernel
theorem d_Z_split_23 : decode b_Z_split 23 = .ok (.iload_n 3, 1) := by decide +kernel
theorem d_Z_split_24 : decode b_Z_split 24 = .ok (.iconst 2, 1) := by decide +kernel
theorem d_Z_split_25 : decode b_Z_split 25 = .ok (.if_icmp .le 6, 3) := by decide +kernel
theorem d_Z_split_28 : decode b_Z_split 28 = .ok (.bipush (-2), 2) := by decide +kernel
theorem d_Z_split_30 : decode b_Z_split 30 = .ok (.ireturn, 1) := by decide +kernel
theorem d_Z_split_31 : decode b_Z_split 31 = .ok (.lload_n 1, 1) := by decide +kernel
theorem d_Z_split_32 : decode b_Z_split 32 = .ok (.l2i, 1) := by decide +kernel
theorem d_Z_split_33 : decode b_Z_split 33 = .ok (.istore 4, 2) := by decide +kernel
theorem d_Z_split_35 : decode b_Z_split 35 = .ok (.iconst 0, 1) := by decide +kernel
theorem d_Z_split_36 : decode b_Z_split 36 = .ok (.istore 5, 2) := by decide +kernel
theorem d_Z_split_38 : decode b_Z_split 38 = .ok (.aload_n 0, 1) := by decide +kernel
theorem d_Z_split_39 : decode b_Z_split 39 = .ok (.iconst 4, 1) := by decide +kernel
theorem d_Z_split_40 : decode b_Z_split 40 = .ok (.iload 4, 2) := by decide +kernel
theorem d_Z_split_42 : decode b_Z_split 42 = .ok (.i2l, 1) := by decide +kernel
theorem d_Z_split_43 : decode b_Z_split 43 = .ok (.aload_n 0, 1) := by decide +kernel
theorem d_Z_split_44 : decode b_Z_split 44 = .ok (.getfield 56, 3) := by decide +kernel
theorem d_Z_split_47 : decode b_Z_split 47 = .ok (.i2l, 1) := by decide +kernel
theorem d_Z_split_48 : decode b_Z_split 48 = .ok (.invokevirtual 91, 3) := by decide +kernel
theorem d_Z_split_51 : decode b_Z_split 51 = .ok (.istore 6, 2) := by decide +kernel
theorem d_Z_split_53 : decode b_Z_split 53 = .ok (.bipush 50, 2) := by decide +kernel
theorem d_Z_split_55 : decode b_Z_split 55 = .ok (.istore 7, 2) := by decide +kernel
theorem d_Z_split_57 : decode b_Z_split 57 = .ok (.iload 7, 2) := by decide +kernel
theorem d_Z_split_59 : decode b_Z_split 59 = .ok (.sipush 401, 3) := by decide +kernel
theorem d_Z_split_62 : decode b_Z_split 62 = .ok (.if_icmp .ge 62, 3) := by decide +kernel
theorem d_Z_split_65 : decode b_Z_split 65 = .ok (.iload 7, 2) := by decide +kernel
theorem d_Z_split_67 : decode b_Z_split 67 = .ok (.iload 4, 2) := by decide +kernel
theorem d_Z_split_69 : decode b_Z_split 69 = .ok (.if_icmp .gt 55, 3) := by decide +kernel
theorem d_Z_split_72 : decode b_Z_split 72 = .ok (.iload 7, 2) := by decide +kernel
theorem d_Z_split_74 : decode b_Z_split 74 = .ok (.iload 7, 2) := by decide +kernel
theorem d_Z_split_76 : decode b_Z_split 76 = .ok (.iload 7, 2) := by decide +kernel
theorem d_Z_split_78 : decode b_Z_split 78 = .ok (.imul, 1) := by decide +kernel
theorem d_Z_split_79 : decode b_Z_split 79 = .ok (.sipush 200, 3) := by decide +kernel
theorem d_Z_split_82 : decode b_Z_split 82 = .ok (.idiv, 1) := by decide +kernel
theorem d_Z_split_83 : decode b_Z_split 83 = .ok (.iadd, 1) := by decide +kernel
theorem d_Z_split_84 : decode b_Z_split 84 = .ok (.aload_n 0, 1) := by decide +kernel
theorem d_Z_split_85 : decode b_Z_split 85 = .ok (.iconst 4, 1) := by decide +kernel
theorem d_Z_split_86 : decode b_Z_split 86 = .ok (.iload 4, 2) := by decide +kernel
theorem d_Z_split_88 : decode b_Z_split 88 = .ok (.iload 7, 2) := by decide +kernel
theorem d_Z_split_90 : decode b_Z_split 90 = .ok (.isub, 1) := by decide +kernel
theorem d_Z_split_91 : decode b_Z_split 91 = .ok (.i2l, 1) := by decide +kernel
theorem d_Z_split_92 : decode b_Z_split 92 = .ok (.aload_n 0, 1) := by decide +kernel
theorem d_Z_split_93 : decode b_Z_split 93 = .ok (.getfield 56, 3) := by decide +kernel
theorem d_Z_split_96 : decode b_Z_split 96 = .ok (.i2l, 1) := by decide +kernel
theorem d_Z_split_97 : decode b_Z_split 97 = .ok (.invokevirtual 91, 3) := by decide +kernel
theorem d_Z_split_100 : decode b_Z_split 100 = .ok (.iadd, 1) := by decide +kernel
theorem d_Z_split_101 : decode b_Z_split 101 = .ok (.istore 8, 2) := by decide +kernel
theorem d_Z_split_103 : decode b_Z_split 103 = .ok (.iload 8, 2) := by decide +kernel
theorem d_Z_split_105 : decode b_Z_split 105 = .ok (.iload 6, 2) := by decide +kernel
theorem d_Z_split_107 : decode b_Z_split 107 = .ok (.if_icmp .ge 11, 3) := by decide +kernel
theorem d_Z_split_110 : decode b_Z_split 110 = .ok (.iload 7, 2) := by decide +kernel
theorem d_Z_split_112 : decode b_Z_split 112 = .ok (.istore 5, 2) := by decide +kernel
theorem d_Z_split_114 : decode b_Z_split 114 = .ok (.iload 8, 2) := by decide +kernel
theorem d_Z_split_116 : decode b_Z_split 116 = .ok (.istore 6, 2) := by decide +kernel
theorem d_Z_split_118 : decode b_Z_split 118 = .ok (.iinc 7 50, 3) := by decide +kernel
theorem d_Z_split_121 : decode b_Z_split 121 = .ok (.goto (-64), 3) := by decide +kernel
theorem d_Z_split_124 : decode b_Z_split 124 = .ok (.iload_n 3, 1) := by decide +kernel
theorem d_Z_split_125 : decode b_Z_split 125 = .ok (.ifCond .ne 11, 3) := by decide +kernel
theorem d_Z_split_128 : decode b_Z_split 128 = .ok (.iload 4, 2) := by decide +kernel
theorem d_Z_split_130 : decode b_Z_split 130 = .ok (.iload 5, 2) := by decide +kernel
theorem d_Z_split_132 : decode b_Z_split 132 = .ok (.isub, 1) := by decide +kernel
theorem d_Z_split_133 : decode b_Z_split 133 = .ok (.goto 15, 3) := by decide +kernel
theorem d_Z_split_136 : decode b_Z_split 136 = .ok (.iload_n 3, 1) := by decide +kernel
theorem d_Z_split_137 : decode b_Z_split 137 = .ok (.iconst 1, 1) := by decide +kernel
theorem d_Z_split_138 : decode b_Z_split 138 = .ok (.if_icmp .ne 8, 3) := by decide +kernel
theorem d_Z_split_141 : decode b_Z_split 141 = .ok (.iload 5, 2) := by decide +kernel
theorem d_Z_split_143 : decode b_Z_split 143 = .ok (.goto 5, 3) := by decide +kernel
theorem d_Z_split_146 : decode b_Z_split 146 = .ok (.iload 6, 2) := by decide +kernel
theorem d_Z_split_148 : decode b_Z_split 148 = .ok (.ireturn, 1) := by decide +kernel
theorem d_Z_limp_0 : decode b_Z_limp 0 = .ok (.aload_n 0, 1) := by decide +kernel
theorem d_Z_limp_1 : decode b_Z_limp 1 = .ok (.iconst 0, 1) := by decide +kernel
theorem d_Z_limp_2 : decode b_Z_limp 2 = .ok (.putfield 33, 3) := by decide +kernel
theorem d_Z_limp_5 : decode b_Z_limp 5 = .ok (.aload_n 0, 1) := by decide +kernel
theorem d_Z_limp_6 : decode b_Z_limp 6 = .ok (.getfield 85, 3) := by decide +kernel
theorem d_Z_limp_9 : decode b_Z_limp 9 = .ok (.istore_n 2, 1) := by decide +kernel
theorem d_Z_limp_10 : decode b_Z_limp 10 = .ok (.aload_n 0, 1) := by decide +kernel
theorem d_Z_limp_11 : decode b_Z_limp 11 = .ok (.getfield 78, 3) := by decide +kernel
theorem d_Z_limp_14 : decode b_Z_limp 14 = .ok (.istore_n 3, 1) := by decide +kernel
theorem d_Z_limp_15 : decode b_Z_limp 15 = .ok (.aload_n 0, 1) := by decide +kernel
theorem d_Z_limp_16 : decode b_Z_limp 16 = .ok (.iload_n 1, 1) := by decide +kernel
theorem d_Z_limp_17 : decode b_Z_limp 17 = .ok (.putfield 85, 3) := by decide +kernel
theorem d_Z_limp_20 : decode b_Z_limp 20 = .ok (.iload_n 1, 1) := by decide +kernel
theorem d_Z_limp_21 : decode b_Z_limp 21 = .ok (.ifCond .ne 18, 3) := by decide +kernel
theorem d_Z_limp_24 : decode b_Z_limp 24 = .ok (.aload_n 0, 1) := by decide +kernel
theorem d_Z_limp_25 : decode b_Z_limp 25 = .ok (.iconst 0, 1) := by decide +kernel
theorem d_Z_limp_26 : decode b_Z_limp 26 = .ok (.putfield 78, 3) := by decide +kernel
theorem d_Z_limp_29 : decode b_Z_limp 29 = .ok (.aload_n 0, 1) := by decide +kernel
theorem d_Z_limp_30 : decode b_Z_limp 30 = .ok (.iconst 0, 1) := by decide +kernel
theorem d_Z_limp_31 : decode b_Z_limp 31 = .ok (.putfield 75, 3) := by decide +kernel
theorem d_Z_limp_34 : decode b_Z_limp 34 = .ok (.aload_n 0, 1) := by decide +kernel
theorem d_Z_limp_35 : decode b_Z_limp 35 = .ok (.iconst 0, 1) := by decide +kernel
theorem d_Z_limp_36 : decode b_Z_limp 36 = .ok (.putfield 127, 3) := by decide +kernel
theorem d_Z_limp_39 : decode b_Z_limp 39 = .ok (.iload_n 2, 1) := by decide +kernel
theorem d_Z_limp_40 : decode b_Z_limp 40 = .ok (.iload_n 1, 1) := by decide +kernel
theorem d_Z_limp_41 : decode b_Z_limp 41 = .ok (.if_icmp .ne 11, 3) := by decide +kernel
theorem d_Z_limp_44 : decode b_Z_limp 44 = .ok (.iload_n 1, 1) := by decide +kernel
theorem d_Z_limp_45 : decode b_Z_limp 45 = .ok (.ifCond .ne 11, 3) := by decide +kernel
theorem d_Z_limp_48 : decode b_Z_limp 48 = .ok (.iload_n 3, 1) := by decide +kernel
theorem d_Z_limp_49 : decode b_Z_limp 49 = .ok (.ifCond .eq 7, 3) := by decide +kernel
theorem d_Z_limp_52 : decode b_Z_limp 52 = .ok (.iconst 1, 1) := by decide +kernel
theorem d_Z_limp_53 : decode b_Z_limp 53 = .ok (.goto 4, 3) := by decide +kernel
theorem d_Z_limp_56 : decode b_Z_limp 56 = .ok (.iconst 0, 1) := by decide +kernel
theorem d_Z_limp_57 : decode b_Z_limp 57 = .ok (.ireturn, 1) := by decide +kernel
theorem d_Z_init_0 : decode b_Z_init 0 = .ok (.aload_n 0, 1) := by decide +kernel
theorem d_Z_init_1 : decode b_Z_init 1 = .ok (.invokespecial 1, 3) := by decide +kernel
theorem d_Z_init_4 : decode b_Z_init 4 = .ok (.aload_n 0, 1) := by decide +kernel
theorem d_Z_init_5 : decode b_Z_init 5 = .ok (.sipush 320, 3) := by decide +kernel
theorem d_Z_init_8 : decode b_Z_init 8 = .ok (.newarray .int, 2) := by decide +kernel
theorem d_Z_init_10 : decode b_Z_init 10 = .ok (.putfield 7, 3) := by decide +kernel
theorem d_Z_init_13 : decode b_Z_init 13 = .ok (.aload_n 0, 1) := by decide +kernel
theorem d_Z_init_14 : decode b_Z_init 14 = .ok (.iconst 3, 1) := by decide +kernel
theorem d_Z_init_15 : decode b_Z_init 15 = .ok (.newarray .boolean, 2) := by decide +kernel
theorem d_Z_init_17 : decode b_Z_init 17 = .ok (.putfield 13, 3) := by decide +kernel
theorem d_Z_init_20 : decode b_Z_init 20 = .ok (.aload_n 0, 1) := by decide +kernel
theorem d_Z_init_21 : decode b_Z_init 21 = .ok (.bipush 16, 2) := by decide +kernel
theorem d_Z_init_23 : decode b_Z_init 23 = .ok (.newarray .int, 2) := by decide +kernel
theorem d_Z_init_25 : decode b_Z_init 25 = .ok (.putfield 17, 3) := by decide +kernel
theorem d_Z_init_28 : decode b_Z_init 28 = .ok (.aload_n 0, 1) := by decide +kernel
theorem d_Z_init_29 : decode b_Z_init 29 = .ok (.bipush 16, 2) := by decide +kernel
theorem d_Z_init_31 : decode b_Z_init 31 = .ok (.newarray .int, 2) := by decide +kernel
theorem d_Z_init_33 : decode b_Z_init 33 = .ok (.putfield 20, 3) := by decide +kernel
theorem d_Z_init_36 : decode b_Z_init 36 = .ok (.aload_n 0, 1) := by decide +kernel
theorem d_Z_init_37 : decode b_Z_init 37 = .ok (.sipush 800, 3) := by decide +kernel
theorem d_Z_init_40 : decode b_Z_init 40 = .ok (.putfield 23, 3) := by decide +kernel
theorem d_Z_init_43 : decode b_Z_init 43 = .ok (.aload_n 0, 1) := by decide +kernel
theorem d_Z_init_44 : decode b_Z_init 44 = .ok (.sipush 1000, 3) := by decide +kernel
theorem d_Z_init_47 : decode b_Z_init 47 = .ok (.putfield 27, 3) := by decide +kernel
theorem d_Z_init_50 : decode b_Z_init 50 = .ok (.aload_n 0, 1) := by decide +kernel
theorem d_Z_init_51 : decode b_Z_init 51 = .ok (.iconst 4, 1) := by decide +kernel
theorem d_Z_init_52 : decode b_Z_init 52 = .ok (.putfield 30, 3) := by decide +kernel
theorem d_Z_init_55 : decode b_Z_init 55 = .ok (.return_, 1) := by decide +kernel
end
section
abbrev w_Ta_isPlace : List Cond := .code y_Ta_isPlace b_Ta_isPlace 2 (some .boolean) :: wA_
abbrev w_Ta_between : List Cond := .code y_Ta_between b_Ta_between 2 (some .int) :: wA_
abbrev w_Ta_indexOf : List Cond := .code y_Ta_indexOf b_Ta_indexOf 3 (some .int) :: wA_
abbrev w_Ta_put : List Cond := .code y_Ta_put b_Ta_put 7 (some .int) :: wA_
abbrev w_Ta_joined : List Cond := .code y_Ta_joined b_Ta_joined 12 (some .int) :: wA_
abbrev w_Wi_clear : List Cond := .code y_Wi_clear b_Wi_clear 2 none :: wA_
abbrev w_Wi_add : List Cond := .code y_Wi_add b_Wi_add 3 (some .int) :: wA_
abbrev w_Wi_appliedTo : List Cond := .code y_Wi_appliedTo b_Wi_appliedTo 4 (some .int) :: wA_
abbrev w_Ma_floorDiv : List Cond := .code y_Ma_floorDiv b_Ma_floorDiv 3 (some .int) :: wA_
abbrev w_Id_forget : List Cond := .code y_Id_forget b_Id_forget 1 none :: wA_
abbrev w_Id_torqueAt : List Cond := .code y_Id_torqueAt b_Id_torqueAt 5 (some .int) :: wA_
abbrev w_To_count : List Cond := .code y_To_count b_To_count 5 none :: wA_
abbrev w_X_isUpTo : List Cond := .code y_X_isUpTo b_X_isUpTo 4 (some .boolean) :: wA_
abbrev w_X_ramped : List Cond := .code y_X_ramped b_X_ramped 2 (some .int) :: wA_
abbrev w_X_drives : List Cond := .code y_X_drives b_X_drives 1 (some .boolean) :: wA_
abbrev w_X_isTooMuch : List Cond := .code y_X_isTooMuch b_X_isTooMuch 3 (some .boolean) :: wA_
abbrev w_X_takeSpeed : List Cond := .code y_X_takeSpeed b_X_takeSpeed 2 none :: wA_
abbrev w_X_takeTracks : List Cond := .code y_X_takeTracks b_X_takeTracks 6 none :: wA_
abbrev w_X_chooseMode : List Cond := .code y_X_chooseMode b_X_chooseMode 1 (some .int) :: wA_
abbrev w_X_pedalWanted : List Cond := .code y_X_pedalWanted b_X_pedalWanted 2 (some .int) :: wA_
abbrev w_X_chooseWanted : List Cond := .code y_X_chooseWanted b_X_chooseWanted 2 (some .int) :: wA_
abbrev w_X_isFuelCut : List Cond := .code y_X_isFuelCut b_X_isFuelCut 2 (some .boolean) :: wA_
abbrev w_X_costTogether : List Cond := .code y_X_costTogether b_X_costTogether 3 (some .int) :: wA_
abbrev w_X_cheapestMotor : List Cond := .code y_X_cheapestMotor b_X_cheapestMotor 6 (some .int) :: wA_
abbrev w_X_table : List Cond := .code y_X_table b_X_table 6 (some .int) :: wA_
abbrev w_X_step : List Cond := .code y_X_step b_X_step 7 (some .int) :: wA_
abbrev w_X_torque : List Cond := .code y_X_torque b_X_torque 1 (some .long) :: wA_
abbrev w_X_value : List Cond := .code y_X_value b_X_value 2 (some .long) :: wA_
abbrev w_X_wish : List Cond := .code y_X_wish b_X_wish 4 (some .int) :: wA_
abbrev w_X_bound : List Cond := .code y_X_bound b_X_bound 4 (some .int) :: wA_
abbrev w_X_monitor : List Cond := .code y_X_monitor b_X_monitor 3 (some .int) :: wA_
abbrev w_X_sensor : List Cond := .code y_X_sensor b_X_sensor 4 (some .int) :: wA_
abbrev w_X_cylinder : List Cond := .code y_X_cylinder b_X_cylinder 2 (some .int) :: wA_
abbrev w_X_idle : List Cond := .code y_X_idle b_X_idle 4 (some .int) :: wA_
abbrev w_X_sum : List Cond := .code y_X_sum b_X_sum 2 (some .long) :: wA_
abbrev w_X_split : List Cond := .code y_X_split b_X_split 6 (some .int) :: wA_
abbrev w_X_limp : List Cond := .code y_X_limp b_X_limp 3 (some .int) :: wA_
abbrev w_Ta_init : List Cond := .code y_Ta_init b_Ta_init 1 none :: wA_
abbrev w_Wi_init : List Cond := .code y_Wi_init b_Wi_init 1 none :: wA_
abbrev w_Id_init : List Cond := .code y_Id_init b_Id_init 1 none :: wA_
abbrev w_To_init : List Cond := .code y_To_init b_To_init 1 none :: wA_
abbrev w_X_init : List Cond := .code y_X_init b_X_init 1 none :: wA_
abbrev w_Z_down : List Cond := .code y_Z_down b_Z_down 6 (some .long) :: wA_
abbrev w_Z_v : List Cond := .code y_Z_v b_Z_v 4 (some .int) :: wA_
abbrev w_Z_valueAt : List Cond := .code y_Z_valueAt b_Z_valueAt 16 (some .int) :: wA_
abbrev w_Z_takeWishes : List Cond := .code y_Z_takeWishes b_Z_takeWishes 4 none :: wA_
abbrev w_Z_idles : List Cond := .code y_Z_idles b_Z_idles 6 none :: wA_
abbrev w_Z_thrown : List Cond := .code y_Z_thrown b_Z_thrown 1 (some .int) :: wA_
abbrev w_Z_table : List Cond := .code y_Z_table b_Z_table 7 (some .int) :: wA_
abbrev w_Z_step : List Cond := .code y_Z_step b_Z_step 15 (some .int) :: wA_
abbrev w_Z_torque : List Cond := .code y_Z_torque b_Z_torque 1 (some .long) :: wA_
abbrev w_Z_value : List Cond := .code y_Z_value b_Z_value 2 (some .long) :: wA_
abbrev w_Z_wish : List Cond := .code y_Z_wish b_Z_wish 4 (some .int) :: wA_
abbrev w_Z_bound : List Cond := .code y_Z_bound b_Z_bound 4 (some .int) :: wA_
abbrev w_Z_monitor : List Cond := .code y_Z_monitor b_Z_monitor 3 (some .int) :: wA_
abbrev w_Z_sensor : List Cond := .code y_Z_sensor b_Z_sensor 4 (some .int) :: wA_
abbrev w_Z_cylinder : List Cond := .code y_Z_cylinder b_Z_cylinder 2 (some .int) :: wA_
abbrev w_Z_period : List Cond := .code y_Z_period b_Z_period 3 (some .long) :: wA_
abbrev w_Z_idle : List Cond := .code y_Z_idle b_Z_idle 4 (some .int) :: wA_
abbrev w_Z_sum : List Cond := .code y_Z_sum b_Z_sum 2 (some .long) :: wA_
abbrev w_Z_split : List Cond := .code y_Z_split b_Z_split 9 (some .int) :: wA_
abbrev w_Z_limp : List Cond := .code y_Z_limp b_Z_limp 4 (some .int) :: wA_
abbrev w_Z_init : List Cond := .code y_Z_init b_Z_init 1 none :: wA_
theorem in_Ta : ∀ w ∈ u_ws R_Ta F_Ta 1, w ∈ wA_ := by decide +kernel
theorem in_Wi : ∀ w ∈ u_ws R_Wi F_Wi 2, w ∈ wA_ := by decide +kernel
theorem in_Id : ∀ w ∈ u_ws R_Id F_Id 2, w ∈ wA_ := by decide +kernel
theorem in_To : ∀ w ∈ u_ws R_To F_To 4, w ∈ wA_ := by decide +kernel
theorem in_X : ∀ w ∈ u_ws R_X F_X 19, w ∈ wA_ := by decide +kernel
theorem in_Z : ∀ w ∈ u_ws R_Z F_Z 26, w ∈ wA_ := by decide +kernel
theorem mw_0 : (Cond.methodLink R_Ta 21 Lib.Math.min.name) ∈ wA_ := by decide +kernel
theorem mw_1 : (Cond.static Lib.Math.min.name) ∈ wA_ := by decide +kernel
theorem mw_2 : (Cond.initialized "java/lang/Math") ∈ wA_ := by decide +kernel
theorem mw_3 : (Cond.code Lib.Math.min.name Lib.Math.min.code 2 (some .int)) ∈ wA_ := by decide +kernel
theorem mw_4 : (Cond.methodLink R_Ta 27 Lib.Math.max.name) ∈ wA_ := by decide +kernel
theorem mw_5 : (Cond.static Lib.Math.max.name) ∈ wA_ := by decide +kernel
theorem mw_6 : (Cond.code Lib.Math.max.name Lib.Math.max.code 2 (some .int)) ∈ wA_ := by decide +kernel
theorem mw_7 : (Cond.fieldLink R_Ta 9 "TorqueRows$Tables" "values" "[I") ∈ wA_ := by decide +kernel
theorem mw_8 : (Cond.code y_Ta_indexOf b_Ta_indexOf 3 (some .int)) ∈ wA_ := by decide +kernel
theorem mw_9 : (Cond.initialized R_Ta) ∈ wA_ := by decide +kernel
theorem mw_10 : (Cond.static y_Ta_indexOf) ∈ wA_ := by decide +kernel
theorem mw_11 : (Cond.methodLink R_Ta 13 y_Ta_indexOf) ∈ wA_ := by decide +kernel
theorem mw_12 : (Cond.constant R_Ta 26 128000) ∈ wA_ := by decide +kernel
theorem mw_13 : (Cond.code y_Ta_between b_Ta_between 2 (some .int)) ∈ wA_ := by decide +kernel
theorem mw_14 : (Cond.static y_Ta_between) ∈ wA_ := by decide +kernel
theorem mw_15 : (Cond.methodLink R_Ta 17 y_Ta_between) ∈ wA_ := by decide +kernel
theorem mw_16 : (Cond.fieldLink R_Wi 9 "TorqueRows$Wishes" "least" "[I") ∈ wA_ := by decide +kernel
theorem mw_17 : (Cond.fieldLink R_Wi 16 "TorqueRows$Wishes" "waiting" "I") ∈ wA_ := by decide +kernel
theorem mw_18 : (Cond.methodLink R_Wi 20 Lib.Math.max.name) ∈ wA_ := by decide +kernel
theorem mw_19 : (Cond.methodLink R_Wi 26 Lib.Math.min.name) ∈ wA_ := by decide +kernel
theorem mw_20 : (Cond.fieldLink R_Id 13 "TorqueRows$Idling" "stored" "I") ∈ wA_ := by decide +kernel
theorem mw_21 : (Cond.fieldLink R_Id 7 "TorqueRows$Idling" "aim" "I") ∈ wA_ := by decide +kernel
theorem mw_22 : (Cond.methodLink R_Id 22 Lib.Math.min.name) ∈ wA_ := by decide +kernel
theorem mw_23 : (Cond.methodLink R_Id 25 Lib.Math.max.name) ∈ wA_ := by decide +kernel
theorem mw_24 : (Cond.code y_Ma_floorDiv b_Ma_floorDiv 3 (some .int)) ∈ wA_ := by decide +kernel
theorem mw_25 : (Cond.static y_Ma_floorDiv) ∈ wA_ := by decide +kernel
theorem mw_26 : (Cond.methodLink R_Id 16 y_Ma_floorDiv) ∈ wA_ := by decide +kernel
theorem mw_27 : (Cond.fieldLink R_To 7 "TorqueRows$Totals" "steps" "J") ∈ wA_ := by decide +kernel
theorem mw_28 : (Cond.fieldLink R_To 13 "TorqueRows$Totals" "work" "J") ∈ wA_ := by decide +kernel
theorem mw_29 : (Cond.fieldLink R_To 16 "TorqueRows$Totals" "fuel" "J") ∈ wA_ := by decide +kernel
theorem mw_30 : (Cond.fieldLink R_To 19 "TorqueRows$Totals" "stops" "J") ∈ wA_ := by decide +kernel
theorem mw_31 : (Cond.methodLink R_X 91 Lib.Math.min.name) ∈ wA_ := by decide +kernel
theorem mw_32 : (Cond.methodLink R_X 207 Lib.Math.max.name) ∈ wA_ := by decide +kernel
theorem mw_33 : (Cond.fieldLink R_X 82 "TorqueRows" "lastMode" "I") ∈ wA_ := by decide +kernel
theorem mw_34 : (Cond.fieldLink R_X 97 "TorqueRows" "lastWanted" "I") ∈ wA_ := by decide +kernel
theorem mw_35 : (Cond.fieldLink R_X 67 "TorqueRows" "torqueBefore" "I") ∈ wA_ := by decide +kernel
theorem mw_36 : (Cond.fieldLink R_X 37 "TorqueRows" "lost" "[Z") ∈ wA_ := by decide +kernel
theorem mw_37 : (Cond.fieldLink R_X 107 "TorqueRows" "lastSpeed" "I") ∈ wA_ := by decide +kernel
theorem mw_38 : (Cond.methodLink R_X 189 Lib.Math.abs.name) ∈ wA_ := by decide +kernel
theorem mw_39 : (Cond.static Lib.Math.abs.name) ∈ wA_ := by decide +kernel
theorem mw_40 : (Cond.code Lib.Math.abs.name Lib.Math.abs.code 1 (some .int)) ∈ wA_ := by decide +kernel
theorem mw_41 : (Cond.fieldLink R_X 130 "TorqueRows" "different" "I") ∈ wA_ := by decide +kernel
theorem mw_42 : (Cond.fieldLink R_X 141 "TorqueRows" "stopped" "Z") ∈ wA_ := by decide +kernel
theorem mw_43 : (Cond.fieldLink R_X 85 "TorqueRows" "lastPedal" "I") ∈ wA_ := by decide +kernel
theorem mw_44 : (Cond.fieldLink R_X 186 "TorqueRows" "limpOn" "Z") ∈ wA_ := by decide +kernel
theorem mw_45 : (Cond.fieldLink R_X 10 "TorqueRows" "tables" "LTorqueRows$Tables;") ∈ wA_ := by decide +kernel
theorem mw_46 : (Cond.code y_Ta_joined b_Ta_joined 12 (some .int)) ∈ wA_ := by decide +kernel
theorem mw_47 : (Cond.instanceMethod y_Ta_joined) ∈ wA_ := by decide +kernel
theorem mw_48 : (Cond.selects R_Ta y_Ta_joined y_Ta_joined) ∈ wA_ := by decide +kernel
theorem mw_49 : (Cond.fieldLink R_X 19 "TorqueRows" "wishes" "LTorqueRows$Wishes;") ∈ wA_ := by decide +kernel
theorem mw_50 : (Cond.fieldLink R_X 26 "TorqueRows" "idling" "LTorqueRows$Idling;") ∈ wA_ := by decide +kernel
theorem mw_51 : (Cond.code y_X_drives b_X_drives 1 (some .boolean)) ∈ wA_ := by decide +kernel
theorem mw_52 : (Cond.initialized R_X) ∈ wA_ := by decide +kernel
theorem mw_53 : (Cond.instanceMethod y_X_drives) ∈ wA_ := by decide +kernel
theorem mw_54 : (Cond.selects R_X y_X_drives y_X_drives) ∈ wA_ := by decide +kernel
theorem mw_55 : (Cond.methodLink R_X 100 y_X_drives) ∈ wA_ := by decide +kernel
theorem mw_56 : (Cond.code y_Wi_clear b_Wi_clear 2 none) ∈ wA_ := by decide +kernel
theorem mw_57 : (Cond.initialized R_Wi) ∈ wA_ := by decide +kernel
theorem mw_58 : (Cond.instanceMethod y_Wi_clear) ∈ wA_ := by decide +kernel
theorem mw_59 : (Cond.selects R_Wi y_Wi_clear y_Wi_clear) ∈ wA_ := by decide +kernel
theorem mw_60 : (Cond.code y_Id_forget b_Id_forget 1 none) ∈ wA_ := by decide +kernel
theorem mw_61 : (Cond.initialized R_Id) ∈ wA_ := by decide +kernel
theorem mw_62 : (Cond.instanceMethod y_Id_forget) ∈ wA_ := by decide +kernel
theorem mw_63 : (Cond.selects R_Id y_Id_forget y_Id_forget) ∈ wA_ := by decide +kernel
theorem mw_64 : (Cond.code y_Id_torqueAt b_Id_torqueAt 5 (some .int)) ∈ wA_ := by decide +kernel
theorem mw_65 : (Cond.instanceMethod y_Id_torqueAt) ∈ wA_ := by decide +kernel
theorem mw_66 : (Cond.selects R_Id y_Id_torqueAt y_Id_torqueAt) ∈ wA_ := by decide +kernel
theorem mw_67 : (Cond.code y_X_pedalWanted b_X_pedalWanted 2 (some .int)) ∈ wA_ := by decide +kernel
theorem mw_68 : (Cond.instanceMethod y_X_pedalWanted) ∈ wA_ := by decide +kernel
theorem mw_69 : (Cond.selects R_X y_X_pedalWanted y_X_pedalWanted) ∈ wA_ := by decide +kernel
theorem mw_70 : (Cond.methodLink R_X 192 y_X_pedalWanted) ∈ wA_ := by decide +kernel
theorem mw_71 : (Cond.code y_Wi_appliedTo b_Wi_appliedTo 4 (some .int)) ∈ wA_ := by decide +kernel
theorem mw_72 : (Cond.instanceMethod y_Wi_appliedTo) ∈ wA_ := by decide +kernel
theorem mw_73 : (Cond.selects R_Wi y_Wi_appliedTo y_Wi_appliedTo) ∈ wA_ := by decide +kernel
theorem mw_74 : (Cond.fieldLink R_X 64 "TorqueRows" "torqueNow" "I") ∈ wA_ := by decide +kernel
theorem mw_75 : (Cond.code y_X_costTogether b_X_costTogether 3 (some .int)) ∈ wA_ := by decide +kernel
theorem mw_76 : (Cond.instanceMethod y_X_costTogether) ∈ wA_ := by decide +kernel
theorem mw_77 : (Cond.selects R_X y_X_costTogether y_X_costTogether) ∈ wA_ := by decide +kernel
theorem mw_78 : (Cond.methodLink R_X 183 y_X_costTogether) ∈ wA_ := by decide +kernel
theorem mw_79 : (Cond.constantLong R_X 52 1000) ∈ wA_ := by decide +kernel
theorem mw_80 : (Cond.code y_Ta_isPlace b_Ta_isPlace 2 (some .boolean)) ∈ wA_ := by decide +kernel
theorem mw_81 : (Cond.static y_Ta_isPlace) ∈ wA_ := by decide +kernel
theorem mw_82 : (Cond.code y_X_isUpTo b_X_isUpTo 4 (some .boolean)) ∈ wA_ := by decide +kernel
theorem mw_83 : (Cond.static y_X_isUpTo) ∈ wA_ := by decide +kernel
theorem mw_84 : (Cond.methodLink R_X 54 y_X_isUpTo) ∈ wA_ := by decide +kernel
theorem mw_85 : (Cond.code y_Ta_put b_Ta_put 7 (some .int)) ∈ wA_ := by decide +kernel
theorem mw_86 : (Cond.instanceMethod y_Ta_put) ∈ wA_ := by decide +kernel
theorem mw_87 : (Cond.selects R_Ta y_Ta_put y_Ta_put) ∈ wA_ := by decide +kernel
theorem mw_88 : (Cond.constantLong R_X 62 10000) ∈ wA_ := by decide +kernel
theorem mw_89 : (Cond.fieldLink R_X 41 "TorqueRows" "boundNow" "I") ∈ wA_ := by decide +kernel
theorem mw_90 : (Cond.fieldLink R_X 114 "TorqueRows" "lastAir" "I") ∈ wA_ := by decide +kernel
theorem mw_91 : (Cond.fieldLink R_X 120 "TorqueRows" "lastFuel" "I") ∈ wA_ := by decide +kernel
theorem mw_92 : (Cond.fieldLink R_X 33 "TorqueRows" "totals" "LTorqueRows$Totals;") ∈ wA_ := by decide +kernel
theorem mw_93 : (Cond.code y_X_takeSpeed b_X_takeSpeed 2 none) ∈ wA_ := by decide +kernel
theorem mw_94 : (Cond.instanceMethod y_X_takeSpeed) ∈ wA_ := by decide +kernel
theorem mw_95 : (Cond.selects R_X y_X_takeSpeed y_X_takeSpeed) ∈ wA_ := by decide +kernel
theorem mw_96 : (Cond.methodLink R_X 70 y_X_takeSpeed) ∈ wA_ := by decide +kernel
theorem mw_97 : (Cond.code y_X_takeTracks b_X_takeTracks 6 none) ∈ wA_ := by decide +kernel
theorem mw_98 : (Cond.instanceMethod y_X_takeTracks) ∈ wA_ := by decide +kernel
theorem mw_99 : (Cond.selects R_X y_X_takeTracks y_X_takeTracks) ∈ wA_ := by decide +kernel
theorem mw_100 : (Cond.methodLink R_X 74 y_X_takeTracks) ∈ wA_ := by decide +kernel
theorem mw_101 : (Cond.code y_X_chooseMode b_X_chooseMode 1 (some .int)) ∈ wA_ := by decide +kernel
theorem mw_102 : (Cond.instanceMethod y_X_chooseMode) ∈ wA_ := by decide +kernel
theorem mw_103 : (Cond.selects R_X y_X_chooseMode y_X_chooseMode) ∈ wA_ := by decide +kernel
theorem mw_104 : (Cond.methodLink R_X 78 y_X_chooseMode) ∈ wA_ := by decide +kernel
theorem mw_105 : (Cond.code y_X_chooseWanted b_X_chooseWanted 2 (some .int)) ∈ wA_ := by decide +kernel
theorem mw_106 : (Cond.instanceMethod y_X_chooseWanted) ∈ wA_ := by decide +kernel
theorem mw_107 : (Cond.selects R_X y_X_chooseWanted y_X_chooseWanted) ∈ wA_ := by decide +kernel
theorem mw_108 : (Cond.methodLink R_X 88 y_X_chooseWanted) ∈ wA_ := by decide +kernel
theorem mw_109 : (Cond.code y_X_isFuelCut b_X_isFuelCut 2 (some .boolean)) ∈ wA_ := by decide +kernel
theorem mw_110 : (Cond.instanceMethod y_X_isFuelCut) ∈ wA_ := by decide +kernel
theorem mw_111 : (Cond.selects R_X y_X_isFuelCut y_X_isFuelCut) ∈ wA_ := by decide +kernel
theorem mw_112 : (Cond.methodLink R_X 117 y_X_isFuelCut) ∈ wA_ := by decide +kernel
theorem mw_113 : (Cond.code y_To_count b_To_count 5 none) ∈ wA_ := by decide +kernel
theorem mw_114 : (Cond.initialized R_To) ∈ wA_ := by decide +kernel
theorem mw_115 : (Cond.instanceMethod y_To_count) ∈ wA_ := by decide +kernel
theorem mw_116 : (Cond.selects R_To y_To_count y_To_count) ∈ wA_ := by decide +kernel
theorem mw_117 : (Cond.code y_X_ramped b_X_ramped 2 (some .int)) ∈ wA_ := by decide +kernel
theorem mw_118 : (Cond.static y_X_ramped) ∈ wA_ := by decide +kernel
theorem mw_119 : (Cond.methodLink R_X 104 y_X_ramped) ∈ wA_ := by decide +kernel
theorem mw_120 : (Cond.constantLong R_X 133 (-2)) ∈ wA_ := by decide +kernel
theorem mw_121 : (Cond.code y_Wi_add b_Wi_add 3 (some .int)) ∈ wA_ := by decide +kernel
theorem mw_122 : (Cond.instanceMethod y_Wi_add) ∈ wA_ := by decide +kernel
theorem mw_123 : (Cond.selects R_Wi y_Wi_add y_Wi_add) ∈ wA_ := by decide +kernel
theorem mw_124 : (Cond.fieldLink R_X 149 "TorqueRows" "tooMuch" "I") ∈ wA_ := by decide +kernel
theorem mw_125 : (Cond.code y_X_isTooMuch b_X_isTooMuch 3 (some .boolean)) ∈ wA_ := by decide +kernel
theorem mw_126 : (Cond.instanceMethod y_X_isTooMuch) ∈ wA_ := by decide +kernel
theorem mw_127 : (Cond.selects R_X y_X_isTooMuch y_X_isTooMuch) ∈ wA_ := by decide +kernel
theorem mw_128 : (Cond.methodLink R_X 145 y_X_isTooMuch) ∈ wA_ := by decide +kernel
theorem mw_129 : (Cond.fieldLink R_X 45 "TorqueRows" "cylinders" "I") ∈ wA_ := by decide +kernel
theorem mw_130 : (Cond.constantLong R_X 161 3000) ∈ wA_ := by decide +kernel
theorem mw_131 : (Cond.code y_X_cheapestMotor b_X_cheapestMotor 6 (some .int)) ∈ wA_ := by decide +kernel
theorem mw_132 : (Cond.instanceMethod y_X_cheapestMotor) ∈ wA_ := by decide +kernel
theorem mw_133 : (Cond.selects R_X y_X_cheapestMotor y_X_cheapestMotor) ∈ wA_ := by decide +kernel
theorem mw_134 : (Cond.methodLink R_X 179 y_X_cheapestMotor) ∈ wA_ := by decide +kernel
theorem mw_135 : (Cond.methodLink R_Ta 1 Lib.objectInit) ∈ wA_ := by decide +kernel
theorem mw_136 : (Cond.instanceMethod Lib.objectInit) ∈ wA_ := by decide +kernel
theorem mw_137 : (Cond.code Lib.objectInit ⟨#[0xb1]⟩ 1 none) ∈ wA_ := by decide +kernel
theorem mw_138 : (Cond.arrayClass .int) ∈ wA_ := by decide +kernel
theorem mw_139 : (Cond.methodLink R_Wi 1 Lib.objectInit) ∈ wA_ := by decide +kernel
theorem mw_140 : (Cond.methodLink R_Wi 13 y_Wi_clear) ∈ wA_ := by decide +kernel
theorem mw_141 : (Cond.methodLink R_Id 1 Lib.objectInit) ∈ wA_ := by decide +kernel
theorem mw_142 : (Cond.methodLink R_To 1 Lib.objectInit) ∈ wA_ := by decide +kernel
theorem mw_143 : (Cond.methodLink R_X 1 Lib.objectInit) ∈ wA_ := by decide +kernel
theorem mw_144 : (Cond.classLink R_X 7 R_Ta) ∈ wA_ := by decide +kernel
theorem mw_145 : (Cond.instantiable R_Ta 1) ∈ wA_ := by decide +kernel
theorem mw_146 : (Cond.classLink R_X 16 R_Wi) ∈ wA_ := by decide +kernel
theorem mw_147 : (Cond.instantiable R_Wi 2) ∈ wA_ := by decide +kernel
theorem mw_148 : (Cond.classLink R_X 23 R_Id) ∈ wA_ := by decide +kernel
theorem mw_149 : (Cond.instantiable R_Id 2) ∈ wA_ := by decide +kernel
theorem mw_150 : (Cond.classLink R_X 30 R_To) ∈ wA_ := by decide +kernel
theorem mw_151 : (Cond.instantiable R_To 4) ∈ wA_ := by decide +kernel
theorem mw_152 : (Cond.arrayClass .boolean) ∈ wA_ := by decide +kernel
theorem mw_153 : (Cond.code y_Ta_init b_Ta_init 1 none) ∈ wA_ := by decide +kernel
theorem mw_154 : (Cond.instanceMethod y_Ta_init) ∈ wA_ := by decide +kernel
theorem mw_155 : (Cond.code y_Wi_init b_Wi_init 1 none) ∈ wA_ := by decide +kernel
theorem mw_156 : (Cond.instanceMethod y_Wi_init) ∈ wA_ := by decide +kernel
theorem mw_157 : (Cond.code y_Id_init b_Id_init 1 none) ∈ wA_ := by decide +kernel
theorem mw_158 : (Cond.instanceMethod y_Id_init) ∈ wA_ := by decide +kernel
theorem mw_159 : (Cond.code y_To_init b_To_init 1 none) ∈ wA_ := by decide +kernel
theorem mw_160 : (Cond.instanceMethod y_To_init) ∈ wA_ := by decide +kernel
theorem mw_161 : (Cond.fieldLink R_Z 7 "TorqueRowsModel" "values" "[I") ∈ wA_ := by decide +kernel
theorem mw_162 : (Cond.constantLong R_Z 36 896) ∈ wA_ := by decide +kernel
theorem mw_163 : (Cond.constantLong R_Z 38 7000) ∈ wA_ := by decide +kernel
theorem mw_164 : (Cond.constantLong R_Z 44 128) ∈ wA_ := by decide +kernel
theorem mw_165 : (Cond.constantLong R_Z 46 1000) ∈ wA_ := by decide +kernel
theorem mw_166 : (Cond.constantLong R_Z 48 128000) ∈ wA_ := by decide +kernel
theorem mw_167 : (Cond.code y_Z_v b_Z_v 4 (some .int)) ∈ wA_ := by decide +kernel
theorem mw_168 : (Cond.initialized R_Z) ∈ wA_ := by decide +kernel
theorem mw_169 : (Cond.instanceMethod y_Z_v) ∈ wA_ := by decide +kernel
theorem mw_170 : (Cond.selects R_Z y_Z_v y_Z_v) ∈ wA_ := by decide +kernel
theorem mw_171 : (Cond.methodLink R_Z 40 y_Z_v) ∈ wA_ := by decide +kernel
theorem mw_172 : (Cond.fieldLink R_Z 53 "TorqueRowsModel" "wanted" "I") ∈ wA_ := by decide +kernel
theorem mw_173 : (Cond.fieldLink R_Z 23 "TorqueRowsModel" "idle" "I") ∈ wA_ := by decide +kernel
theorem mw_174 : (Cond.fieldLink R_Z 56 "TorqueRowsModel" "speed" "I") ∈ wA_ := by decide +kernel
theorem mw_175 : (Cond.constantLong R_Z 59 4) ∈ wA_ := by decide +kernel
theorem mw_176 : (Cond.fieldLink R_Z 61 "TorqueRowsModel" "stored" "J") ∈ wA_ := by decide +kernel
theorem mw_177 : (Cond.constantLong R_Z 65 16) ∈ wA_ := by decide +kernel
theorem mw_178 : (Cond.constantLong R_Z 71 200) ∈ wA_ := by decide +kernel
theorem mw_179 : (Cond.code y_Z_down b_Z_down 6 (some .long)) ∈ wA_ := by decide +kernel
theorem mw_180 : (Cond.static y_Z_down) ∈ wA_ := by decide +kernel
theorem mw_181 : (Cond.methodLink R_Z 67 y_Z_down) ∈ wA_ := by decide +kernel
theorem mw_182 : (Cond.fieldLink R_Z 33 "TorqueRowsModel" "thrown" "I") ∈ wA_ := by decide +kernel
theorem mw_183 : (Cond.constantLong R_Z 73 10000) ∈ wA_ := by decide +kernel
theorem mw_184 : (Cond.fieldLink R_Z 13 "TorqueRowsModel" "lost" "[Z") ∈ wA_ := by decide +kernel
theorem mw_185 : (Cond.fieldLink R_Z 75 "TorqueRowsModel" "different" "I") ∈ wA_ := by decide +kernel
theorem mw_186 : (Cond.fieldLink R_Z 78 "TorqueRowsModel" "stopped" "Z") ∈ wA_ := by decide +kernel
theorem mw_187 : (Cond.fieldLink R_Z 82 "TorqueRowsModel" "pedal" "I") ∈ wA_ := by decide +kernel
theorem mw_188 : (Cond.fieldLink R_Z 85 "TorqueRowsModel" "limp" "Z") ∈ wA_ := by decide +kernel
theorem mw_189 : (Cond.fieldLink R_Z 88 "TorqueRowsModel" "mode" "I") ∈ wA_ := by decide +kernel
theorem mw_190 : (Cond.fieldLink R_Z 50 "TorqueRowsModel" "wishes" "I") ∈ wA_ := by decide +kernel
theorem mw_191 : (Cond.fieldLink R_Z 27 "TorqueRowsModel" "bound" "I") ∈ wA_ := by decide +kernel
theorem mw_192 : (Cond.fieldLink R_Z 101 "TorqueRowsModel" "torque" "I") ∈ wA_ := by decide +kernel
theorem mw_193 : (Cond.fieldLink R_Z 104 "TorqueRowsModel" "before" "I") ∈ wA_ := by decide +kernel
theorem mw_194 : (Cond.fieldLink R_Z 107 "TorqueRowsModel" "air" "I") ∈ wA_ := by decide +kernel
theorem mw_195 : (Cond.fieldLink R_Z 110 "TorqueRowsModel" "fuel" "I") ∈ wA_ := by decide +kernel
theorem mw_196 : (Cond.fieldLink R_Z 113 "TorqueRowsModel" "steps" "J") ∈ wA_ := by decide +kernel
theorem mw_197 : (Cond.fieldLink R_Z 116 "TorqueRowsModel" "work" "J") ∈ wA_ := by decide +kernel
theorem mw_198 : (Cond.fieldLink R_Z 119 "TorqueRowsModel" "burnt" "J") ∈ wA_ := by decide +kernel
theorem mw_199 : (Cond.fieldLink R_Z 122 "TorqueRowsModel" "stops" "J") ∈ wA_ := by decide +kernel
theorem mw_200 : (Cond.code y_Z_valueAt b_Z_valueAt 16 (some .int)) ∈ wA_ := by decide +kernel
theorem mw_201 : (Cond.instanceMethod y_Z_valueAt) ∈ wA_ := by decide +kernel
theorem mw_202 : (Cond.selects R_Z y_Z_valueAt y_Z_valueAt) ∈ wA_ := by decide +kernel
theorem mw_203 : (Cond.methodLink R_Z 91 y_Z_valueAt) ∈ wA_ := by decide +kernel
theorem mw_204 : (Cond.code y_Z_idles b_Z_idles 6 none) ∈ wA_ := by decide +kernel
theorem mw_205 : (Cond.instanceMethod y_Z_idles) ∈ wA_ := by decide +kernel
theorem mw_206 : (Cond.selects R_Z y_Z_idles y_Z_idles) ∈ wA_ := by decide +kernel
theorem mw_207 : (Cond.methodLink R_Z 98 y_Z_idles) ∈ wA_ := by decide +kernel
theorem mw_208 : (Cond.code y_Z_takeWishes b_Z_takeWishes 4 none) ∈ wA_ := by decide +kernel
theorem mw_209 : (Cond.instanceMethod y_Z_takeWishes) ∈ wA_ := by decide +kernel
theorem mw_210 : (Cond.selects R_Z y_Z_takeWishes y_Z_takeWishes) ∈ wA_ := by decide +kernel
theorem mw_211 : (Cond.methodLink R_Z 95 y_Z_takeWishes) ∈ wA_ := by decide +kernel
theorem mw_212 : (Cond.constantLong R_Z 125 (-2)) ∈ wA_ := by decide +kernel
theorem mw_213 : (Cond.fieldLink R_Z 17 "TorqueRowsModel" "rank" "[I") ∈ wA_ := by decide +kernel
theorem mw_214 : (Cond.fieldLink R_Z 20 "TorqueRowsModel" "wished" "[I") ∈ wA_ := by decide +kernel
theorem mw_215 : (Cond.fieldLink R_Z 127 "TorqueRowsModel" "much" "I") ∈ wA_ := by decide +kernel
theorem mw_216 : (Cond.fieldLink R_Z 30 "TorqueRowsModel" "cylinders" "I") ∈ wA_ := by decide +kernel
theorem mw_217 : (Cond.constantLong R_Z 130 120000000) ∈ wA_ := by decide +kernel
theorem mw_218 : (Cond.constantLong R_Z 132 3000) ∈ wA_ := by decide +kernel
theorem mw_219 : (Cond.methodLink R_Z 1 Lib.objectInit) ∈ wA_ := by decide +kernel
theorem nw_0 : (Cond.methodLinkNest R_X 110 y_Ta_joined "TorqueRows") ∈ nW_ := by decide +kernel
theorem nw_1 : (Cond.methodLinkNest R_X 198 y_Wi_clear "TorqueRows") ∈ nW_ := by decide +kernel
theorem nw_2 : (Cond.methodLinkNest R_X 201 y_Id_forget "TorqueRows") ∈ nW_ := by decide +kernel
theorem nw_3 : (Cond.methodLinkNest R_X 204 y_Id_torqueAt "TorqueRows") ∈ nW_ := by decide +kernel
theorem nw_4 : (Cond.methodLinkNest R_X 195 y_Wi_appliedTo "TorqueRows") ∈ nW_ := by decide +kernel
theorem nw_5 : (Cond.methodLinkNest R_X 48 y_Ta_isPlace "TorqueRows") ∈ nW_ := by decide +kernel
theorem nw_6 : (Cond.methodLinkNest R_X 58 y_Ta_put "TorqueRows") ∈ nW_ := by decide +kernel
theorem nw_7 : (Cond.methodLinkNest R_X 123 y_To_count "TorqueRows") ∈ nW_ := by decide +kernel
theorem nw_8 : (Cond.fieldLinkNest R_X 127 "TorqueRows$Idling" "stored" "I" "TorqueRows") ∈ nW_ := by decide +kernel
theorem nw_9 : (Cond.fieldLinkNest R_X 135 "TorqueRows$Wishes" "waiting" "I" "TorqueRows") ∈ nW_ := by decide +kernel
theorem nw_10 : (Cond.methodLinkNest R_X 138 y_Wi_add "TorqueRows") ∈ nW_ := by decide +kernel
theorem nw_11 : (Cond.fieldLinkNest R_X 163 "TorqueRows$Idling" "aim" "I" "TorqueRows") ∈ nW_ := by decide +kernel
theorem nw_12 : (Cond.fieldLinkNest R_X 166 "TorqueRows$Totals" "steps" "J" "TorqueRows") ∈ nW_ := by decide +kernel
theorem nw_13 : (Cond.fieldLinkNest R_X 170 "TorqueRows$Totals" "work" "J" "TorqueRows") ∈ nW_ := by decide +kernel
theorem nw_14 : (Cond.fieldLinkNest R_X 173 "TorqueRows$Totals" "fuel" "J" "TorqueRows") ∈ nW_ := by decide +kernel
theorem nw_15 : (Cond.fieldLinkNest R_X 176 "TorqueRows$Totals" "stops" "J" "TorqueRows") ∈ nW_ := by decide +kernel
theorem nw_16 : (Cond.methodLinkNest R_X 9 y_Ta_init "TorqueRows") ∈ nW_ := by decide +kernel
theorem nw_17 : (Cond.methodLinkNest R_X 18 y_Wi_init "TorqueRows") ∈ nW_ := by decide +kernel
theorem nw_18 : (Cond.methodLinkNest R_X 25 y_Id_init "TorqueRows") ∈ nW_ := by decide +kernel
theorem nw_19 : (Cond.methodLinkNest R_X 32 y_To_init "TorqueRows") ∈ nW_ := by decide +kernel
end
section
def lst (zr zd : Nat → Int32) (rr : Int32) : Nat → Int32
  | 0 => -1
  | k + 1 => if zr k = rr then (if lst zr zd rr k < 0 then zd k else (if lst zr zd rr k ≤ zd k then lst zr zd rr k else zd k)) else lst zr zd rr k
def fTa_isPlace (p0 : Int32) (p1 : Int32) : Int32 := (if p0 < 0 then 0 else (if 8 ≤ p0 then 0 else (if p1 < 0 then 0 else (if 8 ≤ p1 then 0 else 1))))
def fTa_between (p0 : Int32) (p1 : Int32) : Int32 := (mx 0 (mn p0 p1))
def fTa_indexOf (p0 : Int32) (p1 : Int32) (p2 : Int32) : Int32 := ((((p0 * 8) + p1) * 8) + p2)
def vTa_put_0 (tb : Nat → Int32) (ki : Int32) (px : Int32) (py : Int32) (pv : Int32) : Nat → Int32 := (upd tb (fTa_indexOf ki px py).toNatClampNeg pv)
def fTa_put (tb : Nat → Int32) (ki : Int32) (px : Int32) (py : Int32) : Int32 := (tb (fTa_indexOf ki px py).toNatClampNeg)
def vTa_joined_0 (pa : Int32) : Int32 := ((fTa_between pa 896) - (128 * (mn ((fTa_between pa 896) / 128) 6)))
def vTa_joined_1 (ps : Int32) : Int32 := ((fTa_between ps 7000) - (1000 * (mn ((fTa_between ps 7000) / 1000) 6)))
def vTa_joined_2 (tb : Nat → Int32) (ki : Int32) (pa : Int32) (ps : Int32) : Int32 := (((tb (fTa_indexOf ki (mn ((fTa_between pa 896) / 128) 6) (mn ((fTa_between ps 7000) / 1000) 6)).toNatClampNeg) * (128 - (vTa_joined_0 pa))) + ((tb (fTa_indexOf ki ((mn ((fTa_between pa 896) / 128) 6) + 1) (mn ((fTa_between ps 7000) / 1000) 6)).toNatClampNeg) * (vTa_joined_0 pa)))
def vTa_joined_3 (tb : Nat → Int32) (ki : Int32) (pa : Int32) (ps : Int32) : Int32 := (((tb (fTa_indexOf ki (mn ((fTa_between pa 896) / 128) 6) ((mn ((fTa_between ps 7000) / 1000) 6) + 1)).toNatClampNeg) * (128 - (vTa_joined_0 pa))) + ((tb (fTa_indexOf ki ((mn ((fTa_between pa 896) / 128) 6) + 1) ((mn ((fTa_between ps 7000) / 1000) 6) + 1)).toNatClampNeg) * (vTa_joined_0 pa)))
def fTa_joined (tb : Nat → Int32) (ki : Int32) (pa : Int32) (ps : Int32) : Int32 := ((((vTa_joined_2 tb ki pa ps) * (1000 - (vTa_joined_1 ps))) + ((vTa_joined_3 tb ki pa ps) * (vTa_joined_1 ps))) / 128000)
def vWi_clear_0 (le : Nat → Int32) : Nat → Int32 := (upd (upd le (0 : Int32).toNatClampNeg (-1)) (1 : Int32).toNatClampNeg (-1))
def vWi_clear_1 (le : Nat → Int32) : Nat → Int32 := (upd (vWi_clear_0 le) (2 : Int32).toNatClampNeg (-1))
def vWi_clear_2 (le : Nat → Int32) : Nat → Int32 := (upd (vWi_clear_1 le) (3 : Int32).toNatClampNeg (-1))
def vWi_clear_3 (le : Nat → Int32) : Nat → Int32 := (upd (vWi_clear_2 le) (4 : Int32).toNatClampNeg (-1))
def vWi_clear_4 (le : Nat → Int32) : Nat → Int32 := (upd (vWi_clear_3 le) (5 : Int32).toNatClampNeg (-1))
def vWi_add_0 (le : Nat → Int32) (rk : Int32) (pv : Int32) : Nat → Int32 := (if (le rk.toNatClampNeg) = (-1) then (upd le rk.toNatClampNeg pv) else (if (le rk.toNatClampNeg) ≤ pv then le else (upd le rk.toNatClampNeg pv)))
def vWi_appliedTo_0 (le : Nat → Int32) (p0 : Int32) : Int32 := (if (le (1 : Int32).toNatClampNeg) = (-1) then p0 else (mx p0 (le (1 : Int32).toNatClampNeg)))
def vWi_appliedTo_1 (le : Nat → Int32) (p0 : Int32) : Int32 := (mn (vWi_appliedTo_0 le p0) (le (2 : Int32).toNatClampNeg))
def vWi_appliedTo_2 (le : Nat → Int32) (p0 : Int32) : Int32 := (if (le (2 : Int32).toNatClampNeg) = (-1) then (vWi_appliedTo_0 le p0) else (vWi_appliedTo_1 le p0))
def vWi_appliedTo_3 (le : Nat → Int32) (p0 : Int32) : Int32 := (mx (vWi_appliedTo_2 le p0) (le (3 : Int32).toNatClampNeg))
def vWi_appliedTo_4 (le : Nat → Int32) (p0 : Int32) : Int32 := (if (le (3 : Int32).toNatClampNeg) = (-1) then (vWi_appliedTo_2 le p0) else (vWi_appliedTo_3 le p0))
def vWi_appliedTo_5 (le : Nat → Int32) (p0 : Int32) : Int32 := (mn (vWi_appliedTo_4 le p0) (le (4 : Int32).toNatClampNeg))
def vWi_appliedTo_6 (le : Nat → Int32) (p0 : Int32) : Int32 := (if (le (4 : Int32).toNatClampNeg) = (-1) then (vWi_appliedTo_4 le p0) else (vWi_appliedTo_5 le p0))
def vWi_appliedTo_7 (le : Nat → Int32) (p0 : Int32) : Int32 := (mx (vWi_appliedTo_6 le p0) (le (5 : Int32).toNatClampNeg))
def vWi_appliedTo_8 (le : Nat → Int32) (p0 : Int32) : Int32 := (if (le (5 : Int32).toNatClampNeg) = (-1) then (vWi_appliedTo_6 le p0) else (vWi_appliedTo_7 le p0))
def fWi_appliedTo (le : Nat → Int32) (p0 : Int32) : Int32 := (vWi_appliedTo_8 le p0)
def fMa_floorDiv (p0 : Int32) (p1 : Int32) : Int32 := (if 0 ≤ (p0 ^^^ p1) then (p0 / p1) else (if ((p0 / p1) * p1) = p0 then (p0 / p1) else ((p0 / p1) - 1)))
def vId_torqueAt_0 (am : Int32) (p0 : Int32) (sd : Int32) : Int32 := (if (fMa_floorDiv ((4 * (am - p0)) + sd) 16) ≤ 200 then (if 0 ≤ (fMa_floorDiv ((4 * (am - p0)) + sd) 16) then 0 else (if 0 ≤ (am - p0) then 0 else 1)) else (if 0 < (am - p0) then 1 else (if 0 ≤ (fMa_floorDiv ((4 * (am - p0)) + sd) 16) then 0 else (if 0 ≤ (am - p0) then 0 else 1))))
def vId_torqueAt_1 (am : Int32) (p0 : Int32) (sd : Int32) : Int32 := (if (vId_torqueAt_0 am p0 sd) = 0 then (sd + (am - p0)) else sd)
def fId_torqueAt (am : Int32) (p0 : Int32) (sd : Int32) : Int32 := (mx 0 (mn (fMa_floorDiv ((4 * (am - p0)) + sd) 16) 200))
def gTo_count_0_3 (p3 : Int32) (s3 : Int64) : Int64 := (if p3 = 0 then s3 else (s3 + 1))
def fX_isUpTo (p0 : Int64) (p1 : Int64) : Int32 := (if (lg_cmp p0 0) < 0 then 0 else (if 0 < (lg_cmp p0 p1) then 0 else 1))
def fX_ramped (p0 : Int32) (p1 : Int32) : Int32 := (mx (p0 - 80) (mn (p0 + 40) p1))
def fX_drives (mo : Int32) : Int32 := (if mo = 3 then 0 else (if mo = 4 then 0 else 1))
def fX_isTooMuch (p0 : Int64) (wa : Int32) (tp : Int32) : Int32 := (if (lg_cmp p0 ((wa + 30).toInt64)) ≤ 0 then 0 else (if (lg_cmp p0 (tp.toInt64)) ≤ 0 then 0 else 1))
def gX_takeSpeed_0_18 (lo : Nat → Int32) (pz : Int32) (sp : Int32) : Int32 := (if (lo (2 : Int32).toNatClampNeg) = 0 then pz else sp)
def vX_takeTracks_0 (lo : Nat → Int32) (pp : Int32) (po : Int32) : Int32 := (if (lo (0 : Int32).toNatClampNeg) = 0 then pp else po)
def vX_takeTracks_1 (lo : Nat → Int32) (po : Int32) (pp : Int32) : Int32 := (if (lo (1 : Int32).toNatClampNeg) = 0 then po else pp)
def vX_takeTracks_2 (lo : Nat → Int32) : Int32 := (if (lo (0 : Int32).toNatClampNeg) = 0 then (if (lo (1 : Int32).toNatClampNeg) = 0 then 1 else 0) else 0)
def vX_takeTracks_3 (lo : Nat → Int32) (pp : Int32) (po : Int32) (df : Int32) : Int32 := (if (vX_takeTracks_2 lo) = 0 then 0 else (if (ab ((vX_takeTracks_0 lo pp po) - (vX_takeTracks_1 lo po pp))) ≤ 50 then 0 else (df + 1)))
def vX_takeTracks_4 (lo : Nat → Int32) (pp : Int32) (po : Int32) (df : Int32) (st : Int32) : Int32 := (if (vX_takeTracks_3 lo pp po df) < 5 then st else 1)
def vX_takeTracks_5 (lo : Nat → Int32) (pp : Int32) (po : Int32) : Int32 := (mn (vX_takeTracks_0 lo pp po) (vX_takeTracks_1 lo po pp))
def fX_chooseMode (st : Int32) (lo : Nat → Int32) (sp : Int32) (li : Int32) (df : Int32) : Int32 := (if st = 0 then (if (lo (0 : Int32).toNatClampNeg) = 0 then (if sp = 0 then 3 else (if li = 0 then (if (lo (1 : Int32).toNatClampNeg) = 0 then (if (lo (2 : Int32).toNatClampNeg) = 0 then (if df ≤ 0 then 0 else 1) else 2) else 2) else 2)) else (if (lo (1 : Int32).toNatClampNeg) = 0 then (if sp = 0 then 3 else (if li = 0 then 2 else 2)) else 4)) else 4)
def fX_pedalWanted (mo : Int32) (tb : Nat → Int32) (pd : Int32) (sp : Int32) : Int32 := (if mo = 2 then (fTa_joined tb 1 pd sp) else (if mo = 1 then ((fTa_joined tb 0 pd sp) / 2) else (fTa_joined tb 0 pd sp)))
def vX_chooseWanted_0 (mo : Int32) (le : Nat → Int32) (tb : Nat → Int32) (pd : Int32) (sp : Int32) : Int32 := (if (fX_drives mo) = 0 then 0 else (fWi_appliedTo le (fX_pedalWanted mo tb pd sp)))
def fX_chooseWanted (mo : Int32) (le : Nat → Int32) (tb : Nat → Int32) (pd : Int32) (sp : Int32) (am : Int32) (sd : Int32) : Int32 := (if (fX_drives mo) = 0 then (vX_chooseWanted_0 mo le tb pd sp) else (if pd ≤ 0 then (mx (vX_chooseWanted_0 mo le tb pd sp) (fId_torqueAt am sp sd)) else (vX_chooseWanted_0 mo le tb pd sp)))
def gX_chooseWanted_5_1 (mo : Int32) (pd : Int32) (am : Int32) (sp : Int32) (sd : Int32) : Int32 := (if (fX_drives mo) = 0 then 0 else (if pd ≤ 0 then (vId_torqueAt_1 am sp sd) else 0))
def vX_isFuelCut_0 (pd : Int32) (tq : Int32) (sp : Int32) : Int32 := (if pd = 0 then (if tq = 0 then (if sp ≤ 1500 then 0 else 1) else 0) else 0)
def fX_isFuelCut (pd : Int32) (tq : Int32) (sp : Int32) (mo : Int32) : Int32 := (if (vX_isFuelCut_0 pd tq sp) = 0 then (if (fX_drives mo) = 0 then 1 else 0) else 1)
def fX_costTogether (pm : Int32) (tb : Nat → Int32) (pw : Int32) (sp : Int32) : Int32 := ((pm + ((pm * pm) / 200)) + (fTa_joined tb 4 (pw - pm) sp))
def vX_cheapestMotor_0 (tb : Nat → Int32) (pw : Int32) (sp : Int32) : Int32 := (if (fX_costTogether 0 tb pw sp) ≤ (fX_costTogether 50 tb pw sp) then (fX_costTogether 0 tb pw sp) else (fX_costTogether 50 tb pw sp))
def vX_cheapestMotor_1 (tb : Nat → Int32) (pw : Int32) (sp : Int32) : Int32 := (if (fX_costTogether 0 tb pw sp) ≤ (fX_costTogether 50 tb pw sp) then 0 else 50)
def vX_cheapestMotor_2 (tb : Nat → Int32) (pw : Int32) (sp : Int32) : Int32 := (if (vX_cheapestMotor_0 tb pw sp) ≤ (fX_costTogether 100 tb pw sp) then (vX_cheapestMotor_0 tb pw sp) else (fX_costTogether 100 tb pw sp))
def vX_cheapestMotor_3 (tb : Nat → Int32) (pw : Int32) (sp : Int32) : Int32 := (if (vX_cheapestMotor_0 tb pw sp) ≤ (fX_costTogether 100 tb pw sp) then (vX_cheapestMotor_1 tb pw sp) else 100)
def vX_cheapestMotor_4 (tb : Nat → Int32) (pw : Int32) (sp : Int32) : Int32 := (if (vX_cheapestMotor_2 tb pw sp) ≤ (fX_costTogether 150 tb pw sp) then (vX_cheapestMotor_2 tb pw sp) else (fX_costTogether 150 tb pw sp))
def vX_cheapestMotor_5 (tb : Nat → Int32) (pw : Int32) (sp : Int32) : Int32 := (if (vX_cheapestMotor_2 tb pw sp) ≤ (fX_costTogether 150 tb pw sp) then (vX_cheapestMotor_3 tb pw sp) else 150)
def vX_cheapestMotor_6 (tb : Nat → Int32) (pw : Int32) (sp : Int32) : Int32 := (if (vX_cheapestMotor_4 tb pw sp) ≤ (fX_costTogether 200 tb pw sp) then (vX_cheapestMotor_4 tb pw sp) else (fX_costTogether 200 tb pw sp))
def vX_cheapestMotor_7 (tb : Nat → Int32) (pw : Int32) (sp : Int32) : Int32 := (if (vX_cheapestMotor_4 tb pw sp) ≤ (fX_costTogether 200 tb pw sp) then (vX_cheapestMotor_5 tb pw sp) else 200)
def vX_cheapestMotor_8 (tb : Nat → Int32) (pw : Int32) (sp : Int32) : Int32 := (if (vX_cheapestMotor_6 tb pw sp) ≤ (fX_costTogether 250 tb pw sp) then (vX_cheapestMotor_6 tb pw sp) else (fX_costTogether 250 tb pw sp))
def vX_cheapestMotor_9 (tb : Nat → Int32) (pw : Int32) (sp : Int32) : Int32 := (if (vX_cheapestMotor_6 tb pw sp) ≤ (fX_costTogether 250 tb pw sp) then (vX_cheapestMotor_7 tb pw sp) else 250)
def vX_cheapestMotor_10 (tb : Nat → Int32) (pw : Int32) (sp : Int32) : Int32 := (if (vX_cheapestMotor_8 tb pw sp) ≤ (fX_costTogether 300 tb pw sp) then (vX_cheapestMotor_8 tb pw sp) else (fX_costTogether 300 tb pw sp))
def vX_cheapestMotor_11 (tb : Nat → Int32) (pw : Int32) (sp : Int32) : Int32 := (if (vX_cheapestMotor_8 tb pw sp) ≤ (fX_costTogether 300 tb pw sp) then (vX_cheapestMotor_9 tb pw sp) else 300)
def vX_cheapestMotor_12 (tb : Nat → Int32) (pw : Int32) (sp : Int32) : Int32 := (if (vX_cheapestMotor_10 tb pw sp) ≤ (fX_costTogether 350 tb pw sp) then (vX_cheapestMotor_10 tb pw sp) else (fX_costTogether 350 tb pw sp))
def vX_cheapestMotor_13 (tb : Nat → Int32) (pw : Int32) (sp : Int32) : Int32 := (if (vX_cheapestMotor_10 tb pw sp) ≤ (fX_costTogether 350 tb pw sp) then (vX_cheapestMotor_11 tb pw sp) else 350)
def vX_cheapestMotor_14 (tb : Nat → Int32) (pw : Int32) (sp : Int32) : Int32 := (if (vX_cheapestMotor_12 tb pw sp) ≤ (fX_costTogether 400 tb pw sp) then (vX_cheapestMotor_12 tb pw sp) else (fX_costTogether 400 tb pw sp))
def vX_cheapestMotor_15 (tb : Nat → Int32) (pw : Int32) (sp : Int32) : Int32 := (if (vX_cheapestMotor_12 tb pw sp) ≤ (fX_costTogether 400 tb pw sp) then (vX_cheapestMotor_13 tb pw sp) else 400)
def fX_cheapestMotor (pw : Int32) (tb : Nat → Int32) (sp : Int32) : Int32 := (if pw < 50 then 0 else (if pw < 100 then (vX_cheapestMotor_1 tb pw sp) else (if pw < 150 then (vX_cheapestMotor_3 tb pw sp) else (if pw < 200 then (vX_cheapestMotor_5 tb pw sp) else (if pw < 250 then (vX_cheapestMotor_7 tb pw sp) else (if pw < 300 then (vX_cheapestMotor_9 tb pw sp) else (if pw < 350 then (vX_cheapestMotor_11 tb pw sp) else (if pw < 400 then (vX_cheapestMotor_13 tb pw sp) else (vX_cheapestMotor_15 tb pw sp)))))))))
def fX_table (ki : Int32) (px : Int32) (py : Int32) (pv : Int64) (tb : Nat → Int32) : Int32 := (if ki < 0 then (-1) else (if ki < 5 then (if (fTa_isPlace px py) = 0 then (-2) else (if (fX_isUpTo pv 1000) = 0 then (-2) else (fTa_put tb ki px py))) else (-1)))
def gX_table_2 (ki : Int32) (tb : Nat → Int32) (px : Int32) (py : Int32) (pv : Int64) : Nat → Int32 := (if ki < 0 then tb else (if ki < 5 then (if (fTa_isPlace px py) = 0 then tb else (if (fX_isUpTo pv 1000) = 0 then tb else (vTa_put_0 tb ki px py (pv.toInt32)))) else tb))
def vX_step_0 (lo : Nat → Int32) (pp : Int64) (po : Int64) (df : Int32) (st : Int32) : Int32 := (vX_takeTracks_4 lo (pp.toInt32) (po.toInt32) df st)
def vX_step_1 (lo : Nat → Int32) (pp : Int64) (po : Int64) (df : Int32) : Int32 := (vX_takeTracks_3 lo (pp.toInt32) (po.toInt32) df)
def vX_step_2 (lo : Nat → Int32) (pp : Int64) (po : Int64) (df : Int32) (st : Int32) (pz : Int64) (sp : Int32) (li : Int32) : Int32 := (fX_chooseMode (vX_step_0 lo pp po df st) lo (gX_takeSpeed_0_18 lo (pz.toInt32) sp) li (vX_step_1 lo pp po df))
def vX_step_3 (lo : Nat → Int32) (pp : Int64) (po : Int64) (df : Int32) (st : Int32) (pz : Int64) (sp : Int32) (li : Int32) : Int32 := (if (vX_step_2 lo pp po df st pz sp li) = 4 then 0 else (vX_takeTracks_5 lo (pp.toInt32) (po.toInt32)))
def vX_step_4 (lo : Nat → Int32) (pp : Int64) (po : Int64) (df : Int32) (st : Int32) (pz : Int64) (sp : Int32) (li : Int32) (am : Int32) (sd : Int32) : Int32 := (gX_chooseWanted_5_1 (vX_step_2 lo pp po df st pz sp li) (vX_step_3 lo pp po df st pz sp li) am (gX_takeSpeed_0_18 lo (pz.toInt32) sp) sd)
def vX_step_5 (lo : Nat → Int32) (pp : Int64) (po : Int64) (df : Int32) (st : Int32) (pz : Int64) (sp : Int32) (li : Int32) (le : Nat → Int32) (tb : Nat → Int32) (am : Int32) (sd : Int32) (bn : Int32) : Int32 := (mn (fX_chooseWanted (vX_step_2 lo pp po df st pz sp li) le tb (vX_step_3 lo pp po df st pz sp li) (gX_takeSpeed_0_18 lo (pz.toInt32) sp) am sd) bn)
def vX_step_6 (lo : Nat → Int32) (pp : Int64) (po : Int64) (df : Int32) (st : Int32) (pz : Int64) (sp : Int32) (li : Int32) (tq : Int32) (le : Nat → Int32) (tb : Nat → Int32) (am : Int32) (sd : Int32) (bn : Int32) : Int32 := (if (fX_drives (vX_step_2 lo pp po df st pz sp li)) = 0 then 0 else (fX_ramped tq (vX_step_5 lo pp po df st pz sp li le tb am sd bn)))
def vX_step_7 (tb : Nat → Int32) (lo : Nat → Int32) (pp : Int64) (po : Int64) (df : Int32) (st : Int32) (pz : Int64) (sp : Int32) (li : Int32) (tq : Int32) (le : Nat → Int32) (am : Int32) (sd : Int32) (bn : Int32) : Int32 := (fTa_joined tb 2 (vX_step_6 lo pp po df st pz sp li tq le tb am sd bn) (gX_takeSpeed_0_18 lo (pz.toInt32) sp))
def vX_step_8 (lo : Nat → Int32) (pp : Int64) (po : Int64) (df : Int32) (st : Int32) (pz : Int64) (sp : Int32) (li : Int32) (tq : Int32) (le : Nat → Int32) (tb : Nat → Int32) (am : Int32) (sd : Int32) (bn : Int32) : Int32 := (if (fX_isFuelCut (vX_step_3 lo pp po df st pz sp li) (vX_step_6 lo pp po df st pz sp li tq le tb am sd bn) (gX_takeSpeed_0_18 lo (pz.toInt32) sp) (vX_step_2 lo pp po df st pz sp li)) = 0 then (fTa_joined tb 3 (vX_step_7 tb lo pp po df st pz sp li tq le am sd bn) (gX_takeSpeed_0_18 lo (pz.toInt32) sp)) else 0)
def vX_step_9 (lo : Nat → Int32) (pp : Int64) (po : Int64) (df : Int32) (st : Int32) (pz : Int64) (sp : Int32) (li : Int32) : Int32 := (if (vX_step_2 lo pp po df st pz sp li) = 4 then 1 else 0)
def vX_step_10 (s1 : Int64) (lo : Nat → Int32) (pp : Int64) (po : Int64) (df : Int32) (st : Int32) (pz : Int64) (sp : Int32) (li : Int32) (tq : Int32) (le : Nat → Int32) (tb : Nat → Int32) (am : Int32) (sd : Int32) (bn : Int32) : Int64 := (s1 + (((vX_step_6 lo pp po df st pz sp li tq le tb am sd bn).toInt64) * ((gX_takeSpeed_0_18 lo (pz.toInt32) sp).toInt64)))
def vX_step_11 (s2 : Int64) (lo : Nat → Int32) (pp : Int64) (po : Int64) (df : Int32) (st : Int32) (pz : Int64) (sp : Int32) (li : Int32) (tq : Int32) (le : Nat → Int32) (tb : Nat → Int32) (am : Int32) (sd : Int32) (bn : Int32) : Int64 := (s2 + ((vX_step_8 lo pp po df st pz sp li tq le tb am sd bn).toInt64))
def vX_step_12 (lo : Nat → Int32) (pp : Int64) (po : Int64) (df : Int32) (st : Int32) (pz : Int64) (sp : Int32) (li : Int32) (s3 : Int64) : Int64 := (gTo_count_0_3 (vX_step_9 lo pp po df st pz sp li) s3)
def fX_step (pp : Int64) (po : Int64) (pz : Int64) (lo : Nat → Int32) (df : Int32) (st : Int32) (sp : Int32) (li : Int32) : Int32 := (if (fX_isUpTo pp 1000) = 0 then (-2) else (if (fX_isUpTo po 1000) = 0 then (-2) else (if (fX_isUpTo pz 10000) = 0 then (-2) else (vX_step_2 lo pp po df st pz sp li))))
def gX_step_0_8 (pp : Int64) (st : Int32) (po : Int64) (pz : Int64) (lo : Nat → Int32) (df : Int32) : Int32 := (if (fX_isUpTo pp 1000) = 0 then st else (if (fX_isUpTo po 1000) = 0 then st else (if (fX_isUpTo pz 10000) = 0 then st else (vX_step_0 lo pp po df st))))
def gX_step_0_9 (pp : Int64) (df : Int32) (po : Int64) (pz : Int64) (lo : Nat → Int32) : Int32 := (if (fX_isUpTo pp 1000) = 0 then df else (if (fX_isUpTo po 1000) = 0 then df else (if (fX_isUpTo pz 10000) = 0 then df else (vX_step_1 lo pp po df))))
def gX_step_0_11 (pp : Int64) (tq : Int32) (po : Int64) (pz : Int64) (lo : Nat → Int32) (df : Int32) (st : Int32) (sp : Int32) (li : Int32) (le : Nat → Int32) (tb : Nat → Int32) (am : Int32) (sd : Int32) (bn : Int32) : Int32 := (if (fX_isUpTo pp 1000) = 0 then tq else (if (fX_isUpTo po 1000) = 0 then tq else (if (fX_isUpTo pz 10000) = 0 then tq else (vX_step_6 lo pp po df st pz sp li tq le tb am sd bn))))
def gX_step_0_12 (pp : Int64) (tp : Int32) (po : Int64) (pz : Int64) (tq : Int32) : Int32 := (if (fX_isUpTo pp 1000) = 0 then tp else (if (fX_isUpTo po 1000) = 0 then tp else (if (fX_isUpTo pz 10000) = 0 then tp else tq)))
def gX_step_0_13 (pp : Int64) (pd : Int32) (po : Int64) (pz : Int64) (lo : Nat → Int32) (df : Int32) (st : Int32) (sp : Int32) (li : Int32) : Int32 := (if (fX_isUpTo pp 1000) = 0 then pd else (if (fX_isUpTo po 1000) = 0 then pd else (if (fX_isUpTo pz 10000) = 0 then pd else (vX_step_3 lo pp po df st pz sp li))))
def gX_step_0_14 (pp : Int64) (wa : Int32) (po : Int64) (pz : Int64) (lo : Nat → Int32) (df : Int32) (st : Int32) (sp : Int32) (li : Int32) (le : Nat → Int32) (tb : Nat → Int32) (am : Int32) (sd : Int32) (bn : Int32) : Int32 := (if (fX_isUpTo pp 1000) = 0 then wa else (if (fX_isUpTo po 1000) = 0 then wa else (if (fX_isUpTo pz 10000) = 0 then wa else (vX_step_5 lo pp po df st pz sp li le tb am sd bn))))
def gX_step_0_15 (pp : Int64) (ai : Int32) (po : Int64) (pz : Int64) (tb : Nat → Int32) (lo : Nat → Int32) (df : Int32) (st : Int32) (sp : Int32) (li : Int32) (tq : Int32) (le : Nat → Int32) (am : Int32) (sd : Int32) (bn : Int32) : Int32 := (if (fX_isUpTo pp 1000) = 0 then ai else (if (fX_isUpTo po 1000) = 0 then ai else (if (fX_isUpTo pz 10000) = 0 then ai else (vX_step_7 tb lo pp po df st pz sp li tq le am sd bn))))
def gX_step_0_16 (pp : Int64) (fu : Int32) (po : Int64) (pz : Int64) (lo : Nat → Int32) (df : Int32) (st : Int32) (sp : Int32) (li : Int32) (tq : Int32) (le : Nat → Int32) (tb : Nat → Int32) (am : Int32) (sd : Int32) (bn : Int32) : Int32 := (if (fX_isUpTo pp 1000) = 0 then fu else (if (fX_isUpTo po 1000) = 0 then fu else (if (fX_isUpTo pz 10000) = 0 then fu else (vX_step_8 lo pp po df st pz sp li tq le tb am sd bn))))
def gX_step_0_17 (pp : Int64) (mo : Int32) (po : Int64) (pz : Int64) (lo : Nat → Int32) (df : Int32) (st : Int32) (sp : Int32) (li : Int32) : Int32 := (if (fX_isUpTo pp 1000) = 0 then mo else (if (fX_isUpTo po 1000) = 0 then mo else (if (fX_isUpTo pz 10000) = 0 then mo else (vX_step_2 lo pp po df st pz sp li))))
def gX_step_0_18 (pp : Int64) (sp : Int32) (po : Int64) (pz : Int64) (lo : Nat → Int32) : Int32 := (if (fX_isUpTo pp 1000) = 0 then sp else (if (fX_isUpTo po 1000) = 0 then sp else (if (fX_isUpTo pz 10000) = 0 then sp else (gX_takeSpeed_0_18 lo (pz.toInt32) sp))))
def gX_step_3_1 (pp : Int64) (wt : Int32) (po : Int64) (pz : Int64) : Int32 := (if (fX_isUpTo pp 1000) = 0 then wt else (if (fX_isUpTo po 1000) = 0 then wt else (if (fX_isUpTo pz 10000) = 0 then wt else 0)))
def gX_step_4 (pp : Int64) (le : Nat → Int32) (po : Int64) (pz : Int64) : Nat → Int32 := (if (fX_isUpTo pp 1000) = 0 then le else (if (fX_isUpTo po 1000) = 0 then le else (if (fX_isUpTo pz 10000) = 0 then le else (vWi_clear_4 le))))
def gX_step_5_1 (pp : Int64) (sd : Int32) (po : Int64) (pz : Int64) (lo : Nat → Int32) (df : Int32) (st : Int32) (sp : Int32) (li : Int32) (am : Int32) : Int32 := (if (fX_isUpTo pp 1000) = 0 then sd else (if (fX_isUpTo po 1000) = 0 then sd else (if (fX_isUpTo pz 10000) = 0 then sd else (vX_step_4 lo pp po df st pz sp li am sd))))
def gX_step_6_0 (pp : Int64) (s0 : Int64) (po : Int64) (pz : Int64) : Int64 := (if (fX_isUpTo pp 1000) = 0 then s0 else (if (fX_isUpTo po 1000) = 0 then s0 else (if (fX_isUpTo pz 10000) = 0 then s0 else (s0 + 1))))
def gX_step_6_1 (pp : Int64) (s1 : Int64) (po : Int64) (pz : Int64) (lo : Nat → Int32) (df : Int32) (st : Int32) (sp : Int32) (li : Int32) (tq : Int32) (le : Nat → Int32) (tb : Nat → Int32) (am : Int32) (sd : Int32) (bn : Int32) : Int64 := (if (fX_isUpTo pp 1000) = 0 then s1 else (if (fX_isUpTo po 1000) = 0 then s1 else (if (fX_isUpTo pz 10000) = 0 then s1 else (vX_step_10 s1 lo pp po df st pz sp li tq le tb am sd bn))))
def gX_step_6_2 (pp : Int64) (s2 : Int64) (po : Int64) (pz : Int64) (lo : Nat → Int32) (df : Int32) (st : Int32) (sp : Int32) (li : Int32) (tq : Int32) (le : Nat → Int32) (tb : Nat → Int32) (am : Int32) (sd : Int32) (bn : Int32) : Int64 := (if (fX_isUpTo pp 1000) = 0 then s2 else (if (fX_isUpTo po 1000) = 0 then s2 else (if (fX_isUpTo pz 10000) = 0 then s2 else (vX_step_11 s2 lo pp po df st pz sp li tq le tb am sd bn))))
def gX_step_6_3 (pp : Int64) (s3 : Int64) (po : Int64) (pz : Int64) (lo : Nat → Int32) (df : Int32) (st : Int32) (sp : Int32) (li : Int32) : Int64 := (if (fX_isUpTo pp 1000) = 0 then s3 else (if (fX_isUpTo po 1000) = 0 then s3 else (if (fX_isUpTo pz 10000) = 0 then s3 else (vX_step_12 lo pp po df st pz sp li s3))))
def fX_value (p0 : Int32) (pd : Int32) (wa : Int32) (ai : Int32) (fu : Int32) (sd : Int32) (df : Int32) (mo : Int32) (sp : Int32) : Int64 := (if p0 = 0 then (pd.toInt64) else (if p0 = 1 then (wa.toInt64) else (if p0 = 2 then (ai.toInt64) else (if p0 = 3 then (fu.toInt64) else (if p0 = 4 then (sd.toInt64) else (if p0 = 5 then (df.toInt64) else (if p0 = 6 then (mo.toInt64) else (if p0 = 7 then (sp.toInt64) else (-2)))))))))
def fX_wish (rk : Int32) (pv : Int64) (wt : Int32) : Int32 := (if rk < 1 then (-1) else (if rk ≤ 5 then (if (fX_isUpTo pv 1000) = 0 then (-2) else (if wt < 16 then (wt + 1) else (-4))) else (-1)))
def gX_wish_3_1 (rk : Int32) (wt : Int32) (pv : Int64) : Int32 := (if rk < 1 then wt else (if rk ≤ 5 then (if (fX_isUpTo pv 1000) = 0 then wt else (if wt < 16 then (wt + 1) else wt)) else wt))
def gX_wish_4 (rk : Int32) (le : Nat → Int32) (pv : Int64) (wt : Int32) : Nat → Int32 := (if rk < 1 then le else (if rk ≤ 5 then (if (fX_isUpTo pv 1000) = 0 then le else (if wt < 16 then (vWi_add_0 le rk (pv.toInt32)) else le)) else le))
def fX_bound (p0 : Int64) (bn : Int32) : Int32 := (if (fX_isUpTo p0 1000) = 0 then (-2) else bn)
def gX_bound_0_5 (p0 : Int64) (bn : Int32) : Int32 := (if (fX_isUpTo p0 1000) = 0 then bn else (p0.toInt32))
def vX_monitor_0 (p0 : Int64) (wa : Int32) (tp : Int32) (tm : Int32) : Int32 := (if (fX_isTooMuch p0 wa tp) = 0 then 0 else (tm + 1))
def vX_monitor_1 (p0 : Int64) (wa : Int32) (tp : Int32) (tm : Int32) (st : Int32) : Int32 := (if (vX_monitor_0 p0 wa tp tm) < 8 then st else 1)
def fX_monitor (st : Int32) (p0 : Int64) (wa : Int32) (tp : Int32) (tm : Int32) : Int32 := (if st = 0 then (vX_monitor_0 p0 wa tp tm) else (-3))
def gX_monitor_0_8 (st : Int32) (p0 : Int64) (wa : Int32) (tp : Int32) (tm : Int32) : Int32 := (if st = 0 then (vX_monitor_1 p0 wa tp tm st) else st)
def gX_monitor_0_10 (st : Int32) (p0 : Int64) (wa : Int32) (tp : Int32) (tm : Int32) : Int32 := (if st = 0 then (vX_monitor_0 p0 wa tp tm) else tm)
def vX_sensor_0 (lo : Nat → Int32) (wh : Int32) : Int32 := (if (lo wh.toNatClampNeg) = 0 then 0 else 1)
def fX_sensor (wh : Int32) (pk : Int32) (lo : Nat → Int32) : Int32 := (if wh < 0 then (-1) else (if wh < 3 then (if pk = 0 then (if pk = 1 then (vX_sensor_0 lo wh) else (vX_sensor_0 lo wh)) else (if pk = 1 then (vX_sensor_0 lo wh) else (-2))) else (-1)))
def gX_sensor_7 (wh : Int32) (lo : Nat → Int32) (pk : Int32) : Nat → Int32 := (if wh < 0 then lo else (if wh < 3 then (if pk = 0 then (if pk = 1 then (upd lo wh.toNatClampNeg (vp_nar .boolean 1)) else (upd lo wh.toNatClampNeg (vp_nar .boolean 0))) else (if pk = 1 then (upd lo wh.toNatClampNeg (vp_nar .boolean 1)) else lo)) else lo))
def fX_cylinder (p0 : Int32) : Int32 := (if p0 < 1 then 0 else (if p0 ≤ 12 then 1 else 0))
def gX_cylinder_0_6 (p0 : Int32) (cy : Int32) : Int32 := (if p0 < 1 then cy else (if p0 ≤ 12 then p0 else cy))
def fX_idle (p0 : Int64) (am : Int32) : Int32 := (if (fX_isUpTo p0 3000) = 0 then (-2) else am)
def gX_idle_5_0 (p0 : Int64) (am : Int32) : Int32 := (if (fX_isUpTo p0 3000) = 0 then am else (p0.toInt32))
def fX_sum (p0 : Int32) (s0 : Int64) (s1 : Int64) (s2 : Int64) (s3 : Int64) : Int64 := (if p0 = 0 then s0 else (if p0 = 1 then s1 else (if p0 = 2 then s2 else (if p0 = 3 then s3 else (-2)))))
def fX_split (p0 : Int64) (p1 : Int32) (tb : Nat → Int32) (sp : Int32) : Int32 := (if (fX_isUpTo p0 1000) = 0 then (-2) else (if p1 < 0 then (-2) else (if p1 ≤ 2 then (if p1 = 0 then ((p0.toInt32) - (fX_cheapestMotor (p0.toInt32) tb sp)) else (if p1 = 1 then (fX_cheapestMotor (p0.toInt32) tb sp) else (fX_costTogether (fX_cheapestMotor (p0.toInt32) tb sp) tb (p0.toInt32) sp))) else (-2))))
def vX_limp_0 (li : Int32) (on : Int32) : Int32 := (if li = on then 0 else 1)
def vX_limp_1 (li : Int32) (on : Int32) (st : Int32) : Int32 := (if (vX_limp_0 li on) = 0 then (if st = 0 then 0 else 1) else 1)
def vX_limp_2 (on : Int32) (li : Int32) (st : Int32) : Int32 := (if on = 0 then (vX_limp_1 li on st) else (vX_limp_0 li on))
def vX_limp_3 (on : Int32) (st : Int32) : Int32 := (if on = 0 then 0 else st)
def vX_limp_4 (on : Int32) (df : Int32) : Int32 := (if on = 0 then 0 else df)
def vX_limp_5 (on : Int32) (tm : Int32) : Int32 := (if on = 0 then 0 else tm)
def fX_limp (on : Int32) (li : Int32) (st : Int32) : Int32 := (if (vX_limp_2 on li st) = 0 then 0 else 1)
def fZ_down (p0 : Int64) (p1 : Int64) : Int64 := (if (lg_cmp ((p0 / p1) * p1) p0) ≤ 0 then (p0 / p1) else ((p0 / p1) - 1))
def fZ_v (zv : Nat → Int32) (ki : Int32) (px : Int32) (py : Int32) : Int32 := (zv (((64 * ki) + (8 * px)) + py).toNatClampNeg)
def vZ_valueAt_0 (pa : Int64) : Int32 := (if 0 ≤ (lg_cmp pa 0) then (if (lg_cmp pa 896) ≤ 0 then (pa.toInt32) else 896) else 0)
def vZ_valueAt_1 (ps : Int64) : Int32 := (if 0 ≤ (lg_cmp ps 0) then (if (lg_cmp ps 7000) ≤ 0 then (ps.toInt32) else 7000) else 0)
def vZ_valueAt_2 (pa : Int64) : Int32 := (if ((vZ_valueAt_0 pa) / 128) ≤ 6 then ((vZ_valueAt_0 pa) / 128) else 6)
def vZ_valueAt_3 (ps : Int64) : Int32 := (if ((vZ_valueAt_1 ps) / 1000) ≤ 6 then ((vZ_valueAt_1 ps) / 1000) else 6)
def vZ_valueAt_4 (pa : Int64) : Int64 := (((vZ_valueAt_0 pa) - (128 * (vZ_valueAt_2 pa))).toInt64)
def vZ_valueAt_5 (ps : Int64) : Int64 := (((vZ_valueAt_1 ps) - (1000 * (vZ_valueAt_3 ps))).toInt64)
def vZ_valueAt_6 (zv : Nat → Int32) (ki : Int32) (pa : Int64) (ps : Int64) : Int64 := (((((((fZ_v zv ki (vZ_valueAt_2 pa) (vZ_valueAt_3 ps)).toInt64) * (128 - (vZ_valueAt_4 pa))) * (1000 - (vZ_valueAt_5 ps))) + ((((fZ_v zv ki ((vZ_valueAt_2 pa) + 1) (vZ_valueAt_3 ps)).toInt64) * (vZ_valueAt_4 pa)) * (1000 - (vZ_valueAt_5 ps)))) + ((((fZ_v zv ki (vZ_valueAt_2 pa) ((vZ_valueAt_3 ps) + 1)).toInt64) * (128 - (vZ_valueAt_4 pa))) * (vZ_valueAt_5 ps))) + ((((fZ_v zv ki ((vZ_valueAt_2 pa) + 1) ((vZ_valueAt_3 ps) + 1)).toInt64) * (vZ_valueAt_4 pa)) * (vZ_valueAt_5 ps)))
def fZ_valueAt (zv : Nat → Int32) (ki : Int32) (pa : Int64) (ps : Int64) : Int32 := (((vZ_valueAt_6 zv ki pa ps) / 128000).toInt32)
def vZ_takeWishes_0 (zr : Nat → Int32) (zd : Nat → Int32) (zw : Int32) (zu : Int32) : Int32 := (if 0 ≤ (lst zr zd 1 zw.toNatClampNeg) then (if (lst zr zd 1 zw.toNatClampNeg) ≤ zu then zu else (lst zr zd 1 zw.toNatClampNeg)) else zu)
def vZ_takeWishes_1 (zr : Nat → Int32) (zd : Nat → Int32) (zw : Int32) (zu : Int32) : Int32 := (if 0 ≤ (lst zr zd 2 zw.toNatClampNeg) then (if (vZ_takeWishes_0 zr zd zw zu) ≤ (lst zr zd 2 zw.toNatClampNeg) then (vZ_takeWishes_0 zr zd zw zu) else (lst zr zd 2 zw.toNatClampNeg)) else (vZ_takeWishes_0 zr zd zw zu))
def vZ_takeWishes_2 (zr : Nat → Int32) (zd : Nat → Int32) (zw : Int32) (zu : Int32) : Int32 := (if 0 ≤ (lst zr zd 3 zw.toNatClampNeg) then (if (lst zr zd 3 zw.toNatClampNeg) ≤ (vZ_takeWishes_1 zr zd zw zu) then (vZ_takeWishes_1 zr zd zw zu) else (lst zr zd 3 zw.toNatClampNeg)) else (vZ_takeWishes_1 zr zd zw zu))
def vZ_takeWishes_3 (zr : Nat → Int32) (zd : Nat → Int32) (zw : Int32) (zu : Int32) : Int32 := (if 0 ≤ (lst zr zd 4 zw.toNatClampNeg) then (if (vZ_takeWishes_2 zr zd zw zu) ≤ (lst zr zd 4 zw.toNatClampNeg) then (vZ_takeWishes_2 zr zd zw zu) else (lst zr zd 4 zw.toNatClampNeg)) else (vZ_takeWishes_2 zr zd zw zu))
def vZ_takeWishes_4 (zr : Nat → Int32) (zd : Nat → Int32) (zw : Int32) (zu : Int32) : Int32 := (if 0 ≤ (lst zr zd 5 zw.toNatClampNeg) then (if (lst zr zd 5 zw.toNatClampNeg) ≤ (vZ_takeWishes_3 zr zd zw zu) then (vZ_takeWishes_3 zr zd zw zu) else (lst zr zd 5 zw.toNatClampNeg)) else (vZ_takeWishes_3 zr zd zw zu))
def vZ_idles_0 (zi : Int32) (zy : Int32) (zo : Int64) : Int64 := (if (lg_cmp (fZ_down ((4 * ((zi - zy).toInt64)) + zo) 16) 200) ≤ 0 then (if 0 ≤ (lg_cmp (fZ_down ((4 * ((zi - zy).toInt64)) + zo) 16) 0) then (zo + ((zi - zy).toInt64)) else (if (lg_cmp ((zi - zy).toInt64) 0) < 0 then zo else (zo + ((zi - zy).toInt64)))) else (if 0 < (lg_cmp ((zi - zy).toInt64) 0) then zo else (if 0 ≤ (lg_cmp (fZ_down ((4 * ((zi - zy).toInt64)) + zo) 16) 0) then (zo + ((zi - zy).toInt64)) else (if (lg_cmp ((zi - zy).toInt64) 0) < 0 then zo else (zo + ((zi - zy).toInt64))))))
def vZ_idles_1 (zi : Int32) (zy : Int32) (zo : Int64) : Int32 := (if 0 ≤ (lg_cmp (fZ_down ((4 * ((zi - zy).toInt64)) + zo) 16) 0) then (if (lg_cmp (fZ_down ((4 * ((zi - zy).toInt64)) + zo) 16) 200) ≤ 0 then ((fZ_down ((4 * ((zi - zy).toInt64)) + zo) 16).toInt32) else 200) else 0)
def vZ_idles_2 (zi : Int32) (zy : Int32) (zo : Int64) (zu : Int32) : Int32 := (if (vZ_idles_1 zi zy zo) ≤ zu then zu else (vZ_idles_1 zi zy zo))
def vZ_table_0 (zv : Nat → Int32) (ki : Int32) (px : Int32) (py : Int32) (pv : Int64) : Nat → Int32 := (upd zv (((64 * ki) + (8 * px)) + py).toNatClampNeg (pv.toInt32))
def fZ_table (ki : Int32) (px : Int32) (py : Int32) (pv : Int64) (zv : Nat → Int32) : Int32 := (if ki < 0 then (-1) else (if ki ≤ 4 then (if px < 0 then (-2) else (if 7 < px then (-2) else (if py < 0 then (-2) else (if 7 < py then (-2) else (if (lg_cmp pv 0) < 0 then (-2) else (if (lg_cmp pv 1000) ≤ 0 then (fZ_v zv ki px py) else (-2))))))) else (-1)))
def gZ_table_1 (ki : Int32) (zv : Nat → Int32) (px : Int32) (py : Int32) (pv : Int64) : Nat → Int32 := (if ki < 0 then zv else (if ki ≤ 4 then (if px < 0 then zv else (if 7 < px then zv else (if py < 0 then zv else (if 7 < py then zv else (if (lg_cmp pv 0) < 0 then zv else (if (lg_cmp pv 1000) ≤ 0 then (vZ_table_0 zv ki px py pv) else zv)))))) else zv))
def vZ_step_0 (zl : Nat → Int32) (pz : Int64) (zy : Int32) : Int32 := (if (zl (2 : Int32).toNatClampNeg) = 0 then (pz.toInt32) else zy)
def vZ_step_1 (zl : Nat → Int32) (pp : Int64) (po : Int64) : Int64 := (if (zl (0 : Int32).toNatClampNeg) = 0 then pp else po)
def vZ_step_2 (zl : Nat → Int32) (po : Int64) (pp : Int64) : Int64 := (if (zl (1 : Int32).toNatClampNeg) = 0 then po else pp)
def vZ_step_3 (zl : Nat → Int32) (pp : Int64) (po : Int64) : Int32 := (if (zl (0 : Int32).toNatClampNeg) = 0 then (if (zl (1 : Int32).toNatClampNeg) = 0 then (if 50 < (((vZ_step_1 zl pp po).toInt32) - ((vZ_step_2 zl po pp).toInt32)) then 1 else (if (((vZ_step_2 zl po pp).toInt32) - ((vZ_step_1 zl pp po).toInt32)) ≤ 50 then 0 else 1)) else 0) else 0)
def vZ_step_4 (zl : Nat → Int32) (pp : Int64) (po : Int64) (zg : Int32) : Int32 := (if (vZ_step_3 zl pp po) = 0 then 0 else (zg + 1))
def vZ_step_5 (zs : Int32) (zl : Nat → Int32) (pp : Int64) (po : Int64) (zg : Int32) : Int32 := (if zs = 0 then (if (vZ_step_4 zl pp po zg) = 5 then 1 else 0) else 1)
def vZ_step_6 (zl : Nat → Int32) (po : Int64) (pp : Int64) : Int32 := (if ((vZ_step_2 zl po pp).toInt32) ≤ ((vZ_step_1 zl pp po).toInt32) then ((vZ_step_2 zl po pp).toInt32) else ((vZ_step_1 zl pp po).toInt32))
def vZ_step_7 (zl : Nat → Int32) : Int32 := (if (zl (0 : Int32).toNatClampNeg) = 0 then 0 else (if (zl (1 : Int32).toNatClampNeg) = 0 then 0 else 1))
def vZ_step_8 (zp : Int32) (zl : Nat → Int32) : Int32 := (if zp = 0 then (if (zl (0 : Int32).toNatClampNeg) = 0 then (if (zl (1 : Int32).toNatClampNeg) = 0 then (if (zl (2 : Int32).toNatClampNeg) = 0 then 0 else 1) else 1) else 1) else 1)
def vZ_step_9 (zs : Int32) (zl : Nat → Int32) (pp : Int64) (po : Int64) (zg : Int32) (pz : Int64) (zy : Int32) (zp : Int32) : Int32 := (if (vZ_step_5 zs zl pp po zg) = 0 then (if (vZ_step_7 zl) = 0 then (if (vZ_step_0 zl pz zy) = 0 then 3 else (if (vZ_step_8 zp zl) = 0 then (if (vZ_step_4 zl pp po zg) ≤ 0 then 0 else 1) else 2)) else 4) else 4)
def vZ_step_10 (zs : Int32) (zl : Nat → Int32) (pp : Int64) (po : Int64) (zg : Int32) (pz : Int64) (zy : Int32) (zp : Int32) : Int32 := (if (vZ_step_9 zs zl pp po zg pz zy zp) = 4 then 0 else (vZ_step_6 zl po pp))
def vZ_step_11 (zs : Int32) (zl : Nat → Int32) (pp : Int64) (po : Int64) (zg : Int32) (pz : Int64) (zy : Int32) (zp : Int32) : Int32 := (if 3 ≤ (vZ_step_9 zs zl pp po zg pz zy zp) then 0 else 1)
def vZ_step_12 (zs : Int32) (zl : Nat → Int32) (pp : Int64) (po : Int64) (zg : Int32) (pz : Int64) (zy : Int32) (zp : Int32) (zv : Nat → Int32) : Int32 := (if (vZ_step_11 zs zl pp po zg pz zy zp) = 0 then 0 else (if (vZ_step_9 zs zl pp po zg pz zy zp) = 2 then (fZ_valueAt zv 1 ((vZ_step_10 zs zl pp po zg pz zy zp).toInt64) ((vZ_step_0 zl pz zy).toInt64)) else (if (vZ_step_9 zs zl pp po zg pz zy zp) = 1 then ((fZ_valueAt zv 0 ((vZ_step_10 zs zl pp po zg pz zy zp).toInt64) ((vZ_step_0 zl pz zy).toInt64)) / 2) else (fZ_valueAt zv 0 ((vZ_step_10 zs zl pp po zg pz zy zp).toInt64) ((vZ_step_0 zl pz zy).toInt64)))))
def vZ_step_13 (zr : Nat → Int32) (zd : Nat → Int32) (zw : Int32) (zs : Int32) (zl : Nat → Int32) (pp : Int64) (po : Int64) (zg : Int32) (pz : Int64) (zy : Int32) (zp : Int32) (zv : Nat → Int32) : Int32 := (vZ_takeWishes_4 zr zd zw (vZ_step_12 zs zl pp po zg pz zy zp zv))
def vZ_step_14 (zs : Int32) (zl : Nat → Int32) (pp : Int64) (po : Int64) (zg : Int32) (pz : Int64) (zy : Int32) (zp : Int32) (zv : Nat → Int32) (zr : Nat → Int32) (zd : Nat → Int32) (zw : Int32) : Int32 := (if (vZ_step_11 zs zl pp po zg pz zy zp) = 0 then (vZ_step_12 zs zl pp po zg pz zy zp zv) else (vZ_step_13 zr zd zw zs zl pp po zg pz zy zp zv))
def vZ_step_15 (zi : Int32) (zl : Nat → Int32) (pz : Int64) (zy : Int32) (zo : Int64) (zs : Int32) (pp : Int64) (po : Int64) (zg : Int32) (zp : Int32) (zv : Nat → Int32) (zr : Nat → Int32) (zd : Nat → Int32) (zw : Int32) : Int32 := (vZ_idles_2 zi (vZ_step_0 zl pz zy) zo (vZ_step_14 zs zl pp po zg pz zy zp zv zr zd zw))
def vZ_step_16 (zs : Int32) (zl : Nat → Int32) (pp : Int64) (po : Int64) (zg : Int32) (pz : Int64) (zy : Int32) (zp : Int32) (zv : Nat → Int32) (zr : Nat → Int32) (zd : Nat → Int32) (zw : Int32) (zi : Int32) (zo : Int64) : Int32 := (if (vZ_step_10 zs zl pp po zg pz zy zp) = 0 then (if (vZ_step_11 zs zl pp po zg pz zy zp) = 0 then (vZ_step_14 zs zl pp po zg pz zy zp zv zr zd zw) else (vZ_step_15 zi zl pz zy zo zs pp po zg zp zv zr zd zw)) else (vZ_step_14 zs zl pp po zg pz zy zp zv zr zd zw))
def vZ_step_17 (zs : Int32) (zl : Nat → Int32) (pp : Int64) (po : Int64) (zg : Int32) (pz : Int64) (zy : Int32) (zp : Int32) (zi : Int32) (zo : Int64) : Int64 := (if (vZ_step_10 zs zl pp po zg pz zy zp) = 0 then (if (vZ_step_11 zs zl pp po zg pz zy zp) = 0 then 0 else (vZ_idles_0 zi (vZ_step_0 zl pz zy) zo)) else 0)
def vZ_step_18 (zs : Int32) (zl : Nat → Int32) (pp : Int64) (po : Int64) (zg : Int32) (pz : Int64) (zy : Int32) (zp : Int32) (zv : Nat → Int32) (zr : Nat → Int32) (zd : Nat → Int32) (zw : Int32) (zi : Int32) (zo : Int64) (zb : Int32) : Int32 := (if (vZ_step_16 zs zl pp po zg pz zy zp zv zr zd zw zi zo) ≤ zb then (vZ_step_16 zs zl pp po zg pz zy zp zv zr zd zw zi zo) else zb)
def vZ_step_19 (zs : Int32) (zl : Nat → Int32) (pp : Int64) (po : Int64) (zg : Int32) (pz : Int64) (zy : Int32) (zp : Int32) (zq : Int32) (zv : Nat → Int32) (zr : Nat → Int32) (zd : Nat → Int32) (zw : Int32) (zi : Int32) (zo : Int64) (zb : Int32) : Int32 := (if (vZ_step_11 zs zl pp po zg pz zy zp) = 0 then 0 else (if (zq - 80) ≤ (vZ_step_18 zs zl pp po zg pz zy zp zv zr zd zw zi zo zb) then (if (vZ_step_18 zs zl pp po zg pz zy zp zv zr zd zw zi zo zb) ≤ (zq + 40) then (vZ_step_18 zs zl pp po zg pz zy zp zv zr zd zw zi zo zb) else (zq + 40)) else (zq - 80)))
def vZ_step_20 (zv : Nat → Int32) (zs : Int32) (zl : Nat → Int32) (pp : Int64) (po : Int64) (zg : Int32) (pz : Int64) (zy : Int32) (zp : Int32) (zq : Int32) (zr : Nat → Int32) (zd : Nat → Int32) (zw : Int32) (zi : Int32) (zo : Int64) (zb : Int32) : Int32 := (fZ_valueAt zv 2 ((vZ_step_19 zs zl pp po zg pz zy zp zq zv zr zd zw zi zo zb).toInt64) ((vZ_step_0 zl pz zy).toInt64))
def vZ_step_21 (zs : Int32) (zl : Nat → Int32) (pp : Int64) (po : Int64) (zg : Int32) (pz : Int64) (zy : Int32) (zp : Int32) (zq : Int32) (zv : Nat → Int32) (zr : Nat → Int32) (zd : Nat → Int32) (zw : Int32) (zi : Int32) (zo : Int64) (zb : Int32) : Int32 := (if (vZ_step_11 zs zl pp po zg pz zy zp) = 0 then 0 else (if (vZ_step_10 zs zl pp po zg pz zy zp) = 0 then (if (vZ_step_19 zs zl pp po zg pz zy zp zq zv zr zd zw zi zo zb) = 0 then (if (vZ_step_0 zl pz zy) ≤ 1500 then (fZ_valueAt zv 3 ((vZ_step_20 zv zs zl pp po zg pz zy zp zq zr zd zw zi zo zb).toInt64) ((vZ_step_0 zl pz zy).toInt64)) else 0) else (fZ_valueAt zv 3 ((vZ_step_20 zv zs zl pp po zg pz zy zp zq zr zd zw zi zo zb).toInt64) ((vZ_step_0 zl pz zy).toInt64))) else (fZ_valueAt zv 3 ((vZ_step_20 zv zs zl pp po zg pz zy zp zq zr zd zw zi zo zb).toInt64) ((vZ_step_0 zl pz zy).toInt64))))
def vZ_step_22 (z1 : Int64) (zs : Int32) (zl : Nat → Int32) (pp : Int64) (po : Int64) (zg : Int32) (pz : Int64) (zy : Int32) (zp : Int32) (zq : Int32) (zv : Nat → Int32) (zr : Nat → Int32) (zd : Nat → Int32) (zw : Int32) (zi : Int32) (zo : Int64) (zb : Int32) : Int64 := (z1 + (((vZ_step_19 zs zl pp po zg pz zy zp zq zv zr zd zw zi zo zb).toInt64) * ((vZ_step_0 zl pz zy).toInt64)))
def vZ_step_23 (z2 : Int64) (zs : Int32) (zl : Nat → Int32) (pp : Int64) (po : Int64) (zg : Int32) (pz : Int64) (zy : Int32) (zp : Int32) (zq : Int32) (zv : Nat → Int32) (zr : Nat → Int32) (zd : Nat → Int32) (zw : Int32) (zi : Int32) (zo : Int64) (zb : Int32) : Int64 := (z2 + ((vZ_step_21 zs zl pp po zg pz zy zp zq zv zr zd zw zi zo zb).toInt64))
def vZ_step_24 (zs : Int32) (zl : Nat → Int32) (pp : Int64) (po : Int64) (zg : Int32) (pz : Int64) (zy : Int32) (zp : Int32) : Int64 := (if (vZ_step_9 zs zl pp po zg pz zy zp) = 4 then 1 else 0)
def fZ_step (pp : Int64) (po : Int64) (pz : Int64) (zs : Int32) (zl : Nat → Int32) (zg : Int32) (zy : Int32) (zp : Int32) : Int32 := (if (lg_cmp pp 0) < 0 then (-2) else (if 0 < (lg_cmp pp 1000) then (-2) else (if (lg_cmp po 0) < 0 then (-2) else (if 0 < (lg_cmp po 1000) then (-2) else (if (lg_cmp pz 0) < 0 then (-2) else (if (lg_cmp pz 10000) ≤ 0 then (vZ_step_9 zs zl pp po zg pz zy zp) else (-2)))))))
def gZ_step_0_3 (pp : Int64) (zw : Int32) (po : Int64) (pz : Int64) : Int32 := (if (lg_cmp pp 0) < 0 then zw else (if 0 < (lg_cmp pp 1000) then zw else (if (lg_cmp po 0) < 0 then zw else (if 0 < (lg_cmp po 1000) then zw else (if (lg_cmp pz 0) < 0 then zw else (if (lg_cmp pz 10000) ≤ 0 then 0 else zw))))))
def gZ_step_0_9 (pp : Int64) (zs : Int32) (po : Int64) (pz : Int64) (zl : Nat → Int32) (zg : Int32) : Int32 := (if (lg_cmp pp 0) < 0 then zs else (if 0 < (lg_cmp pp 1000) then zs else (if (lg_cmp po 0) < 0 then zs else (if 0 < (lg_cmp po 1000) then zs else (if (lg_cmp pz 0) < 0 then zs else (if (lg_cmp pz 10000) ≤ 0 then (vZ_step_5 zs zl pp po zg) else zs))))))
def gZ_step_0_11 (pp : Int64) (ze : Int32) (po : Int64) (pz : Int64) (zs : Int32) (zl : Nat → Int32) (zg : Int32) (zy : Int32) (zp : Int32) : Int32 := (if (lg_cmp pp 0) < 0 then ze else (if 0 < (lg_cmp pp 1000) then ze else (if (lg_cmp po 0) < 0 then ze else (if 0 < (lg_cmp po 1000) then ze else (if (lg_cmp pz 0) < 0 then ze else (if (lg_cmp pz 10000) ≤ 0 then (vZ_step_10 zs zl pp po zg pz zy zp) else ze))))))
def gZ_step_0_12 (pp : Int64) (zy : Int32) (po : Int64) (pz : Int64) (zl : Nat → Int32) : Int32 := (if (lg_cmp pp 0) < 0 then zy else (if 0 < (lg_cmp pp 1000) then zy else (if (lg_cmp po 0) < 0 then zy else (if 0 < (lg_cmp po 1000) then zy else (if (lg_cmp pz 0) < 0 then zy else (if (lg_cmp pz 10000) ≤ 0 then (vZ_step_0 zl pz zy) else zy))))))
def gZ_step_0_13 (pp : Int64) (zu : Int32) (po : Int64) (pz : Int64) (zs : Int32) (zl : Nat → Int32) (zg : Int32) (zy : Int32) (zp : Int32) (zv : Nat → Int32) (zr : Nat → Int32) (zd : Nat → Int32) (zw : Int32) (zi : Int32) (zo : Int64) (zb : Int32) : Int32 := (if (lg_cmp pp 0) < 0 then zu else (if 0 < (lg_cmp pp 1000) then zu else (if (lg_cmp po 0) < 0 then zu else (if 0 < (lg_cmp po 1000) then zu else (if (lg_cmp pz 0) < 0 then zu else (if (lg_cmp pz 10000) ≤ 0 then (vZ_step_18 zs zl pp po zg pz zy zp zv zr zd zw zi zo zb) else zu))))))
def gZ_step_0_14 (pp : Int64) (za : Int32) (po : Int64) (pz : Int64) (zv : Nat → Int32) (zs : Int32) (zl : Nat → Int32) (zg : Int32) (zy : Int32) (zp : Int32) (zq : Int32) (zr : Nat → Int32) (zd : Nat → Int32) (zw : Int32) (zi : Int32) (zo : Int64) (zb : Int32) : Int32 := (if (lg_cmp pp 0) < 0 then za else (if 0 < (lg_cmp pp 1000) then za else (if (lg_cmp po 0) < 0 then za else (if 0 < (lg_cmp po 1000) then za else (if (lg_cmp pz 0) < 0 then za else (if (lg_cmp pz 10000) ≤ 0 then (vZ_step_20 zv zs zl pp po zg pz zy zp zq zr zd zw zi zo zb) else za))))))
def gZ_step_0_15 (pp : Int64) (zf : Int32) (po : Int64) (pz : Int64) (zs : Int32) (zl : Nat → Int32) (zg : Int32) (zy : Int32) (zp : Int32) (zq : Int32) (zv : Nat → Int32) (zr : Nat → Int32) (zd : Nat → Int32) (zw : Int32) (zi : Int32) (zo : Int64) (zb : Int32) : Int32 := (if (lg_cmp pp 0) < 0 then zf else (if 0 < (lg_cmp pp 1000) then zf else (if (lg_cmp po 0) < 0 then zf else (if 0 < (lg_cmp po 1000) then zf else (if (lg_cmp pz 0) < 0 then zf else (if (lg_cmp pz 10000) ≤ 0 then (vZ_step_21 zs zl pp po zg pz zy zp zq zv zr zd zw zi zo zb) else zf))))))
def gZ_step_0_16 (pp : Int64) (zo : Int64) (po : Int64) (pz : Int64) (zs : Int32) (zl : Nat → Int32) (zg : Int32) (zy : Int32) (zp : Int32) (zi : Int32) : Int64 := (if (lg_cmp pp 0) < 0 then zo else (if 0 < (lg_cmp pp 1000) then zo else (if (lg_cmp po 0) < 0 then zo else (if 0 < (lg_cmp po 1000) then zo else (if (lg_cmp pz 0) < 0 then zo else (if (lg_cmp pz 10000) ≤ 0 then (vZ_step_17 zs zl pp po zg pz zy zp zi zo) else zo))))))
def gZ_step_0_17 (pp : Int64) (zg : Int32) (po : Int64) (pz : Int64) (zl : Nat → Int32) : Int32 := (if (lg_cmp pp 0) < 0 then zg else (if 0 < (lg_cmp pp 1000) then zg else (if (lg_cmp po 0) < 0 then zg else (if 0 < (lg_cmp po 1000) then zg else (if (lg_cmp pz 0) < 0 then zg else (if (lg_cmp pz 10000) ≤ 0 then (vZ_step_4 zl pp po zg) else zg))))))
def gZ_step_0_18 (pp : Int64) (zm : Int32) (po : Int64) (pz : Int64) (zs : Int32) (zl : Nat → Int32) (zg : Int32) (zy : Int32) (zp : Int32) : Int32 := (if (lg_cmp pp 0) < 0 then zm else (if 0 < (lg_cmp pp 1000) then zm else (if (lg_cmp po 0) < 0 then zm else (if 0 < (lg_cmp po 1000) then zm else (if (lg_cmp pz 0) < 0 then zm else (if (lg_cmp pz 10000) ≤ 0 then (vZ_step_9 zs zl pp po zg pz zy zp) else zm))))))
def gZ_step_0_19 (pp : Int64) (zq : Int32) (po : Int64) (pz : Int64) (zs : Int32) (zl : Nat → Int32) (zg : Int32) (zy : Int32) (zp : Int32) (zv : Nat → Int32) (zr : Nat → Int32) (zd : Nat → Int32) (zw : Int32) (zi : Int32) (zo : Int64) (zb : Int32) : Int32 := (if (lg_cmp pp 0) < 0 then zq else (if 0 < (lg_cmp pp 1000) then zq else (if (lg_cmp po 0) < 0 then zq else (if 0 < (lg_cmp po 1000) then zq else (if (lg_cmp pz 0) < 0 then zq else (if (lg_cmp pz 10000) ≤ 0 then (vZ_step_19 zs zl pp po zg pz zy zp zq zv zr zd zw zi zo zb) else zq))))))
def gZ_step_0_20 (pp : Int64) (zx : Int32) (po : Int64) (pz : Int64) (zq : Int32) : Int32 := (if (lg_cmp pp 0) < 0 then zx else (if 0 < (lg_cmp pp 1000) then zx else (if (lg_cmp po 0) < 0 then zx else (if 0 < (lg_cmp po 1000) then zx else (if (lg_cmp pz 0) < 0 then zx else (if (lg_cmp pz 10000) ≤ 0 then zq else zx))))))
def gZ_step_0_22 (pp : Int64) (z0 : Int64) (po : Int64) (pz : Int64) : Int64 := (if (lg_cmp pp 0) < 0 then z0 else (if 0 < (lg_cmp pp 1000) then z0 else (if (lg_cmp po 0) < 0 then z0 else (if 0 < (lg_cmp po 1000) then z0 else (if (lg_cmp pz 0) < 0 then z0 else (if (lg_cmp pz 10000) ≤ 0 then (z0 + 1) else z0))))))
def gZ_step_0_23 (pp : Int64) (z1 : Int64) (po : Int64) (pz : Int64) (zs : Int32) (zl : Nat → Int32) (zg : Int32) (zy : Int32) (zp : Int32) (zq : Int32) (zv : Nat → Int32) (zr : Nat → Int32) (zd : Nat → Int32) (zw : Int32) (zi : Int32) (zo : Int64) (zb : Int32) : Int64 := (if (lg_cmp pp 0) < 0 then z1 else (if 0 < (lg_cmp pp 1000) then z1 else (if (lg_cmp po 0) < 0 then z1 else (if 0 < (lg_cmp po 1000) then z1 else (if (lg_cmp pz 0) < 0 then z1 else (if (lg_cmp pz 10000) ≤ 0 then (vZ_step_22 z1 zs zl pp po zg pz zy zp zq zv zr zd zw zi zo zb) else z1))))))
def gZ_step_0_24 (pp : Int64) (z2 : Int64) (po : Int64) (pz : Int64) (zs : Int32) (zl : Nat → Int32) (zg : Int32) (zy : Int32) (zp : Int32) (zq : Int32) (zv : Nat → Int32) (zr : Nat → Int32) (zd : Nat → Int32) (zw : Int32) (zi : Int32) (zo : Int64) (zb : Int32) : Int64 := (if (lg_cmp pp 0) < 0 then z2 else (if 0 < (lg_cmp pp 1000) then z2 else (if (lg_cmp po 0) < 0 then z2 else (if 0 < (lg_cmp po 1000) then z2 else (if (lg_cmp pz 0) < 0 then z2 else (if (lg_cmp pz 10000) ≤ 0 then (vZ_step_23 z2 zs zl pp po zg pz zy zp zq zv zr zd zw zi zo zb) else z2))))))
def gZ_step_0_25 (pp : Int64) (z3 : Int64) (po : Int64) (pz : Int64) (zs : Int32) (zl : Nat → Int32) (zg : Int32) (zy : Int32) (zp : Int32) : Int64 := (if (lg_cmp pp 0) < 0 then z3 else (if 0 < (lg_cmp pp 1000) then z3 else (if (lg_cmp po 0) < 0 then z3 else (if 0 < (lg_cmp po 1000) then z3 else (if (lg_cmp pz 0) < 0 then z3 else (if (lg_cmp pz 10000) ≤ 0 then (z3 + (vZ_step_24 zs zl pp po zg pz zy zp)) else z3))))))
def fZ_value (p0 : Int32) (ze : Int32) (zu : Int32) (za : Int32) (zf : Int32) (zo : Int64) (zg : Int32) (zm : Int32) (zy : Int32) : Int64 := (if p0 = 0 then (ze.toInt64) else (if p0 = 1 then (zu.toInt64) else (if p0 = 2 then (za.toInt64) else (if p0 = 3 then (zf.toInt64) else (if p0 = 4 then zo else (if p0 = 5 then (zg.toInt64) else (if p0 = 6 then (zm.toInt64) else (if p0 = 7 then (zy.toInt64) else (-2)))))))))
def fZ_wish (rk : Int32) (pv : Int64) (zw : Int32) : Int32 := (if rk < 1 then (-1) else (if rk ≤ 5 then (if (lg_cmp pv 0) < 0 then (-2) else (if (lg_cmp pv 1000) ≤ 0 then (if zw = 16 then (-4) else (zw + 1)) else (-2))) else (-1)))
def gZ_wish_0_3 (rk : Int32) (zw : Int32) (pv : Int64) : Int32 := (if rk < 1 then zw else (if rk ≤ 5 then (if (lg_cmp pv 0) < 0 then zw else (if (lg_cmp pv 1000) ≤ 0 then (if zw = 16 then zw else (zw + 1)) else zw)) else zw))
def gZ_wish_3 (rk : Int32) (zr : Nat → Int32) (pv : Int64) (zw : Int32) : Nat → Int32 := (if rk < 1 then zr else (if rk ≤ 5 then (if (lg_cmp pv 0) < 0 then zr else (if (lg_cmp pv 1000) ≤ 0 then (if zw = 16 then zr else (upd zr zw.toNatClampNeg rk)) else zr)) else zr))
def gZ_wish_4 (rk : Int32) (zd : Nat → Int32) (pv : Int64) (zw : Int32) : Nat → Int32 := (if rk < 1 then zd else (if rk ≤ 5 then (if (lg_cmp pv 0) < 0 then zd else (if (lg_cmp pv 1000) ≤ 0 then (if zw = 16 then zd else (upd zd zw.toNatClampNeg (pv.toInt32))) else zd)) else zd))
def fZ_bound (p0 : Int64) (zb : Int32) : Int32 := (if (lg_cmp p0 0) < 0 then (-2) else (if (lg_cmp p0 1000) ≤ 0 then zb else (-2)))
def gZ_bound_0_7 (p0 : Int64) (zb : Int32) : Int32 := (if (lg_cmp p0 0) < 0 then zb else (if (lg_cmp p0 1000) ≤ 0 then (p0.toInt32) else zb))
def vZ_monitor_0 (p0 : Int64) (zu : Int32) (zx : Int32) (zh : Int32) : Int32 := (if (lg_cmp p0 ((zu + 30).toInt64)) ≤ 0 then 0 else (if (lg_cmp p0 (zx.toInt64)) ≤ 0 then 0 else (zh + 1)))
def vZ_monitor_1 (p0 : Int64) (zu : Int32) (zx : Int32) (zh : Int32) : Int32 := (if (vZ_monitor_0 p0 zu zx zh) = 8 then 1 else 0)
def fZ_monitor (zs : Int32) (p0 : Int64) (zu : Int32) (zx : Int32) (zh : Int32) : Int32 := (if zs = 0 then (vZ_monitor_0 p0 zu zx zh) else (-3))
def gZ_monitor_0_9 (zs : Int32) (p0 : Int64) (zu : Int32) (zx : Int32) (zh : Int32) : Int32 := (if zs = 0 then (vZ_monitor_1 p0 zu zx zh) else zs)
def gZ_monitor_0_21 (zs : Int32) (p0 : Int64) (zu : Int32) (zx : Int32) (zh : Int32) : Int32 := (if zs = 0 then (vZ_monitor_0 p0 zu zx zh) else zh)
def vZ_sensor_0 (zl : Nat → Int32) (wh : Int32) : Int32 := (if (zl wh.toNatClampNeg) = 0 then 0 else 1)
def fZ_sensor (wh : Int32) (pk : Int32) (zl : Nat → Int32) : Int32 := (if wh < 0 then (-1) else (if wh ≤ 2 then (if pk < 0 then (-2) else (if pk ≤ 1 then (if pk = 1 then (vZ_sensor_0 zl wh) else (vZ_sensor_0 zl wh)) else (-2))) else (-1)))
def gZ_sensor_2 (wh : Int32) (zl : Nat → Int32) (pk : Int32) : Nat → Int32 := (if wh < 0 then zl else (if wh ≤ 2 then (if pk < 0 then zl else (if pk ≤ 1 then (if pk = 1 then (upd zl wh.toNatClampNeg (vp_nar .boolean 1)) else (upd zl wh.toNatClampNeg (vp_nar .boolean 0))) else zl)) else zl))
def fZ_cylinder (p0 : Int32) : Int32 := (if p0 < 1 then 0 else (if p0 ≤ 12 then 1 else 0))
def gZ_cylinder_0_10 (p0 : Int32) (zc : Int32) : Int32 := (if p0 < 1 then zc else (if p0 ≤ 12 then p0 else zc))
def vZ_period_0 (pv : Int64) : Int32 := (if (lg_cmp pv 0) = 0 then 1 else 0)
def fZ_period (pv : Int64) (zc : Int32) : Int64 := (if (lg_cmp pv 0) < 0 then (-2) else (if (lg_cmp pv 10000) ≤ 0 then (if (vZ_period_0 pv) ≤ 0 then (120000000 / (pv * (zc.toInt64))) else 0) else (-2)))
def gZ_period_0_0 (pv : Int64) : Int32 := (if (lg_cmp pv 0) < 0 then 0 else (if (lg_cmp pv 10000) ≤ 0 then (if (vZ_period_0 pv) ≤ 0 then (vZ_period_0 pv) else (vZ_period_0 pv)) else 0))
def fZ_idle (p0 : Int64) (zi : Int32) : Int32 := (if (lg_cmp p0 0) < 0 then (-2) else (if (lg_cmp p0 3000) ≤ 0 then zi else (-2)))
def gZ_idle_0_6 (p0 : Int64) (zi : Int32) : Int32 := (if (lg_cmp p0 0) < 0 then zi else (if (lg_cmp p0 3000) ≤ 0 then (p0.toInt32) else zi))
def fZ_sum (p0 : Int32) (z0 : Int64) (z1 : Int64) (z2 : Int64) (z3 : Int64) : Int64 := (if p0 = 0 then z0 else (if p0 = 1 then z1 else (if p0 = 2 then z2 else (if p0 = 3 then z3 else (-2)))))
def vZ_split_0 (zv : Nat → Int32) (pv : Int64) (zy : Int32) : Int32 := (fZ_valueAt zv 4 ((pv.toInt32).toInt64) (zy.toInt64))
def vZ_split_1 (zv : Nat → Int32) (pv : Int64) (zy : Int32) : Int32 := (62 + (fZ_valueAt zv 4 (((pv.toInt32) - 50).toInt64) (zy.toInt64)))
def vZ_split_2 (zv : Nat → Int32) (pv : Int64) (zy : Int32) : Int32 := (if (vZ_split_0 zv pv zy) ≤ (vZ_split_1 zv pv zy) then (vZ_split_0 zv pv zy) else (vZ_split_1 zv pv zy))
def vZ_split_3 (zv : Nat → Int32) (pv : Int64) (zy : Int32) : Int32 := (if (vZ_split_0 zv pv zy) ≤ (vZ_split_1 zv pv zy) then 0 else 50)
def vZ_split_4 (zv : Nat → Int32) (pv : Int64) (zy : Int32) : Int32 := (150 + (fZ_valueAt zv 4 (((pv.toInt32) - 100).toInt64) (zy.toInt64)))
def vZ_split_5 (zv : Nat → Int32) (pv : Int64) (zy : Int32) : Int32 := (if (vZ_split_2 zv pv zy) ≤ (vZ_split_4 zv pv zy) then (vZ_split_2 zv pv zy) else (vZ_split_4 zv pv zy))
def vZ_split_6 (zv : Nat → Int32) (pv : Int64) (zy : Int32) : Int32 := (if (vZ_split_2 zv pv zy) ≤ (vZ_split_4 zv pv zy) then (vZ_split_3 zv pv zy) else 100)
def vZ_split_7 (zv : Nat → Int32) (pv : Int64) (zy : Int32) : Int32 := (262 + (fZ_valueAt zv 4 (((pv.toInt32) - 150).toInt64) (zy.toInt64)))
def vZ_split_8 (zv : Nat → Int32) (pv : Int64) (zy : Int32) : Int32 := (if (vZ_split_5 zv pv zy) ≤ (vZ_split_7 zv pv zy) then (vZ_split_5 zv pv zy) else (vZ_split_7 zv pv zy))
def vZ_split_9 (zv : Nat → Int32) (pv : Int64) (zy : Int32) : Int32 := (if (vZ_split_5 zv pv zy) ≤ (vZ_split_7 zv pv zy) then (vZ_split_6 zv pv zy) else 150)
def vZ_split_10 (zv : Nat → Int32) (pv : Int64) (zy : Int32) : Int32 := (400 + (fZ_valueAt zv 4 (((pv.toInt32) - 200).toInt64) (zy.toInt64)))
def vZ_split_11 (zv : Nat → Int32) (pv : Int64) (zy : Int32) : Int32 := (if (vZ_split_8 zv pv zy) ≤ (vZ_split_10 zv pv zy) then (vZ_split_8 zv pv zy) else (vZ_split_10 zv pv zy))
def vZ_split_12 (zv : Nat → Int32) (pv : Int64) (zy : Int32) : Int32 := (if (vZ_split_8 zv pv zy) ≤ (vZ_split_10 zv pv zy) then (vZ_split_9 zv pv zy) else 200)
def vZ_split_13 (zv : Nat → Int32) (pv : Int64) (zy : Int32) : Int32 := (562 + (fZ_valueAt zv 4 (((pv.toInt32) - 250).toInt64) (zy.toInt64)))
def vZ_split_14 (zv : Nat → Int32) (pv : Int64) (zy : Int32) : Int32 := (if (vZ_split_11 zv pv zy) ≤ (vZ_split_13 zv pv zy) then (vZ_split_11 zv pv zy) else (vZ_split_13 zv pv zy))
def vZ_split_15 (zv : Nat → Int32) (pv : Int64) (zy : Int32) : Int32 := (if (vZ_split_11 zv pv zy) ≤ (vZ_split_13 zv pv zy) then (vZ_split_12 zv pv zy) else 250)
def vZ_split_16 (zv : Nat → Int32) (pv : Int64) (zy : Int32) : Int32 := (750 + (fZ_valueAt zv 4 (((pv.toInt32) - 300).toInt64) (zy.toInt64)))
def vZ_split_17 (zv : Nat → Int32) (pv : Int64) (zy : Int32) : Int32 := (if (vZ_split_14 zv pv zy) ≤ (vZ_split_16 zv pv zy) then (vZ_split_14 zv pv zy) else (vZ_split_16 zv pv zy))
def vZ_split_18 (zv : Nat → Int32) (pv : Int64) (zy : Int32) : Int32 := (if (vZ_split_14 zv pv zy) ≤ (vZ_split_16 zv pv zy) then (vZ_split_15 zv pv zy) else 300)
def vZ_split_19 (zv : Nat → Int32) (pv : Int64) (zy : Int32) : Int32 := (962 + (fZ_valueAt zv 4 (((pv.toInt32) - 350).toInt64) (zy.toInt64)))
def vZ_split_20 (zv : Nat → Int32) (pv : Int64) (zy : Int32) : Int32 := (if (vZ_split_17 zv pv zy) ≤ (vZ_split_19 zv pv zy) then (vZ_split_17 zv pv zy) else (vZ_split_19 zv pv zy))
def vZ_split_21 (zv : Nat → Int32) (pv : Int64) (zy : Int32) : Int32 := (if (vZ_split_17 zv pv zy) ≤ (vZ_split_19 zv pv zy) then (vZ_split_18 zv pv zy) else 350)
def vZ_split_22 (zv : Nat → Int32) (pv : Int64) (zy : Int32) : Int32 := (1200 + (fZ_valueAt zv 4 (((pv.toInt32) - 400).toInt64) (zy.toInt64)))
def vZ_split_23 (zv : Nat → Int32) (pv : Int64) (zy : Int32) : Int32 := (if (vZ_split_20 zv pv zy) ≤ (vZ_split_22 zv pv zy) then (vZ_split_20 zv pv zy) else (vZ_split_22 zv pv zy))
def vZ_split_24 (zv : Nat → Int32) (pv : Int64) (zy : Int32) : Int32 := (if (vZ_split_20 zv pv zy) ≤ (vZ_split_22 zv pv zy) then (vZ_split_21 zv pv zy) else 400)
def vZ_split_25 (pv : Int64) : Int32 := (if (pv.toInt32) < 50 then 50 else (if (pv.toInt32) < 100 then 100 else (if (pv.toInt32) < 150 then 150 else (if (pv.toInt32) < 200 then 200 else (if (pv.toInt32) < 250 then 250 else (if (pv.toInt32) < 300 then 300 else (if (pv.toInt32) < 350 then 350 else (if (pv.toInt32) < 400 then 400 else 450))))))))
def vZ_split_26 (pv : Int64) (zv : Nat → Int32) (zy : Int32) : Int32 := (if (pv.toInt32) < 50 then (vZ_split_0 zv pv zy) else (if (pv.toInt32) < 100 then (vZ_split_2 zv pv zy) else (if (pv.toInt32) < 150 then (vZ_split_5 zv pv zy) else (if (pv.toInt32) < 200 then (vZ_split_8 zv pv zy) else (if (pv.toInt32) < 250 then (vZ_split_11 zv pv zy) else (if (pv.toInt32) < 300 then (vZ_split_14 zv pv zy) else (if (pv.toInt32) < 350 then (vZ_split_17 zv pv zy) else (if (pv.toInt32) < 400 then (vZ_split_20 zv pv zy) else (vZ_split_23 zv pv zy)))))))))
def vZ_split_27 (pv : Int64) (zv : Nat → Int32) (zy : Int32) : Int32 := (if (pv.toInt32) < 50 then 0 else (if (pv.toInt32) < 100 then (vZ_split_3 zv pv zy) else (if (pv.toInt32) < 150 then (vZ_split_6 zv pv zy) else (if (pv.toInt32) < 200 then (vZ_split_9 zv pv zy) else (if (pv.toInt32) < 250 then (vZ_split_12 zv pv zy) else (if (pv.toInt32) < 300 then (vZ_split_15 zv pv zy) else (if (pv.toInt32) < 350 then (vZ_split_18 zv pv zy) else (if (pv.toInt32) < 400 then (vZ_split_21 zv pv zy) else (vZ_split_24 zv pv zy)))))))))
def fZ_split (pv : Int64) (px : Int32) (zv : Nat → Int32) (zy : Int32) : Int32 := (if (lg_cmp pv 0) < 0 then (-2) else (if 0 < (lg_cmp pv 1000) then (-2) else (if px < 0 then (-2) else (if px ≤ 2 then (if px = 0 then ((pv.toInt32) - (vZ_split_27 pv zv zy)) else (if px = 1 then (vZ_split_27 pv zv zy) else (vZ_split_26 pv zv zy))) else (-2)))))
def vZ_limp_0 (on : Int32) (zs : Int32) : Int32 := (if on = 0 then 0 else zs)
def vZ_limp_1 (on : Int32) (zg : Int32) : Int32 := (if on = 0 then 0 else zg)
def vZ_limp_2 (on : Int32) (zh : Int32) : Int32 := (if on = 0 then 0 else zh)
def fZ_limp (zp : Int32) (on : Int32) (zs : Int32) : Int32 := (if zp = on then (if on = 0 then (if zs = 0 then 0 else 1) else 0) else 1)
def vZ_tw_0 (zr : Nat → Int32) (kk : Int32) (rr : Int32) (lm : Int32) (zd : Nat → Int32) : Int32 := (if (zr kk.toNatClampNeg) = rr then (if lm < 0 then (zd kk.toNatClampNeg) else (if lm ≤ (zd kk.toNatClampNeg) then lm else (zd kk.toNatClampNeg))) else lm)
end
section
-- pure rows that the walks of the class ask for: places of arrays
theorem mn_nI {a b : Nat} (ha : a < 2 ^ 31) (hb : b < 2 ^ 31) : mn (nI a) (nI b) = nI (min a b) := by
  unfold mn
  by_cases h : nI b < nI a
  · rw [if_pos h]
    have := (nI_ltI hb ha).mp h
    rw [Nat.min_eq_right (by omega)]
  · rw [if_neg h]
    have : ¬ b < a := fun q => h ((nI_ltI hb ha).mpr q)
    rw [Nat.min_eq_left (by omega)]
theorem mx_nI {a b : Nat} (ha : a < 2 ^ 31) (hb : b < 2 ^ 31) : mx (nI a) (nI b) = nI (max a b) := by
  unfold mx
  by_cases h : nI a < nI b
  · rw [if_pos h]
    have := (nI_ltI ha hb).mp h
    rw [Nat.max_eq_right (by omega)]
  · rw [if_neg h]
    have : ¬ a < b := fun q => h ((nI_ltI ha hb).mpr q)
    rw [Nat.max_eq_left (by omega)]
theorem bt_nI (a : Int32) {n : Nat} (hn : n + 1 < 2 ^ 31) : ∃ j : Nat, j ≤ n ∧ fTa_between a (nI n) = nI j := by
  unfold fTa_between
  rcases pk_ix a (n := n + 1) hn with h | h | ⟨j, hj, rfl⟩
  · refine ⟨0, Nat.zero_le _, ?_⟩
    have h1 : ¬ nI n < a := by
      rw [Int32.lt_iff_toInt_lt, nI_toInt (by omega)]
      rw [Int32.lt_iff_toInt_lt, Int32.toInt_zero] at h
      omega
    rw [show mn a (nI n) = a from if_neg h1]
    exact if_neg (by
      rw [Int32.lt_iff_toInt_lt, Int32.toInt_zero]
      rw [Int32.lt_iff_toInt_lt, Int32.toInt_zero] at h
      omega)
  · refine ⟨n, Nat.le_refl _, ?_⟩
    have h1 : nI n < a := by
      rw [Int32.lt_iff_toInt_lt, nI_toInt (by omega)]
      rw [Int32.le_iff_toInt_le, nI_toInt hn] at h
      omega
    rw [show mn a (nI n) = nI n from if_pos h1]
    exact (mx_nI (a := 0) (by decide) (by omega)).trans (by rw [Nat.zero_max])
  · refine ⟨j, by omega, ?_⟩
    rw [mn_nI (by omega) (by omega), Nat.min_eq_left (by omega)]
    exact (mx_nI (a := 0) (by decide) (by omega)).trans (by rw [Nat.zero_max])
/-- the cell in which a lies, and the place in it -/
theorem ji_nI (a : Int32) : ∃ j : Nat, j ≤ 6 ∧ mn ((fTa_between a 896) / 128) 6 = nI j := by
  obtain ⟨j, hj, e⟩ := bt_nI a (n := 896) (by decide)
  have e : fTa_between a 896 = nI j := e
  refine ⟨min (j / 128) 6, Nat.min_le_right _ _, ?_⟩
  rw [e]
  show mn (nI j / nI 128) (nI 6) = _
  rw [pk_div (by omega) (by decide) (by decide), mn_nI (by omega) (by decide)]
theorem jj_nI (a : Int32) : ∃ j : Nat, j ≤ 6 ∧ mn ((fTa_between a 7000) / 1000) 6 = nI j := by
  obtain ⟨j, hj, e⟩ := bt_nI a (n := 7000) (by decide)
  have e : fTa_between a 7000 = nI j := e
  refine ⟨min (j / 1000) 6, Nat.min_le_right _ _, ?_⟩
  rw [e]
  show mn (nI j / nI 1000) (nI 6) = _
  rw [pk_div (by omega) (by decide) (by decide), mn_nI (by omega) (by decide)]
theorem ix_nI (k i j : Nat) : fTa_indexOf (nI k) (nI i) (nI j) = nI ((k * 8 + i) * 8 + j) := by
  show ((nI k * nI 8 + nI i) * nI 8 + nI j) = _
  rw [pk_mul, nI_add, pk_mul, nI_add]
theorem ix_in {k i j : Nat} (hk : k < 5) (hi : i < 8) (hj : j < 8) : vp_in (fTa_indexOf (nI k) (nI i) (nI j)) 320 := by
  rw [ix_nI]; exact vp_in_nI (by omega) (by decide)
theorem jo_78 {ki pa ps : Int32} (hk : vp_in ki 5) : vp_in (fTa_indexOf ki (mn ((fTa_between pa 896) / 128) 6) (mn ((fTa_between ps 7000) / 1000) 6)) 320 := by
  obtain ⟨k, h1, rfl⟩ := vp_in_of hk (by decide)
  obtain ⟨i, h2, e2⟩ := ji_nI pa
  obtain ⟨j, h3, e3⟩ := jj_nI ps
  rw [e2, e3]; exact ix_in h1 (by omega) (by omega)
theorem jo_100 {ki pa ps : Int32} (hk : vp_in ki 5) : vp_in (fTa_indexOf ki ((mn ((fTa_between pa 896) / 128) 6) + 1) (mn ((fTa_between ps 7000) / 1000) 6)) 320 := by
  obtain ⟨k, h1, rfl⟩ := vp_in_of hk (by decide)
  obtain ⟨i, h2, e2⟩ := ji_nI pa
  obtain ⟨j, h3, e3⟩ := jj_nI ps
  rw [e2, e3, nI_1]; exact ix_in h1 (by omega) (by omega)
theorem jo_121 {ki pa ps : Int32} (hk : vp_in ki 5) : vp_in (fTa_indexOf ki (mn ((fTa_between pa 896) / 128) 6) ((mn ((fTa_between ps 7000) / 1000) 6) + 1)) 320 := by
  obtain ⟨k, h1, rfl⟩ := vp_in_of hk (by decide)
  obtain ⟨i, h2, e2⟩ := ji_nI pa
  obtain ⟨j, h3, e3⟩ := jj_nI ps
  rw [e2, e3, nI_1]; exact ix_in h1 (by omega) (by omega)
theorem jo_145 {ki pa ps : Int32} (hk : vp_in ki 5) : vp_in (fTa_indexOf ki ((mn ((fTa_between pa 896) / 128) 6) + 1) ((mn ((fTa_between ps 7000) / 1000) 6) + 1)) 320 := by
  obtain ⟨k, h1, rfl⟩ := vp_in_of hk (by decide)
  obtain ⟨i, h2, e2⟩ := ji_nI pa
  obtain ⟨j, h3, e3⟩ := jj_nI ps
  rw [e2, e3, nI_1, nI_1]; exact ix_in h1 (by omega) (by omega)
theorem up_ {x : Int32} {n : Nat} (hn : n < 2 ^ 31) (h0 : ¬ x < 0) (h1 : ¬ nI n ≤ x) : ∃ j : Nat, j < n ∧ x = nI j := by
  rcases pk_ix x hn with h | h | h
  · exact absurd h h0
  · exact absurd h h1
  · exact h
theorem pl_ {px py : Int32} (h : ¬ fTa_isPlace px py = 0) : ∃ i j : Nat, i < 8 ∧ j < 8 ∧ px = nI i ∧ py = nI j := by
  unfold fTa_isPlace at h
  by_cases h1 : px < 0
  · exact absurd (if_pos h1) h
  rw [if_neg h1] at h
  by_cases h2 : 8 ≤ px
  · exact absurd (if_pos h2) h
  rw [if_neg h2] at h
  by_cases h3 : py < 0
  · exact absurd (if_pos h3) h
  rw [if_neg h3] at h
  by_cases h4 : 8 ≤ py
  · exact absurd (if_pos h4) h
  obtain ⟨i, hi, ei⟩ := up_ (n := 8) (by decide) h1 h2
  obtain ⟨j, hj, ej⟩ := up_ (n := 8) (by decide) h3 h4
  exact ⟨i, j, hi, hj, ei, ej⟩
theorem tb_in {ki px py : Int32} (h1 : ¬ ki < 0) (h2 : ki < 5) (h3 : ¬ fTa_isPlace px py = 0) : vp_in (fTa_indexOf ki px py) 320 := by
  obtain ⟨k, hk, rfl⟩ := up_ (n := 5) (by decide) h1 (k2_nle h2)
  obtain ⟨i, j, hi, hj, rfl, rfl⟩ := pl_ h3
  exact ix_in hk hi hj
theorem wi_in {rk : Int32} (h1 : ¬ rk < 1) (h2 : rk ≤ 5) : vp_in rk 6 := by
  rw [vp_in_iff]
  rw [Int32.lt_iff_toInt_lt] at h1
  rw [Int32.le_iff_toInt_le] at h2
  have e1 : (1 : Int32).toInt = 1 := by decide
  have e5 : (5 : Int32).toInt = 5 := by decide
  omega
theorem se_in {wh : Int32} (h1 : ¬ wh < 0) (h2 : wh < 3) : vp_in wh 3 := by
  rw [vp_in_iff]
  rw [Int32.lt_iff_toInt_lt] at h1 h2
  have e1 : (0 : Int32).toInt = 0 := by decide
  have e5 : (3 : Int32).toInt = 3 := by decide
  omega
-- pure rows that the walks of the reference ask for
theorem vl_nI (pa : Int64) {n : Nat} (hn : n < 2 ^ 31) : ∃ j : Nat, j ≤ n ∧ (if 0 ≤ (lg_cmp pa 0) then (if (lg_cmp pa (lN n)) ≤ 0 then (pa.toInt32) else nI n) else 0) = nI j := by
  by_cases h1 : 0 ≤ lg_cmp pa 0
  · rw [if_pos h1]
    have h1 := (lg_cmp_ge pa 0).mp h1
    by_cases h2 : lg_cmp pa (lN n) ≤ 0
    · rw [if_pos h2]
      have h2 := (lg_cmp_le pa (lN n)).mp h2
      obtain ⟨k, hk, rfl⟩ := pk_lOf (x := pa) (by
        rw [Int64.lt_iff_toInt_lt, Int64.toInt_zero]
        rw [Int64.le_iff_toInt_le, Int64.toInt_zero] at h1
        omega)
      exact ⟨k, (pk_lLE hk (by omega)).mp h2, lN_i k⟩
    · rw [if_neg h2]
      exact ⟨n, Nat.le_refl n, rfl⟩
  · rw [if_neg h1]
    exact ⟨0, Nat.zero_le n, rfl⟩
theorem vj_nI {x d : Int32} {j D : Nat} (hj : j < 2 ^ 31) (hx : x = nI j) (hd : d = nI D) (h0 : 0 < D) (hD : D < 2 ^ 31) : ∃ i : Nat, i ≤ 6 ∧ (if x / d ≤ 6 then x / d else 6) = nI i := by
  have e : x / d = nI (j / D) := by rw [hx, hd, pk_div hj h0 hD]
  rw [e]
  have hq : j / D < 2 ^ 31 := Nat.lt_of_le_of_lt (Nat.div_le_self _ _) hj
  by_cases h : nI (j / D) ≤ 6
  · rw [if_pos h]
    exact ⟨j / D, (nI_leI hq (by decide : (6 : Nat) < 2 ^ 31)).mp h, rfl⟩
  · rw [if_neg h]
    exact ⟨6, Nat.le_refl 6, rfl⟩
theorem vi_nI (pa : Int64) : ∃ i : Nat, i ≤ 6 ∧ vZ_valueAt_2 pa = nI i := by
  obtain ⟨j, hj, e⟩ := vl_nI pa (n := 896) (by decide)
  exact vj_nI (x := vZ_valueAt_0 pa) (d := 128) (D := 128) (by omega) e rfl (by decide) (by decide)
theorem vs_nI (ps : Int64) : ∃ i : Nat, i ≤ 6 ∧ vZ_valueAt_3 ps = nI i := by
  obtain ⟨j, hj, e⟩ := vl_nI ps (n := 7000) (by decide)
  exact vj_nI (x := vZ_valueAt_1 ps) (d := 1000) (D := 1000) (by omega) e rfl (by decide) (by decide)
theorem iz_nI (k i j : Nat) : (((64 * nI k) + (8 * nI i)) + nI j) = nI (64 * k + 8 * i + j) := by
  show (((nI 64 * nI k) + (nI 8 * nI i)) + nI j) = _
  rw [pk_mul, pk_mul, nI_add, nI_add]
theorem iz_in {k i j : Nat} (hk : k < 5) (hi : i < 8) (hj : j < 8) : vp_in (((64 * nI k) + (8 * nI i)) + nI j) 320 := by
  rw [iz_nI]; exact vp_in_nI (by omega) (by decide)
theorem vz_137 {ki : Int32} {pa ps : Int64} (hk : vp_in ki 5) : vp_in (((64 * ki) + (8 * (vZ_valueAt_2 pa))) + (vZ_valueAt_3 ps)) 320 := by
  obtain ⟨k, h1, rfl⟩ := vp_in_of hk (by decide)
  obtain ⟨i, h2, e2⟩ := vi_nI pa
  obtain ⟨j, h3, e3⟩ := vs_nI ps
  rw [e2, e3]; exact iz_in h1 (by omega) (by omega)
theorem vz_163 {ki : Int32} {pa ps : Int64} (hk : vp_in ki 5) : vp_in (((64 * ki) + (8 * ((vZ_valueAt_2 pa) + 1))) + (vZ_valueAt_3 ps)) 320 := by
  obtain ⟨k, h1, rfl⟩ := vp_in_of hk (by decide)
  obtain ⟨i, h2, e2⟩ := vi_nI pa
  obtain ⟨j, h3, e3⟩ := vs_nI ps
  rw [e2, e3, nI_1]; exact iz_in h1 (by omega) (by omega)
theorem vz_186 {ki : Int32} {pa ps : Int64} (hk : vp_in ki 5) : vp_in (((64 * ki) + (8 * (vZ_valueAt_2 pa))) + ((vZ_valueAt_3 ps) + 1)) 320 := by
  obtain ⟨k, h1, rfl⟩ := vp_in_of hk (by decide)
  obtain ⟨i, h2, e2⟩ := vi_nI pa
  obtain ⟨j, h3, e3⟩ := vs_nI ps
  rw [e2, e3, nI_1]; exact iz_in h1 (by omega) (by omega)
theorem vz_211 {ki : Int32} {pa ps : Int64} (hk : vp_in ki 5) : vp_in (((64 * ki) + (8 * ((vZ_valueAt_2 pa) + 1))) + ((vZ_valueAt_3 ps) + 1)) 320 := by
  obtain ⟨k, h1, rfl⟩ := vp_in_of hk (by decide)
  obtain ⟨i, h2, e2⟩ := vi_nI pa
  obtain ⟨j, h3, e3⟩ := vs_nI ps
  rw [e2, e3, nI_1, nI_1]; exact iz_in h1 (by omega) (by omega)
theorem le_in {x M : Int32} {n : Nat} (hM : M.toInt = n) (h0 : ¬ x < 0) (h1 : x ≤ M) : ∃ j : Nat, j < n + 1 ∧ x = nI j := by
  obtain ⟨j, hj, e⟩ := nI_of2 hM h0 h1
  exact ⟨j, by omega, e⟩
theorem tz_in {ki px py : Int32} (h1 : ¬ ki < 0) (h2 : ki ≤ 4) (h3 : ¬ px < 0) (h4 : ¬ 7 < px) (h5 : ¬ py < 0) (h6 : ¬ 7 < py) : vp_in (((64 * ki) + (8 * px)) + py) 320 := by
  obtain ⟨k, hk, rfl⟩ := le_in (n := 4) (by decide) h1 h2
  obtain ⟨i, hi, rfl⟩ := le_in (n := 7) (by decide) h3 (k2_le h4)
  obtain ⟨j, hj, rfl⟩ := le_in (n := 7) (by decide) h5 (k2_le h6)
  exact iz_in hk hi hj
theorem wz_in {zw : Int32} (hw : vp_in zw 17) (h : ¬ zw = 16) : vp_in zw 16 := by
  obtain ⟨k, hk, rfl⟩ := vp_in_of hw (by decide)
  refine vp_in_nI ?_ (by decide)
  have : k ≠ 16 := fun e => h (by rw [e]; rfl)
  omega
theorem sz_in {wh : Int32} (h1 : ¬ wh < 0) (h2 : wh ≤ 2) : vp_in wh 3 := by
  obtain ⟨j, hj, rfl⟩ := le_in (n := 2) (by decide) h1 h2
  exact vp_in_nI hj (by decide)
theorem pz_ne {zc : Int32} {pv : Int64} (hc : ¬ zc < 1 ∧ zc ≤ 12) (h1 : ¬ (lg_cmp pv 0) < 0) (h2 : (lg_cmp pv 10000) ≤ 0) (h3 : (vZ_period_0 pv) ≤ 0) : ¬ (pv * (zc.toInt64)) = 0 := by
  have e : ¬ pv = 0 := fun q => by
    unfold vZ_period_0 at h3
    rw [q] at h3
    exact absurd h3 (by decide)
  have g1 : (0 : Int64) ≤ pv := by
    rw [Int64.le_iff_toInt_le, Int64.toInt_zero]
    have : ¬ pv < 0 := fun q => h1 ((lg_cmp_lt pv 0).mpr q)
    rw [Int64.lt_iff_toInt_lt, Int64.toInt_zero] at this
    omega
  have g2 := (lg_cmp_le pv 10000).mp h2
  rw [Int64.le_iff_toInt_le] at g1 g2
  obtain ⟨c1, c2⟩ := hc
  rw [Int32.lt_iff_toInt_lt] at c1
  rw [Int32.le_iff_toInt_le] at c2
  have k0 : (0 : Int64).toInt = 0 := by decide
  have k1 : (10000 : Int64).toInt = 10000 := by decide
  have k2 : (1 : Int32).toInt = 1 := by decide
  have k3 : (12 : Int32).toInt = 12 := by decide
  have e2 : pv.toInt ≠ 0 := fun q => e (Int64.toInt_inj.mp (by rw [q, k0]))
  intro q
  have q2 : (pv * zc.toInt64).toInt = 0 := by rw [q, k0]
  have b1 : 1 ≤ zc.toInt := by omega
  have b2 : zc.toInt ≤ 12 := by omega
  have b3 : 1 ≤ pv.toInt := by omega
  have b4 : pv.toInt ≤ 10000 := by omega
  have m1 : pv.toInt * zc.toInt ≤ 10000 * 12 := Int.mul_le_mul b4 b2 (by omega) (by omega)
  have m2 : 1 * 1 ≤ pv.toInt * zc.toInt := Int.mul_le_mul b3 b1 (by omega) (by omega)
  rw [Kit.i64_mul (by rw [Kit.i64_of_i32]; omega) (by rw [Kit.i64_of_i32]; omega), Kit.i64_of_i32] at q2
  omega
-- a call whose answer is told by an equation: it stands on the stack as it is told
section calls
variable {p : Program} {l : Launch} {e : Env} {R : Room} {s : State} {m : MethodId} {args : Array Value} {below : List Frame} {meth : Method} {c : Code} {H : Heap} {locs : List Loc} {cells slots : Nat} {Q : State → Prop}
variable {pc : Nat} {ls : Array Slot} {rest st0 : List Value} {a : Array Value} {A0 A1 : Nat → Prop} {H0 : Heap} {mc ms : Nat} {free : Addr → Prop}
theorem ca_i {f : Int32} {B : State → Prop} (hr : va_Run p l e R s m args below meth c H locs cells slots mc ms (F0 m pc ls st0) rest (va_Qi (fun r (_ : Unit) => r = f) (fun _ t => B t) A1 a) free) (hS : va_S A0 H0 H locs) (hA : ∀ q, q < H.size → A1 q → A0 q) (hf : ∀ q, free q → A0 q)
    (kk : ∀ (t : State) (H1 : Heap) (locs1 : List Loc), t.heap = H1 → s.vm.Alike t.vm → B t → H.size ≤ H1.size → (∀ q : Nat, q < H.size → ¬ A1 q → H1[q]? = H[q]?) → va_S A0 H0 H1 locs1 → W p l e R s m args below meth c H1 locs1 (cells + mc) (slots + ms) Q (F0 m (pc + 3) ls (.int f :: rest))) : W p l e R s m args below meth c H locs cells slots Q (F0 m pc ls st0) :=
  va_calli hr hS hA hf (fun r _ t H1 locs1 ht hvm hw hB hz hk hS => by
    have hw : r = f := hw
    rw [hw]
    exact kk t H1 locs1 ht hvm hB hz hk hS)
theorem ca_l {f : Int64} {B : State → Prop} (hr : va_Run p l e R s m args below meth c H locs cells slots mc ms (F0 m pc ls st0) rest (va_Ql (fun r (_ : Unit) => r = f) (fun _ t => B t) A1 a) free) (hS : va_S A0 H0 H locs) (hA : ∀ q, q < H.size → A1 q → A0 q) (hf : ∀ q, free q → A0 q)
    (kk : ∀ (t : State) (H1 : Heap) (locs1 : List Loc), t.heap = H1 → s.vm.Alike t.vm → B t → H.size ≤ H1.size → (∀ q : Nat, q < H.size → ¬ A1 q → H1[q]? = H[q]?) → va_S A0 H0 H1 locs1 → W p l e R s m args below meth c H1 locs1 (cells + mc) (slots + ms) Q (F0 m (pc + 3) ls (.long f :: rest))) : W p l e R s m args below meth c H locs cells slots Q (F0 m pc ls st0) :=
  va_calll hr hS hA hf (fun r _ t H1 locs1 ht hvm hw hB hz hk hS => by
    have hw : r = f := hw
    rw [hw]
    exact kk t H1 locs1 ht hvm hB hz hk hS)
theorem ca_v {B : State → Prop} (hr : va_Run p l e R s m args below meth c H locs cells slots mc ms (F0 m pc ls st0) rest (va_Qv (fun (_ : Unit) => True) (fun _ t => B t) A1 a) free) (hS : va_S A0 H0 H locs) (hA : ∀ q, q < H.size → A1 q → A0 q) (hf : ∀ q, free q → A0 q)
    (kk : ∀ (t : State) (H1 : Heap) (locs1 : List Loc), t.heap = H1 → s.vm.Alike t.vm → B t → H.size ≤ H1.size → (∀ q : Nat, q < H.size → ¬ A1 q → H1[q]? = H[q]?) → va_S A0 H0 H1 locs1 → W p l e R s m args below meth c H1 locs1 (cells + mc) (slots + ms) Q (F0 m (pc + 3) ls rest)) : W p l e R s m args below meth c H locs cells slots Q (F0 m pc ls st0) :=
  va_callv hr hS hA hf (fun _ t H1 locs1 ht hvm _ hB hz hk hS => kk t H1 locs1 ht hvm hB hz hk hS)
end calls
end
section
set_option maxHeartbeats 4000000 in
set_option maxRecDepth 100000 in
theorem c_Ta_isPlace (l : Launch) (dC : Nat → ClassId) (dI : Nat → Nat → Nat) (sz : Nat) (p0 : Int32) (p1 : Int32) : Met l y_Ta_isPlace w_Ta_isPlace { frames := 0, cells := 0, slots := 0, locals := 0 } (va_Pc [.int p0, .int p1] (pr_ (dC, dI) [] [] sz)) (va_Qi (fun r (_ : Unit) => r = (fTa_isPlace p0 p1)) (fun _ t => at_ (dC, dI) (va_A [] sz) [] [] t) (va_A [] sz)) 0 0 (va_A [] sz) := by
  refine Met.ofW (cc := b_Ta_isPlace) (maxL := 2) (ret := (some .boolean)) (by decide) rfl ?_
  intro p e s m args below meth c s₁ B hml hv
  obtain ⟨rfl, hsz, hP, hK, hD0, hN⟩ := hv
  have hx := B.exec
  have hb := B.bytes
  have hr := B.returns
  have hts0 := atoms_spec (ws := w_Ta_isPlace) B.pre
  have hts : ∀ w ∈ wA_, w.before _ s = true := fun w h => hts0 w (List.mem_cons_of_mem _ h)
  have hown : s.vm.findClass R_Ta = some m.cls := findClass_of_methodNamed B.named
  have hlocks := B.notSynchronized
  subst hsz
  have hD := hD0.self (sz := s.heap.size)
  generalize hAe : va_A [] s.heap.size = A at hD ⊢
  have hA : ∀ q : Nat, s.heap.size ≤ q → A q := fun q h => by rw [← hAe]; exact Or.inr h
  have hS : va_S A s.heap s.heap [] := va_S.rf
  have hP : va_P (dC, dI) classes [] s.heap := hP
  have hl := lv_entry ([.int p0, .int p1]) (n := 2) (Nat.le_of_ble_eq_true rfl)
  rw [lg_entry_eq]
  generalize (lg_sl ([.int p0, .int p1]) ++ List.replicate (2 - (lg_sl ([.int p0, .int p1])).length) Slot.unset).toArray = ls at hl ⊢
  have hl : lv_has ls 2 [(0, .int p0), (1, .int p1)] := hl
  have hS : va_S A s.heap s.heap [] := hS
  refine st_ hP hS (fun H locs hP hS => ?_)
  refine lv_iload_n hx hb d_Ta_isPlace_0 rfl (lv_at hl 0 rfl) ?_
  refine lv_if_lt (tgt := 24) hx hb d_Ta_isPlace_1 (by decide) (fun c_1 => ?_) (fun c_1 => ?_)
  · refine lv_iconst (v := 0) hx hb d_Ta_isPlace_24 (by decide) ?_
    have h9 : va_P (dC, dI) classes [] H ∧ va_D A [] := ⟨hP, hD⟩
    exact W.zret (v := 0) hx hb hr rfl (fun t ht hW => ⟨⟨0, (), rfl, ((if_pos c_1)).symm, by rw [ht]; exact h9.1, va_K.moved hW.alike hK, h9.2⟩, hS.F ht⟩) hS.2.2 d_Ta_isPlace_25
  · refine lv_iload_n hx hb d_Ta_isPlace_4 rfl (lv_at hl 0 rfl) ?_
    refine lv_bipush (v := 8) hx hb d_Ta_isPlace_5 (by decide) ?_
    refine lv_icmp_ge (tgt := 24) hx hb d_Ta_isPlace_7 (by decide) (fun c_2 => ?_) (fun c_2 => ?_)
    · refine lv_iconst (v := 0) hx hb d_Ta_isPlace_24 (by decide) ?_
      have h9 : va_P (dC, dI) classes [] H ∧ va_D A [] := ⟨hP, hD⟩
      exact W.zret (v := 0) hx hb hr rfl (fun t ht hW => ⟨⟨0, (), rfl, (((if_neg c_1).trans (if_pos c_2))).symm, by rw [ht]; exact h9.1, va_K.moved hW.alike hK, h9.2⟩, hS.F ht⟩) hS.2.2 d_Ta_isPlace_25
    · refine lv_iload_n hx hb d_Ta_isPlace_10 rfl (lv_at hl 1 rfl) ?_
      refine lv_if_lt (tgt := 24) hx hb d_Ta_isPlace_11 (by decide) (fun c_3 => ?_) (fun c_3 => ?_)
      · refine lv_iconst (v := 0) hx hb d_Ta_isPlace_24 (by decide) ?_
        have h9 : va_P (dC, dI) classes [] H ∧ va_D A [] := ⟨hP, hD⟩
        exact W.zret (v := 0) hx hb hr rfl (fun t ht hW => ⟨⟨0, (), rfl, (((if_neg c_1).trans ((if_neg c_2).trans (if_pos c_3)))).symm, by rw [ht]; exact h9.1, va_K.moved hW.alike hK, h9.2⟩, hS.F ht⟩) hS.2.2 d_Ta_isPlace_25
      · refine lv_iload_n hx hb d_Ta_isPlace_14 rfl (lv_at hl 1 rfl) ?_
        refine lv_bipush (v := 8) hx hb d_Ta_isPlace_15 (by decide) ?_
        refine lv_icmp_ge (tgt := 24) hx hb d_Ta_isPlace_17 (by decide) (fun c_4 => ?_) (fun c_4 => ?_)
        · refine lv_iconst (v := 0) hx hb d_Ta_isPlace_24 (by decide) ?_
          have h9 : va_P (dC, dI) classes [] H ∧ va_D A [] := ⟨hP, hD⟩
          exact W.zret (v := 0) hx hb hr rfl (fun t ht hW => ⟨⟨0, (), rfl, (((if_neg c_1).trans ((if_neg c_2).trans ((if_neg c_3).trans (if_pos c_4))))).symm, by rw [ht]; exact h9.1, va_K.moved hW.alike hK, h9.2⟩, hS.F ht⟩) hS.2.2 d_Ta_isPlace_25
        · refine lv_iconst (v := 1) hx hb d_Ta_isPlace_20 (by decide) ?_
          refine lv_goto (tgt := 25) hx hb d_Ta_isPlace_21 (by decide) ?_
          have h9 : va_P (dC, dI) classes [] H ∧ va_D A [] := ⟨hP, hD⟩
          exact W.zret (v := 1) hx hb hr rfl (fun t ht hW => ⟨⟨1, (), rfl, (((if_neg c_1).trans ((if_neg c_2).trans ((if_neg c_3).trans (if_neg c_4))))).symm, by rw [ht]; exact h9.1, va_K.moved hW.alike hK, h9.2⟩, hS.F ht⟩) hS.2.2 d_Ta_isPlace_25
set_option maxHeartbeats 4000000 in
set_option maxRecDepth 100000 in
theorem c_Ta_between (l : Launch) (dC : Nat → ClassId) (dI : Nat → Nat → Nat) (sz : Nat) (p0 : Int32) (p1 : Int32) : Met l y_Ta_between w_Ta_between { frames := 1, cells := 0, slots := 0, locals := 21 } (va_Pc [.int p0, .int p1] (pr_ (dC, dI) [] [] sz)) (va_Qi (fun r (_ : Unit) => r = (fTa_between p0 p1)) (fun _ t => at_ (dC, dI) (va_A [] sz) [] [] t) (va_A [] sz)) 0 0 (va_A [] sz) := by
  refine Met.ofW (cc := b_Ta_between) (maxL := 2) (ret := (some .int)) (by decide) rfl ?_
  intro p e s m args below meth c s₁ B hml hv
  obtain ⟨rfl, hsz, hP, hK, hD0, hN⟩ := hv
  have hx := B.exec
  have hb := B.bytes
  have hr := B.returns
  have hts0 := atoms_spec (ws := w_Ta_between) B.pre
  have hts : ∀ w ∈ wA_, w.before _ s = true := fun w h => hts0 w (List.mem_cons_of_mem _ h)
  have hown : s.vm.findClass R_Ta = some m.cls := findClass_of_methodNamed B.named
  have hlocks := B.notSynchronized
  subst hsz
  have hD := hD0.self (sz := s.heap.size)
  generalize hAe : va_A [] s.heap.size = A at hD ⊢
  have hA : ∀ q : Nat, s.heap.size ≤ q → A q := fun q h => by rw [← hAe]; exact Or.inr h
  have hS : va_S A s.heap s.heap [] := va_S.rf
  have hP : va_P (dC, dI) classes [] s.heap := hP
  have hl := lv_entry ([.int p0, .int p1]) (n := 2) (Nat.le_of_ble_eq_true rfl)
  rw [lg_entry_eq]
  generalize (lg_sl ([.int p0, .int p1]) ++ List.replicate (2 - (lg_sl ([.int p0, .int p1])).length) Slot.unset).toArray = ls at hl ⊢
  have hl : lv_has ls 2 [(0, .int p0), (1, .int p1)] := hl
  have hS : va_S A s.heap s.heap [] := hS
  refine st_ hP hS (fun H locs hP hS => ?_)
  refine lv_iconst (v := 0) hx hb d_Ta_between_0 (by decide) ?_
  refine lv_iload_n hx hb d_Ta_between_1 rfl (lv_at hl 0 rfl) ?_
  refine lv_iload_n hx hb d_Ta_between_2 rfl (lv_at hl 1 rfl) ?_
  refine va_mmin hx hb (by rw [hml]; exact hl.1.symm) hown (hts (.methodLink R_Ta 21 Lib.Math.min.name) mw_0) (hts (.static Lib.Math.min.name) mw_1) (hts (.initialized "java/lang/Math") mw_2) (hts (.code Lib.Math.min.name Lib.Math.min.code 2 (some .int)) mw_3) (Nat.le_of_ble_eq_true rfl) (Nat.le_of_ble_eq_true rfl) (Nat.le_of_ble_eq_true rfl) (Nat.le_of_ble_eq_true rfl) d_Ta_between_3 ?_
  refine tpi (y := (mn p0 p1)) rfl ?_
  refine va_mmax hx hb (by rw [hml]; exact hl.1.symm) hown (hts (.methodLink R_Ta 27 Lib.Math.max.name) mw_4) (hts (.static Lib.Math.max.name) mw_5) (hts (.initialized "java/lang/Math") mw_2) (hts (.code Lib.Math.max.name Lib.Math.max.code 2 (some .int)) mw_6) (Nat.le_of_ble_eq_true rfl) (Nat.le_of_ble_eq_true rfl) (Nat.le_of_ble_eq_true rfl) (Nat.le_of_ble_eq_true rfl) d_Ta_between_6 ?_
  refine tpi (y := (mx 0 (mn p0 p1))) rfl ?_
  have h9 : va_P (dC, dI) classes [] H ∧ va_D A [] := ⟨hP, hD⟩
  exact W.iret (v := (mx 0 (mn p0 p1))) hx hb hr (fun t ht hW => ⟨⟨(mx 0 (mn p0 p1)), (), rfl, rfl, by rw [ht]; exact h9.1, va_K.moved hW.alike hK, h9.2⟩, hS.F ht⟩) hS.2.2 d_Ta_between_9
set_option maxHeartbeats 4000000 in
set_option maxRecDepth 100000 in
theorem c_Ta_indexOf (l : Launch) (dC : Nat → ClassId) (dI : Nat → Nat → Nat) (sz : Nat) (p0 : Int32) (p1 : Int32) (p2 : Int32) : Met l y_Ta_indexOf w_Ta_indexOf { frames := 0, cells := 0, slots := 0, locals := 0 } (va_Pc [.int p0, .int p1, .int p2] (pr_ (dC, dI) [] [] sz)) (va_Qi (fun r (_ : Unit) => r = (fTa_indexOf p0 p1 p2)) (fun _ t => at_ (dC, dI) (va_A [] sz) [] [] t) (va_A [] sz)) 0 0 (va_A [] sz) := by
  refine Met.ofW (cc := b_Ta_indexOf) (maxL := 3) (ret := (some .int)) (by decide) rfl ?_
  intro p e s m args below meth c s₁ B hml hv
  obtain ⟨rfl, hsz, hP, hK, hD0, hN⟩ := hv
  have hx := B.exec
  have hb := B.bytes
  have hr := B.returns
  have hts0 := atoms_spec (ws := w_Ta_indexOf) B.pre
  have hts : ∀ w ∈ wA_, w.before _ s = true := fun w h => hts0 w (List.mem_cons_of_mem _ h)
  have hown : s.vm.findClass R_Ta = some m.cls := findClass_of_methodNamed B.named
  have hlocks := B.notSynchronized
  subst hsz
  have hD := hD0.self (sz := s.heap.size)
  generalize hAe : va_A [] s.heap.size = A at hD ⊢
  have hA : ∀ q : Nat, s.heap.size ≤ q → A q := fun q h => by rw [← hAe]; exact Or.inr h
  have hS : va_S A s.heap s.heap [] := va_S.rf
  have hP : va_P (dC, dI) classes [] s.heap := hP
  have hl := lv_entry ([.int p0, .int p1, .int p2]) (n := 3) (Nat.le_of_ble_eq_true rfl)
  rw [lg_entry_eq]
  generalize (lg_sl ([.int p0, .int p1, .int p2]) ++ List.replicate (3 - (lg_sl ([.int p0, .int p1, .int p2])).length) Slot.unset).toArray = ls at hl ⊢
  have hl : lv_has ls 3 [(0, .int p0), (1, .int p1), (2, .int p2)] := hl
  have hS : va_S A s.heap s.heap [] := hS
  refine st_ hP hS (fun H locs hP hS => ?_)
  refine lv_iload_n hx hb d_Ta_indexOf_0 rfl (lv_at hl 0 rfl) ?_
  refine lv_bipush (v := 8) hx hb d_Ta_indexOf_1 (by decide) ?_
  refine lv_imul hx hb d_Ta_indexOf_3 ?_
  refine lv_iload_n hx hb d_Ta_indexOf_4 rfl (lv_at hl 1 rfl) ?_
  refine lv_iadd hx hb d_Ta_indexOf_5 ?_
  refine lv_bipush (v := 8) hx hb d_Ta_indexOf_6 (by decide) ?_
  refine lv_imul hx hb d_Ta_indexOf_8 ?_
  refine lv_iload_n hx hb d_Ta_indexOf_9 rfl (lv_at hl 2 rfl) ?_
  refine lv_iadd hx hb d_Ta_indexOf_10 ?_
  have h9 : va_P (dC, dI) classes [] H ∧ va_D A [] := ⟨hP, hD⟩
  exact W.iret (v := ((((p0 * 8) + p1) * 8) + p2)) hx hb hr (fun t ht hW => ⟨⟨((((p0 * 8) + p1) * 8) + p2), (), rfl, rfl, by rw [ht]; exact h9.1, va_K.moved hW.alike hK, h9.2⟩, hS.F ht⟩) hS.2.2 d_Ta_indexOf_11
set_option maxHeartbeats 4000000 in
set_option maxRecDepth 100000 in
theorem c_Ta_put (l : Launch) (dC : Nat → ClassId) (dI : Nat → Nat → Nat) (h1 h2 : Nat) (kT : ClassId) (sz : Nat) (tb : Nat → Int32) (ki : Int32) (px : Int32) (py : Int32) (pv : Int32) (hin : vp_in (fTa_indexOf ki px py) 320) : Met l y_Ta_put w_Ta_put { frames := 1, cells := 0, slots := 0, locals := 22 } (va_Pc [.ref h1, .int ki, .int px, .int py, .int pv] (pr_ (dC, dI) [(h1, .inr (0, [.ref h2])), (h2, .inl (kT, 320, .inl tb))] [(kT, .int)] sz)) (va_Qi (fun r (_ : Unit) => r = (fTa_put tb ki px py)) (fun _ t => at_ (dC, dI) (va_A [(h1, .inr (0, [.ref h2])), (h2, .inl (kT, 320, .inl tb))] sz) [(h1, .inr (0, [.ref h2])), (h2, .inl (kT, 320, .inl (vTa_put_0 tb ki px py pv)))] [(kT, .int)] t) (va_A [(h1, .inr (0, [.ref h2])), (h2, .inl (kT, 320, .inl tb))] sz)) 0 0 (va_A [(h1, .inr (0, [.ref h2])), (h2, .inl (kT, 320, .inl tb))] sz) := by
  refine Met.ofW (cc := b_Ta_put) (maxL := 7) (ret := (some .int)) (by decide) rfl ?_
  intro p e s m args below meth c s₁ B hml hv
  obtain ⟨rfl, hsz, hP, hK, hD0, hN⟩ := hv
  have hx := B.exec
  have hb := B.bytes
  have hr := B.returns
  have hts0 := atoms_spec (ws := w_Ta_put) B.pre
  have hts : ∀ w ∈ wA_, w.before _ s = true := fun w h => hts0 w (List.mem_cons_of_mem _ h)
  have hown : s.vm.findClass R_Ta = some m.cls := findClass_of_methodNamed B.named
  have hlocks := B.notSynchronized
  subst hsz
  have hD := hD0.self (sz := s.heap.size)
  generalize hAe : va_A [(h1, .inr (0, [.ref h2])), (h2, .inl (kT, 320, .inl tb))] s.heap.size = A at hD ⊢
  have hA : ∀ q : Nat, s.heap.size ≤ q → A q := fun q h => by rw [← hAe]; exact Or.inr h
  have hS : va_S A s.heap s.heap [] := va_S.rf
  have hP : va_P (dC, dI) classes [(h1, .inr (0, [.ref h2])), (h2, .inl (kT, 320, .inl tb))] s.heap := hP
  have hl := lv_entry ([.ref h1, .int ki, .int px, .int py, .int pv]) (n := 7) (Nat.le_of_ble_eq_true rfl)
  rw [lg_entry_eq]
  generalize (lg_sl ([.ref h1, .int ki, .int px, .int py, .int pv]) ++ List.replicate (7 - (lg_sl ([.ref h1, .int ki, .int px, .int py, .int pv])).length) Slot.unset).toArray = ls at hl ⊢
  have hl : lv_has ls 7 [(0, .ref h1), (1, .int ki), (2, .int px), (3, .int py), (4, .int pv)] := hl
  have hS : va_S A s.heap s.heap [] := hS
  refine st_ hP hS (fun H locs hP hS => ?_)
  refine lv_iload_n hx hb d_Ta_put_0 rfl (lv_at hl 1 rfl) ?_
  refine lv_iload_n hx hb d_Ta_put_1 rfl (lv_at hl 2 rfl) ?_
  refine lv_iload_n hx hb d_Ta_put_2 rfl (lv_at hl 3 rfl) ?_
  have hPc := hP.sub (ws' := []) [] rfl
  have hDc := hD.sub (ws' := []) [] (by decide) rfl
  have hKc := hK.sub (tys' := []) [] rfl
  have hFc := va_free (wc := []) hD hS hA [] rfl
  refine ca_i (va_runS (As := [.int ki, .int px, .int py]) (rest := []) ⟨hx, hb, hml, hown, hts⟩ (c_Ta_indexOf l dC dI H.size ki px py) (va_cwS 3 hts (gS_ mw_11 mw_10 mw_9 mw_8) rfl rfl rfl (by decide +kernel) ⟨Nat.le_of_ble_eq_true rfl, Nat.le_of_ble_eq_true rfl⟩) ⟨fb_, pu_ hPc hKc hDc hN⟩ rfl rfl hl.1 rfl (lv_room (Nat.le_of_ble_eq_true rfl)) d_Ta_put_3 ⟨Nat.le_of_ble_eq_true rfl, Nat.le_of_ble_eq_true rfl⟩) hS (fun q _ h => hFc q h) hFc (fun t H locs ht hvm hB hz1 hk1 hS => ?_)
  obtain ⟨hP, hD⟩ := aft_ (wr := [(h1, .inr (0, [.ref h2])), (h2, .inl (kT, 320, .inl tb))]) (w1 := []) (w2 := [(h1, .inr (0, [.ref h2])), (h2, .inl (kT, 320, .inl tb))]) hP hD [] [0, 1] [0, 1] rfl rfl (by decide) (by decide) hk1 hFc hB ht rfl (by decide)
  refine lv_istore (lv' := [(5, .int (fTa_indexOf ki px py)), (0, .ref h1), (1, .int ki), (2, .int px), (3, .int py), (4, .int pv)]) hx hb d_Ta_put_6 hl (by decide) rfl (fun ls hl => ?_)
  refine lv_aload_n hx hb d_Ta_put_8 rfl (lv_at hl 1 rfl) ?_
  refine va_get (D := (dC, dI)) (ci := 0) (v := .ref h2) (C := R_Ta) (T := F_Ta) (N := 1) hx hb hts in_Ta hown hK hP 0 rfl rfl 0 (by decide) (hts (.fieldLink R_Ta 9 "TorqueRows$Tables" "values" "[I") mw_7) (fun _ h9 => h9) rfl d_Ta_put_9 ?_
  refine lv_iload hx hb d_Ta_put_12 (lv_at hl 0 rfl) ?_
  refine va_iald hx hb hK hP 1 0 rfl rfl hin d_Ta_put_14 ?_
  refine lv_istore (lv' := [(6, .int (tb (fTa_indexOf ki px py).toNatClampNeg)), (5, .int (fTa_indexOf ki px py)), (0, .ref h1), (1, .int ki), (2, .int px), (3, .int py), (4, .int pv)]) hx hb d_Ta_put_15 hl (by decide) rfl (fun ls hl => ?_)
  refine lv_aload_n hx hb d_Ta_put_17 rfl (lv_at hl 2 rfl) ?_
  refine va_get (D := (dC, dI)) (ci := 0) (v := .ref h2) (C := R_Ta) (T := F_Ta) (N := 1) hx hb hts in_Ta hown hK hP 0 rfl rfl 0 (by decide) (hts (.fieldLink R_Ta 9 "TorqueRows$Tables" "values" "[I") mw_7) (fun _ h9 => h9) rfl d_Ta_put_18 ?_
  refine lv_iload hx hb d_Ta_put_21 (lv_at hl 1 rfl) ?_
  refine lv_iload hx hb d_Ta_put_23 (lv_at hl 6 rfl) ?_
  refine va_iast hx hb hK hP hD hS 1 0 rfl rfl hin d_Ta_put_25 (fun H locs hP hD hS => ?_)
  have hP : va_P (dC, dI) classes [(h1, .inr (0, [.ref h2])), (h2, .inl (kT, 320, .inl (vTa_put_0 tb ki px py pv)))] H := hP
  have hD : va_D A [(h1, .inr (0, [.ref h2])), (h2, .inl (kT, 320, .inl (vTa_put_0 tb ki px py pv)))] := hD
  refine lv_iload hx hb d_Ta_put_26 (lv_at hl 0 rfl) ?_
  have h9 : va_P (dC, dI) classes [(h1, .inr (0, [.ref h2])), (h2, .inl (kT, 320, .inl (vTa_put_0 tb ki px py pv)))] H ∧ va_D A [(h1, .inr (0, [.ref h2])), (h2, .inl (kT, 320, .inl (vTa_put_0 tb ki px py pv)))] := ⟨hP, hD⟩
  exact W.iret (v := (tb (fTa_indexOf ki px py).toNatClampNeg)) hx hb hr (fun t ht hW => ⟨⟨(tb (fTa_indexOf ki px py).toNatClampNeg), (), rfl, rfl, by rw [ht]; exact h9.1, va_K.moved hW.alike hK, h9.2⟩, hS.F ht⟩) hS.2.2 d_Ta_put_28
set_option maxHeartbeats 4000000 in
set_option maxRecDepth 100000 in
theorem c_Ta_joined (l : Launch) (dC : Nat → ClassId) (dI : Nat → Nat → Nat) (h1 h2 : Nat) (kT : ClassId) (sz : Nat) (tb : Nat → Int32) (ki : Int32) (pa : Int32) (ps : Int32) (hk : vp_in ki 5) : Met l y_Ta_joined w_Ta_joined { frames := 2, cells := 0, slots := 0, locals := 42 } (va_Pc [.ref h1, .int ki, .int pa, .int ps] (pr_ (dC, dI) [(h1, .inr (0, [.ref h2])), (h2, .inl (kT, 320, .inl tb))] [(kT, .int)] sz)) (va_Qi (fun r (_ : Unit) => r = (fTa_joined tb ki pa ps)) (fun _ t => at_ (dC, dI) (va_A [(h1, .inr (0, [.ref h2])), (h2, .inl (kT, 320, .inl tb))] sz) [(h1, .inr (0, [.ref h2])), (h2, .inl (kT, 320, .inl tb))] [(kT, .int)] t) (va_A [(h1, .inr (0, [.ref h2])), (h2, .inl (kT, 320, .inl tb))] sz)) 0 0 (va_A [(h1, .inr (0, [.ref h2])), (h2, .inl (kT, 320, .inl tb))] sz) := by
  refine Met.ofW (cc := b_Ta_joined) (maxL := 12) (ret := (some .int)) (by decide) rfl ?_
  intro p e s m args below meth c s₁ B hml hv
  obtain ⟨rfl, hsz, hP, hK, hD0, hN⟩ := hv
  have hx := B.exec
  have hb := B.bytes
  have hr := B.returns
  have hts0 := atoms_spec (ws := w_Ta_joined) B.pre
  have hts : ∀ w ∈ wA_, w.before _ s = true := fun w h => hts0 w (List.mem_cons_of_mem _ h)
  have hown : s.vm.findClass R_Ta = some m.cls := findClass_of_methodNamed B.named
  have hlocks := B.notSynchronized
  subst hsz
  have hD := hD0.self (sz := s.heap.size)
  generalize hAe : va_A [(h1, .inr (0, [.ref h2])), (h2, .inl (kT, 320, .inl tb))] s.heap.size = A at hD ⊢
  have hA : ∀ q : Nat, s.heap.size ≤ q → A q := fun q h => by rw [← hAe]; exact Or.inr h
  have hS : va_S A s.heap s.heap [] := va_S.rf
  have hP : va_P (dC, dI) classes [(h1, .inr (0, [.ref h2])), (h2, .inl (kT, 320, .inl tb))] s.heap := hP
  have hl := lv_entry ([.ref h1, .int ki, .int pa, .int ps]) (n := 12) (Nat.le_of_ble_eq_true rfl)
  rw [lg_entry_eq]
  generalize (lg_sl ([.ref h1, .int ki, .int pa, .int ps]) ++ List.replicate (12 - (lg_sl ([.ref h1, .int ki, .int pa, .int ps])).length) Slot.unset).toArray = ls at hl ⊢
  have hl : lv_has ls 12 [(0, .ref h1), (1, .int ki), (2, .int pa), (3, .int ps)] := hl
  have hS : va_S A s.heap s.heap [] := hS
  refine st_ hP hS (fun H locs hP hS => ?_)
  refine lv_iload_n hx hb d_Ta_joined_0 rfl (lv_at hl 2 rfl) ?_
  refine lv_sipush (v := 896) hx hb d_Ta_joined_1 (by decide) ?_
  have hPc := hP.sub (ws' := []) [] rfl
  have hDc := hD.sub (ws' := []) [] (by decide) rfl
  have hKc := hK.sub (tys' := []) [] rfl
  have hFc := va_free (wc := []) hD hS hA [] rfl
  refine ca_i (va_runS (As := [.int pa, .int 896]) (rest := []) ⟨hx, hb, hml, hown, hts⟩ (c_Ta_between l dC dI H.size pa 896) (va_cwS 2 hts (gS_ mw_15 mw_14 mw_9 mw_13) rfl rfl rfl (by decide +kernel) ⟨Nat.le_of_ble_eq_true rfl, Nat.le_of_ble_eq_true rfl⟩) ⟨fb_, pu_ hPc hKc hDc hN⟩ rfl rfl hl.1 rfl (lv_room (Nat.le_of_ble_eq_true rfl)) d_Ta_joined_4 ⟨Nat.le_of_ble_eq_true rfl, Nat.le_of_ble_eq_true rfl⟩) hS (fun q _ h => hFc q h) hFc (fun t H locs ht hvm hB hz1 hk1 hS => ?_)
  obtain ⟨hP, hD⟩ := aft_ (wr := [(h1, .inr (0, [.ref h2])), (h2, .inl (kT, 320, .inl tb))]) (w1 := []) (w2 := [(h1, .inr (0, [.ref h2])), (h2, .inl (kT, 320, .inl tb))]) hP hD [] [0, 1] [0, 1] rfl rfl (by decide) (by decide) hk1 hFc hB ht rfl (by decide)
  refine lv_istore (lv' := [(4, .int (fTa_between pa 896)), (0, .ref h1), (1, .int ki), (2, .int pa), (3, .int ps)]) hx hb d_Ta_joined_7 hl (by decide) rfl (fun ls hl => ?_)
  refine lv_iload_n hx hb d_Ta_joined_9 rfl (lv_at hl 4 rfl) ?_
  refine lv_sipush (v := 7000) hx hb d_Ta_joined_10 (by decide) ?_
  have hPc := hP.sub (ws' := []) [] rfl
  have hDc := hD.sub (ws' := []) [] (by decide) rfl
  have hKc := hK.sub (tys' := []) [] rfl
  have hFc := va_free (wc := []) hD hS hA [] rfl
  refine ca_i (va_runS (As := [.int ps, .int 7000]) (rest := []) ⟨hx, hb, hml, hown, hts⟩ (c_Ta_between l dC dI H.size ps 7000) (va_cwS 2 hts (gS_ mw_15 mw_14 mw_9 mw_13) rfl rfl rfl (by decide +kernel) ⟨Nat.le_of_ble_eq_true rfl, Nat.le_of_ble_eq_true rfl⟩) ⟨fb_, pu_ hPc hKc hDc hN⟩ rfl rfl hl.1 rfl (lv_room (Nat.le_of_ble_eq_true rfl)) d_Ta_joined_13 ⟨Nat.le_of_ble_eq_true rfl, Nat.le_of_ble_eq_true rfl⟩) hS (fun q _ h => hFc q h) hFc (fun t H locs ht hvm hB hz1 hk1 hS => ?_)
  obtain ⟨hP, hD⟩ := aft_ (wr := [(h1, .inr (0, [.ref h2])), (h2, .inl (kT, 320, .inl tb))]) (w1 := []) (w2 := [(h1, .inr (0, [.ref h2])), (h2, .inl (kT, 320, .inl tb))]) hP hD [] [0, 1] [0, 1] rfl rfl (by decide) (by decide) hk1 hFc hB ht rfl (by decide)
  refine lv_istore (lv' := [(5, .int (fTa_between ps 7000)), (4, .int (fTa_between pa 896)), (0, .ref h1), (1, .int ki), (2, .int pa), (3, .int ps)]) hx hb d_Ta_joined_16 hl (by decide) rfl (fun ls hl => ?_)
  refine lv_iload hx hb d_Ta_joined_18 (lv_at hl 1 rfl) ?_
  refine lv_sipush (v := 128) hx hb d_Ta_joined_20 (by decide) ?_
  refine lv_idiv hx hb d_Ta_joined_23 (by decide) ?_
  refine lv_bipush (v := 6) hx hb d_Ta_joined_24 (by decide) ?_
  refine va_mmin hx hb (by rw [hml]; exact hl.1.symm) hown (hts (.methodLink R_Ta 21 Lib.Math.min.name) mw_0) (hts (.static Lib.Math.min.name) mw_1) (hts (.initialized "java/lang/Math") mw_2) (hts (.code Lib.Math.min.name Lib.Math.min.code 2 (some .int)) mw_3) (Nat.le_of_ble_eq_true rfl) (Nat.le_of_ble_eq_true rfl) (Nat.le_of_ble_eq_true rfl) (Nat.le_of_ble_eq_true rfl) d_Ta_joined_26 ?_
  refine tpi (y := (mn ((fTa_between pa 896) / 128) 6)) rfl ?_
  refine lv_istore (lv' := [(6, .int (mn ((fTa_between pa 896) / 128) 6)), (5, .int (fTa_between ps 7000)), (4, .int (fTa_between pa 896)), (0, .ref h1), (1, .int ki), (2, .int pa), (3, .int ps)]) hx hb d_Ta_joined_29 hl (by decide) rfl (fun ls hl => ?_)
  refine lv_iload hx hb d_Ta_joined_31 (lv_at hl 1 rfl) ?_
  refine lv_sipush (v := 1000) hx hb d_Ta_joined_33 (by decide) ?_
  refine lv_idiv hx hb d_Ta_joined_36 (by decide) ?_
  refine lv_bipush (v := 6) hx hb d_Ta_joined_37 (by decide) ?_
  refine va_mmin hx hb (by rw [hml]; exact hl.1.symm) hown (hts (.methodLink R_Ta 21 Lib.Math.min.name) mw_0) (hts (.static Lib.Math.min.name) mw_1) (hts (.initialized "java/lang/Math") mw_2) (hts (.code Lib.Math.min.name Lib.Math.min.code 2 (some .int)) mw_3) (Nat.le_of_ble_eq_true rfl) (Nat.le_of_ble_eq_true rfl) (Nat.le_of_ble_eq_true rfl) (Nat.le_of_ble_eq_true rfl) d_Ta_joined_39 ?_
  refine tpi (y := (mn ((fTa_between ps 7000) / 1000) 6)) rfl ?_
  refine lv_istore (lv' := [(7, .int (mn ((fTa_between ps 7000) / 1000) 6)), (6, .int (mn ((fTa_between pa 896) / 128) 6)), (5, .int (fTa_between ps 7000)), (4, .int (fTa_between pa 896)), (0, .ref h1), (1, .int ki), (2, .int pa), (3, .int ps)]) hx hb d_Ta_joined_42 hl (by decide) rfl (fun ls hl => ?_)
  refine lv_iload hx hb d_Ta_joined_44 (lv_at hl 3 rfl) ?_
  refine lv_sipush (v := 128) hx hb d_Ta_joined_46 (by decide) ?_
  refine lv_iload hx hb d_Ta_joined_49 (lv_at hl 1 rfl) ?_
  refine lv_imul hx hb d_Ta_joined_51 ?_
  refine lv_isub hx hb d_Ta_joined_52 ?_
  refine lv_istore (lv' := [(8, .int (vTa_joined_0 pa)), (7, .int (mn ((fTa_between ps 7000) / 1000) 6)), (6, .int (mn ((fTa_between pa 896) / 128) 6)), (5, .int (fTa_between ps 7000)), (4, .int (fTa_between pa 896)), (0, .ref h1), (1, .int ki), (2, .int pa), (3, .int ps)]) hx hb d_Ta_joined_53 hl (by decide) rfl (fun ls hl => ?_)
  refine lv_iload hx hb d_Ta_joined_55 (lv_at hl 3 rfl) ?_
  refine lv_sipush (v := 1000) hx hb d_Ta_joined_57 (by decide) ?_
  refine lv_iload hx hb d_Ta_joined_60 (lv_at hl 1 rfl) ?_
  refine lv_imul hx hb d_Ta_joined_62 ?_
  refine lv_isub hx hb d_Ta_joined_63 ?_
  refine lv_istore (lv' := [(9, .int (vTa_joined_1 ps)), (8, .int (vTa_joined_0 pa)), (7, .int (mn ((fTa_between ps 7000) / 1000) 6)), (6, .int (mn ((fTa_between pa 896) / 128) 6)), (5, .int (fTa_between ps 7000)), (4, .int (fTa_between pa 896)), (0, .ref h1), (1, .int ki), (2, .int pa), (3, .int ps)]) hx hb d_Ta_joined_64 hl (by decide) rfl (fun ls hl => ?_)
  refine lv_aload_n hx hb d_Ta_joined_66 rfl (lv_at hl 6 rfl) ?_
  refine va_get (D := (dC, dI)) (ci := 0) (v := .ref h2) (C := R_Ta) (T := F_Ta) (N := 1) hx hb hts in_Ta hown hK hP 0 rfl rfl 0 (by decide) (hts (.fieldLink R_Ta 9 "TorqueRows$Tables" "values" "[I") mw_7) (fun _ h9 => h9) rfl d_Ta_joined_67 ?_
  refine lv_iload_n hx hb d_Ta_joined_70 rfl (lv_at hl 7 rfl) ?_
  refine lv_iload hx hb d_Ta_joined_71 (lv_at hl 3 rfl) ?_
  refine lv_iload hx hb d_Ta_joined_73 (lv_at hl 2 rfl) ?_
  have hPc := hP.sub (ws' := []) [] rfl
  have hDc := hD.sub (ws' := []) [] (by decide) rfl
  have hKc := hK.sub (tys' := []) [] rfl
  have hFc := va_free (wc := []) hD hS hA [] rfl
  refine ca_i (va_runS (As := [.int ki, .int (mn ((fTa_between pa 896) / 128) 6), .int (mn ((fTa_between ps 7000) / 1000) 6)]) (rest := [.ref h2]) ⟨hx, hb, hml, hown, hts⟩ (c_Ta_indexOf l dC dI H.size ki (mn ((fTa_between pa 896) / 128) 6) (mn ((fTa_between ps 7000) / 1000) 6)) (va_cwS 3 hts (gS_ mw_11 mw_10 mw_9 mw_8) rfl rfl rfl (by decide +kernel) ⟨Nat.le_of_ble_eq_true rfl, Nat.le_of_ble_eq_true rfl⟩) ⟨fb_, pu_ hPc hKc hDc hN⟩ rfl rfl hl.1 rfl (lv_room (Nat.le_of_ble_eq_true rfl)) d_Ta_joined_75 ⟨Nat.le_of_ble_eq_true rfl, Nat.le_of_ble_eq_true rfl⟩) hS (fun q _ h => hFc q h) hFc (fun t H locs ht hvm hB hz1 hk1 hS => ?_)
  obtain ⟨hP, hD⟩ := aft_ (wr := [(h1, .inr (0, [.ref h2])), (h2, .inl (kT, 320, .inl tb))]) (w1 := []) (w2 := [(h1, .inr (0, [.ref h2])), (h2, .inl (kT, 320, .inl tb))]) hP hD [] [0, 1] [0, 1] rfl rfl (by decide) (by decide) hk1 hFc hB ht rfl (by decide)
  refine va_iald hx hb hK hP 1 0 rfl rfl (jo_78 hk) d_Ta_joined_78 ?_
  refine lv_sipush (v := 128) hx hb d_Ta_joined_79 (by decide) ?_
  refine lv_iload hx hb d_Ta_joined_82 (lv_at hl 1 rfl) ?_
  refine lv_isub hx hb d_Ta_joined_84 ?_
  refine lv_imul hx hb d_Ta_joined_85 ?_
  refine lv_aload_n hx hb d_Ta_joined_86 rfl (lv_at hl 6 rfl) ?_
  refine va_get (D := (dC, dI)) (ci := 0) (v := .ref h2) (C := R_Ta) (T := F_Ta) (N := 1) hx hb hts in_Ta hown hK hP 0 rfl rfl 0 (by decide) (hts (.fieldLink R_Ta 9 "TorqueRows$Tables" "values" "[I") mw_7) (fun _ h9 => h9) rfl d_Ta_joined_87 ?_
  refine lv_iload_n hx hb d_Ta_joined_90 rfl (lv_at hl 7 rfl) ?_
  refine lv_iload hx hb d_Ta_joined_91 (lv_at hl 3 rfl) ?_
  refine lv_iconst (v := 1) hx hb d_Ta_joined_93 (by decide) ?_
  refine lv_iadd hx hb d_Ta_joined_94 ?_
  refine lv_iload hx hb d_Ta_joined_95 (lv_at hl 2 rfl) ?_
  have hPc := hP.sub (ws' := []) [] rfl
  have hDc := hD.sub (ws' := []) [] (by decide) rfl
  have hKc := hK.sub (tys' := []) [] rfl
  have hFc := va_free (wc := []) hD hS hA [] rfl
  refine ca_i (va_runS (As := [.int ki, .int ((mn ((fTa_between pa 896) / 128) 6) + 1), .int (mn ((fTa_between ps 7000) / 1000) 6)]) (rest := [.ref h2, .int ((tb (fTa_indexOf ki (mn ((fTa_between pa 896) / 128) 6) (mn ((fTa_between ps 7000) / 1000) 6)).toNatClampNeg) * (128 - (vTa_joined_0 pa)))]) ⟨hx, hb, hml, hown, hts⟩ (c_Ta_indexOf l dC dI H.size ki ((mn ((fTa_between pa 896) / 128) 6) + 1) (mn ((fTa_between ps 7000) / 1000) 6)) (va_cwS 3 hts (gS_ mw_11 mw_10 mw_9 mw_8) rfl rfl rfl (by decide +kernel) ⟨Nat.le_of_ble_eq_true rfl, Nat.le_of_ble_eq_true rfl⟩) ⟨fb_, pu_ hPc hKc hDc hN⟩ rfl rfl hl.1 rfl (lv_room (Nat.le_of_ble_eq_true rfl)) d_Ta_joined_97 ⟨Nat.le_of_ble_eq_true rfl, Nat.le_of_ble_eq_true rfl⟩) hS (fun q _ h => hFc q h) hFc (fun t H locs ht hvm hB hz1 hk1 hS => ?_)
  obtain ⟨hP, hD⟩ := aft_ (wr := [(h1, .inr (0, [.ref h2])), (h2, .inl (kT, 320, .inl tb))]) (w1 := []) (w2 := [(h1, .inr (0, [.ref h2])), (h2, .inl (kT, 320, .inl tb))]) hP hD [] [0, 1] [0, 1] rfl rfl (by decide) (by decide) hk1 hFc hB ht rfl (by decide)
  refine va_iald hx hb hK hP 1 0 rfl rfl (jo_100 hk) d_Ta_joined_100 ?_
  refine lv_iload hx hb d_Ta_joined_101 (lv_at hl 1 rfl) ?_
  refine lv_imul hx hb d_Ta_joined_103 ?_
  refine lv_iadd hx hb d_Ta_joined_104 ?_
  refine lv_istore (lv' := [(10, .int (vTa_joined_2 tb ki pa ps)), (9, .int (vTa_joined_1 ps)), (8, .int (vTa_joined_0 pa)), (7, .int (mn ((fTa_between ps 7000) / 1000) 6)), (6, .int (mn ((fTa_between pa 896) / 128) 6)), (5, .int (fTa_between ps 7000)), (4, .int (fTa_between pa 896)), (0, .ref h1), (1, .int ki), (2, .int pa), (3, .int ps)]) hx hb d_Ta_joined_105 hl (by decide) rfl (fun ls hl => ?_)
  refine lv_aload_n hx hb d_Ta_joined_107 rfl (lv_at hl 7 rfl) ?_
  refine va_get (D := (dC, dI)) (ci := 0) (v := .ref h2) (C := R_Ta) (T := F_Ta) (N := 1) hx hb hts in_Ta hown hK hP 0 rfl rfl 0 (by decide) (hts (.fieldLink R_Ta 9 "TorqueRows$Tables" "values" "[I") mw_7) (fun _ h9 => h9) rfl d_Ta_joined_108 ?_
  refine lv_iload_n hx hb d_Ta_joined_111 rfl (lv_at hl 8 rfl) ?_
  refine lv_iload hx hb d_Ta_joined_112 (lv_at hl 4 rfl) ?_
  refine lv_iload hx hb d_Ta_joined_114 (lv_at hl 3 rfl) ?_
  refine lv_iconst (v := 1) hx hb d_Ta_joined_116 (by decide) ?_
  refine lv_iadd hx hb d_Ta_joined_117 ?_
  have hPc := hP.sub (ws' := []) [] rfl
  have hDc := hD.sub (ws' := []) [] (by decide) rfl
  have hKc := hK.sub (tys' := []) [] rfl
  have hFc := va_free (wc := []) hD hS hA [] rfl
  refine ca_i (va_runS (As := [.int ki, .int (mn ((fTa_between pa 896) / 128) 6), .int ((mn ((fTa_between ps 7000) / 1000) 6) + 1)]) (rest := [.ref h2]) ⟨hx, hb, hml, hown, hts⟩ (c_Ta_indexOf l dC dI H.size ki (mn ((fTa_between pa 896) / 128) 6) ((mn ((fTa_between ps 7000) / 1000) 6) + 1)) (va_cwS 3 hts (gS_ mw_11 mw_10 mw_9 mw_8) rfl rfl rfl (by decide +kernel) ⟨Nat.le_of_ble_eq_true rfl, Nat.le_of_ble_eq_true rfl⟩) ⟨fb_, pu_ hPc hKc hDc hN⟩ rfl rfl hl.1 rfl (lv_room (Nat.le_of_ble_eq_true rfl)) d_Ta_joined_118 ⟨Nat.le_of_ble_eq_true rfl, Nat.le_of_ble_eq_true rfl⟩) hS (fun q _ h => hFc q h) hFc (fun t H locs ht hvm hB hz1 hk1 hS => ?_)
  obtain ⟨hP, hD⟩ := aft_ (wr := [(h1, .inr (0, [.ref h2])), (h2, .inl (kT, 320, .inl tb))]) (w1 := []) (w2 := [(h1, .inr (0, [.ref h2])), (h2, .inl (kT, 320, .inl tb))]) hP hD [] [0, 1] [0, 1] rfl rfl (by decide) (by decide) hk1 hFc hB ht rfl (by decide)
  refine va_iald hx hb hK hP 1 0 rfl rfl (jo_121 hk) d_Ta_joined_121 ?_
  refine lv_sipush (v := 128) hx hb d_Ta_joined_122 (by decide) ?_
  refine lv_iload hx hb d_Ta_joined_125 (lv_at hl 2 rfl) ?_
  refine lv_isub hx hb d_Ta_joined_127 ?_
  refine lv_imul hx hb d_Ta_joined_128 ?_
  refine lv_aload_n hx hb d_Ta_joined_129 rfl (lv_at hl 7 rfl) ?_
  refine va_get (D := (dC, dI)) (ci := 0) (v := .ref h2) (C := R_Ta) (T := F_Ta) (N := 1) hx hb hts in_Ta hown hK hP 0 rfl rfl 0 (by decide) (hts (.fieldLink R_Ta 9 "TorqueRows$Tables" "values" "[I") mw_7) (fun _ h9 => h9) rfl d_Ta_joined_130 ?_
  refine lv_iload_n hx hb d_Ta_joined_133 rfl (lv_at hl 8 rfl) ?_
  refine lv_iload hx hb d_Ta_joined_134 (lv_at hl 4 rfl) ?_
  refine lv_iconst (v := 1) hx hb d_Ta_joined_136 (by decide) ?_
  refine lv_iadd hx hb d_Ta_joined_137 ?_
  refine lv_iload hx hb d_Ta_joined_138 (lv_at hl 3 rfl) ?_
  refine lv_iconst (v := 1) hx hb d_Ta_joined_140 (by decide) ?_
  refine lv_iadd hx hb d_Ta_joined_141 ?_
  have hPc := hP.sub (ws' := []) [] rfl
  have hDc := hD.sub (ws' := []) [] (by decide) rfl
  have hKc := hK.sub (tys' := []) [] rfl
  have hFc := va_free (wc := []) hD hS hA [] rfl
  refine ca_i (va_runS (As := [.int ki, .int ((mn ((fTa_between pa 896) / 128) 6) + 1), .int ((mn ((fTa_between ps 7000) / 1000) 6) + 1)]) (rest := [.ref h2, .int ((tb (fTa_indexOf ki (mn ((fTa_between pa 896) / 128) 6) ((mn ((fTa_between ps 7000) / 1000) 6) + 1)).toNatClampNeg) * (128 - (vTa_joined_0 pa)))]) ⟨hx, hb, hml, hown, hts⟩ (c_Ta_indexOf l dC dI H.size ki ((mn ((fTa_between pa 896) / 128) 6) + 1) ((mn ((fTa_between ps 7000) / 1000) 6) + 1)) (va_cwS 3 hts (gS_ mw_11 mw_10 mw_9 mw_8) rfl rfl rfl (by decide +kernel) ⟨Nat.le_of_ble_eq_true rfl, Nat.le_of_ble_eq_true rfl⟩) ⟨fb_, pu_ hPc hKc hDc hN⟩ rfl rfl hl.1 rfl (lv_room (Nat.le_of_ble_eq_true rfl)) d_Ta_joined_142 ⟨Nat.le_of_ble_eq_true rfl, Nat.le_of_ble_eq_true rfl⟩) hS (fun q _ h => hFc q h) hFc (fun t H locs ht hvm hB hz1 hk1 hS => ?_)
  obtain ⟨hP, hD⟩ := aft_ (wr := [(h1, .inr (0, [.ref h2])), (h2, .inl (kT, 320, .inl tb))]) (w1 := []) (w2 := [(h1, .inr (0, [.ref h2])), (h2, .inl (kT, 320, .inl tb))]) hP hD [] [0, 1] [0, 1] rfl rfl (by decide) (by decide) hk1 hFc hB ht rfl (by decide)
  refine va_iald hx hb hK hP 1 0 rfl rfl (jo_145 hk) d_Ta_joined_145 ?_
  refine lv_iload hx hb d_Ta_joined_146 (lv_at hl 2 rfl) ?_
  refine lv_imul hx hb d_Ta_joined_148 ?_
  refine lv_iadd hx hb d_Ta_joined_149 ?_
  refine lv_istore (lv' := [(11, .int (vTa_joined_3 tb ki pa ps)), (10, .int (vTa_joined_2 tb ki pa ps)), (9, .int (vTa_joined_1 ps)), (8, .int (vTa_joined_0 pa)), (7, .int (mn ((fTa_between ps 7000) / 1000) 6)), (6, .int (mn ((fTa_between pa 896) / 128) 6)), (5, .int (fTa_between ps 7000)), (4, .int (fTa_between pa 896)), (0, .ref h1), (1, .int ki), (2, .int pa), (3, .int ps)]) hx hb d_Ta_joined_150 hl (by decide) rfl (fun ls hl => ?_)
  refine lv_iload hx hb d_Ta_joined_152 (lv_at hl 1 rfl) ?_
  refine lv_sipush (v := 1000) hx hb d_Ta_joined_154 (by decide) ?_
  refine lv_iload hx hb d_Ta_joined_157 (lv_at hl 2 rfl) ?_
  refine lv_isub hx hb d_Ta_joined_159 ?_
  refine lv_imul hx hb d_Ta_joined_160 ?_
  refine lv_iload hx hb d_Ta_joined_161 (lv_at hl 0 rfl) ?_
  refine lv_iload hx hb d_Ta_joined_163 (lv_at hl 2 rfl) ?_
  refine lv_imul hx hb d_Ta_joined_165 ?_
  refine lv_iadd hx hb d_Ta_joined_166 ?_
  refine lv_ldc (v := 128000) hx hb hown (hts (.constant R_Ta 26 128000) mw_12) d_Ta_joined_167 ?_
  refine lv_idiv hx hb d_Ta_joined_169 (by decide) ?_
  have h9 : va_P (dC, dI) classes [(h1, .inr (0, [.ref h2])), (h2, .inl (kT, 320, .inl tb))] H ∧ va_D A [(h1, .inr (0, [.ref h2])), (h2, .inl (kT, 320, .inl tb))] := ⟨hP, hD⟩
  exact W.iret (v := ((((vTa_joined_2 tb ki pa ps) * (1000 - (vTa_joined_1 ps))) + ((vTa_joined_3 tb ki pa ps) * (vTa_joined_1 ps))) / 128000)) hx hb hr (fun t ht hW => ⟨⟨((((vTa_joined_2 tb ki pa ps) * (1000 - (vTa_joined_1 ps))) + ((vTa_joined_3 tb ki pa ps) * (vTa_joined_1 ps))) / 128000), (), rfl, rfl, by rw [ht]; exact h9.1, va_K.moved hW.alike hK, h9.2⟩, hS.F ht⟩) hS.2.2 d_Ta_joined_170
set_option maxHeartbeats 4000000 in
set_option maxRecDepth 100000 in
theorem c_Ta_init (l : Launch) (dC : Nat → ClassId) (dI : Nat → Nat → Nat) (h1 : Nat) (sz : Nat) : Met l y_Ta_init w_Ta_init { frames := 1, cells := 1, slots := 320, locals := 20 } (va_Pc [.ref h1] (pr_ (dC, dI) [(h1, .inr (0, [.null]))] [] sz)) (va_Qv (fun (_ : Unit) => True) (fun _ t => ∃ (qx0 : Nat), ∃ (kx0 : ClassId), at_ (dC, dI) (va_A [(h1, .inr (0, [.null]))] sz) [(h1, .inr (0, [.ref qx0])), (qx0, .inl (kx0, 320, .inl (fun _ => 0)))] [(kx0, .int)] t) (va_A [(h1, .inr (0, [.null]))] sz)) 1 320 (va_A [(h1, .inr (0, [.null]))] sz) := by
  refine Met.ofW (cc := b_Ta_init) (maxL := 1) (ret := none) (by decide) rfl ?_
  intro p e s m args below meth c s₁ B hml hv
  obtain ⟨rfl, hsz, hP, hK, hD0, hN⟩ := hv
  have hx := B.exec
  have hb := B.bytes
  have hr := B.returns
  have hts0 := atoms_spec (ws := w_Ta_init) B.pre
  have hts : ∀ w ∈ wA_, w.before _ s = true := fun w h => hts0 w (List.mem_cons_of_mem _ h)
  have hown : s.vm.findClass R_Ta = some m.cls := findClass_of_methodNamed B.named
  have hlocks := B.notSynchronized
  have hin : meth.name = "<init>" := (name_of_methodNamed B.named B.method).1
  subst hsz
  have hD := hD0.self (sz := s.heap.size)
  generalize hAe : va_A [(h1, .inr (0, [.null]))] s.heap.size = A at hD ⊢
  have hA : ∀ q : Nat, s.heap.size ≤ q → A q := fun q h => by rw [← hAe]; exact Or.inr h
  have hS : va_S A s.heap s.heap [] := va_S.rf
  have hP : va_P (dC, dI) classes [(h1, .inr (0, [.null]))] s.heap := hP
  have hl := lv_entry ([.ref h1]) (n := 1) (Nat.le_of_ble_eq_true rfl)
  rw [lg_entry_eq]
  generalize (lg_sl ([.ref h1]) ++ List.replicate (1 - (lg_sl ([.ref h1])).length) Slot.unset).toArray = ls at hl ⊢
  have hl : lv_has ls 1 [(0, .ref h1)] := hl
  have hS : va_S A s.heap s.heap [] := hS
  refine st_ hP hS (fun H locs hP hS => ?_)
  refine lv_aload_n hx hb d_Ta_init_0 rfl (lv_at hl 0 rfl) ?_
  refine W.objInit hx hb hown (hts (.methodLink R_Ta 1 Lib.objectInit) mw_135) (hts (.instanceMethod Lib.objectInit) mw_136) (hts (.code Lib.objectInit ⟨#[0xb1]⟩ 1 none) mw_137) rfl (by rw [hml]; exact hl.1) rfl d_Ta_init_1 (Nat.le_of_ble_eq_true rfl) (Nat.le_of_ble_eq_true rfl) ?_
  refine W.eq (g2 := F0 m 4 ls []) rfl ?_
  refine lv_aload_n hx hb d_Ta_init_4 rfl (lv_at hl 0 rfl) ?_
  refine lv_sipush (v := 320) hx hb d_Ta_init_5 (by decide) ?_
  refine va_newa (atype := .int) (N' := 320) (a0 := (320, .inl (fun _ => 0))) (ty := .int) (n := 320) hx hb (hts (.arrayClass .int) mw_138) rfl hK hP hD hS hA (fun _ => rfl) (by decide) (by decide) (by decide) (Nat.le_of_ble_eq_true rfl) (Nat.le_of_ble_eq_true rfl) d_Ta_init_8 (fun qx0 kx0 H hK hP hD hS => ?_)
  have hP : va_P (dC, dI) classes [(h1, .inr (0, [.null])), (qx0, .inl (kx0, 320, .inl (fun _ => 0)))] H := hP
  have hD : va_D A [(h1, .inr (0, [.null])), (qx0, .inl (kx0, 320, .inl (fun _ => 0)))] := hD
  have hK : va_K (dC, dI) classes [(kx0, .int)] s := hK
  refine W.widen (k := 1) (n := 320) (Nat.le_of_ble_eq_true rfl) (Nat.le_of_ble_eq_true rfl) ?_
  refine va_putF (D := (dC, dI)) (ci := 0) (v := .ref qx0) (ty := (.array .int)) (C := R_Ta) (T := F_Ta) (N := 1) hx hb hts in_Ta t_Ta t_Ta_ok n_Ta hown hK hP hD hS 0 rfl rfl 0 (by decide) (hts (.fieldLink R_Ta 9 "TorqueRows$Tables" "values" "[I") mw_7) (fun _ h9 => h9) rfl hin rfl (by decide +kernel) rfl rfl (Nat.le_of_ble_eq_true rfl) d_Ta_init_10 (fun H locs hP hD hS => ?_)
  have hP : va_P (dC, dI) classes [(h1, .inr (0, [.ref qx0])), (qx0, .inl (kx0, 320, .inl (fun _ => 0)))] H := hP
  have hD : va_D A [(h1, .inr (0, [.ref qx0])), (qx0, .inl (kx0, 320, .inl (fun _ => 0)))] := hD
  have h9 : va_P (dC, dI) classes [(h1, .inr (0, [.ref qx0])), (qx0, .inl (kx0, 320, .inl (fun _ => 0)))] H ∧ va_D A [(h1, .inr (0, [.ref qx0])), (qx0, .inl (kx0, 320, .inl (fun _ => 0)))] := ⟨hP, hD⟩
  exact W.vret hx hb hr (fun t ht hW => ⟨⟨(), rfl, trivial, qx0, kx0, by rw [ht]; exact h9.1, va_K.moved hW.alike hK, h9.2⟩, hS.F ht⟩) hS.2.2 d_Ta_init_13
end
section
set_option maxHeartbeats 4000000 in
set_option maxRecDepth 100000 in
theorem c_Wi_clear (l : Launch) (dC : Nat → ClassId) (dI : Nat → Nat → Nat) (h3 h4 : Nat) (kW : ClassId) (sz : Nat) (wt : Int32) (le : Nat → Int32) : Met l y_Wi_clear w_Wi_clear { frames := 0, cells := 0, slots := 0, locals := 0 } (va_Pc [.ref h3] (pr_ (dC, dI) [(h3, .inr (1, [.ref h4, .int wt])), (h4, .inl (kW, 6, .inl le))] [(kW, .int)] sz)) (va_Qv (fun (_ : Unit) => True) (fun _ t => at_ (dC, dI) (va_A [(h3, .inr (1, [.ref h4, .int wt])), (h4, .inl (kW, 6, .inl le))] sz) [(h3, .inr (1, [.ref h4, .int 0])), (h4, .inl (kW, 6, .inl (vWi_clear_4 le)))] [(kW, .int)] t) (va_A [(h3, .inr (1, [.ref h4, .int wt])), (h4, .inl (kW, 6, .inl le))] sz)) 0 0 (va_A [(h3, .inr (1, [.ref h4, .int wt])), (h4, .inl (kW, 6, .inl le))] sz) := by
  refine Met.ofW (cc := b_Wi_clear) (maxL := 2) (ret := none) (by decide) rfl ?_
  intro p e s m args below meth c s₁ B hml hv
  obtain ⟨rfl, hsz, hP, hK, hD0, hN⟩ := hv
  have hx := B.exec
  have hb := B.bytes
  have hr := B.returns
  have hts0 := atoms_spec (ws := w_Wi_clear) B.pre
  have hts : ∀ w ∈ wA_, w.before _ s = true := fun w h => hts0 w (List.mem_cons_of_mem _ h)
  have hown : s.vm.findClass R_Wi = some m.cls := findClass_of_methodNamed B.named
  have hlocks := B.notSynchronized
  subst hsz
  have hD := hD0.self (sz := s.heap.size)
  generalize hAe : va_A [(h3, .inr (1, [.ref h4, .int wt])), (h4, .inl (kW, 6, .inl le))] s.heap.size = A at hD ⊢
  have hA : ∀ q : Nat, s.heap.size ≤ q → A q := fun q h => by rw [← hAe]; exact Or.inr h
  have hS : va_S A s.heap s.heap [] := va_S.rf
  have hP : va_P (dC, dI) classes [(h3, .inr (1, [.ref h4, .int wt])), (h4, .inl (kW, 6, .inl le))] s.heap := hP
  have hl := lv_entry ([.ref h3]) (n := 2) (Nat.le_of_ble_eq_true rfl)
  rw [lg_entry_eq]
  generalize (lg_sl ([.ref h3]) ++ List.replicate (2 - (lg_sl ([.ref h3])).length) Slot.unset).toArray = ls at hl ⊢
  have hl : lv_has ls 2 [(0, .ref h3)] := hl
  have hS : va_S A s.heap s.heap [] := hS
  refine st_ hP hS (fun H locs hP hS => ?_)
  refine lv_iconst (v := 0) hx hb d_Wi_clear_0 (by decide) ?_
  refine lv_istore_n (lv' := [(1, .int 0), (0, .ref h3)]) hx hb d_Wi_clear_1 rfl hl (by decide) rfl (fun ls hl => ?_)
  refine lv_iload_n hx hb d_Wi_clear_2 rfl (lv_at hl 0 rfl) ?_
  refine lv_iconst (v := 5) hx hb d_Wi_clear_3 (by decide) ?_
  refine lv_icmp_gt (tgt := 20) hx hb d_Wi_clear_4 (by decide) (fun c_1 => ?_) (fun c_1 => ?_)
  · exact absurd c_1 (by decide)
  · refine lv_aload_n hx hb d_Wi_clear_7 rfl (lv_at hl 1 rfl) ?_
    refine va_get (D := (dC, dI)) (ci := 1) (v := .ref h4) (C := R_Wi) (T := F_Wi) (N := 2) hx hb hts in_Wi hown hK hP 0 rfl rfl 0 (by decide) (hts (.fieldLink R_Wi 9 "TorqueRows$Wishes" "least" "[I") mw_16) (fun _ h9 => h9) rfl d_Wi_clear_8 ?_
    refine lv_iload_n hx hb d_Wi_clear_11 rfl (lv_at hl 0 rfl) ?_
    refine lv_iconst (v := (-1)) hx hb d_Wi_clear_12 (by decide) ?_
    refine va_iast hx hb hK hP hD hS 1 0 rfl rfl (by unfold vp_in; decide) d_Wi_clear_13 (fun H locs hP hD hS => ?_)
    have hP : va_P (dC, dI) classes [(h3, .inr (1, [.ref h4, .int wt])), (h4, .inl (kW, 6, .inl (upd le (0 : Int32).toNatClampNeg (-1))))] H := hP
    have hD : va_D A [(h3, .inr (1, [.ref h4, .int wt])), (h4, .inl (kW, 6, .inl (upd le (0 : Int32).toNatClampNeg (-1))))] := hD
    refine lv_iinc (v := 1) (lv' := [(1, .int 1), (0, .ref h3)]) hx hb d_Wi_clear_14 hl (k := 0) rfl (by decide) (by decide) rfl (fun ls hl => ?_)
    refine lv_goto (tgt := 2) hx hb d_Wi_clear_17 (by decide) ?_
    refine lv_iload_n hx hb d_Wi_clear_2 rfl (lv_at hl 0 rfl) ?_
    refine lv_iconst (v := 5) hx hb d_Wi_clear_3 (by decide) ?_
    refine lv_icmp_gt (tgt := 20) hx hb d_Wi_clear_4 (by decide) (fun c_2 => ?_) (fun c_2 => ?_)
    · exact absurd c_2 (by decide)
    · refine lv_aload_n hx hb d_Wi_clear_7 rfl (lv_at hl 1 rfl) ?_
      refine va_get (D := (dC, dI)) (ci := 1) (v := .ref h4) (C := R_Wi) (T := F_Wi) (N := 2) hx hb hts in_Wi hown hK hP 0 rfl rfl 0 (by decide) (hts (.fieldLink R_Wi 9 "TorqueRows$Wishes" "least" "[I") mw_16) (fun _ h9 => h9) rfl d_Wi_clear_8 ?_
      refine lv_iload_n hx hb d_Wi_clear_11 rfl (lv_at hl 0 rfl) ?_
      refine lv_iconst (v := (-1)) hx hb d_Wi_clear_12 (by decide) ?_
      refine va_iast hx hb hK hP hD hS 1 0 rfl rfl (by unfold vp_in; decide) d_Wi_clear_13 (fun H locs hP hD hS => ?_)
      have hP : va_P (dC, dI) classes [(h3, .inr (1, [.ref h4, .int wt])), (h4, .inl (kW, 6, .inl (vWi_clear_0 le)))] H := hP
      have hD : va_D A [(h3, .inr (1, [.ref h4, .int wt])), (h4, .inl (kW, 6, .inl (vWi_clear_0 le)))] := hD
      refine lv_iinc (v := 2) (lv' := [(1, .int 2), (0, .ref h3)]) hx hb d_Wi_clear_14 hl (k := 0) rfl (by decide) (by decide) rfl (fun ls hl => ?_)
      refine lv_goto (tgt := 2) hx hb d_Wi_clear_17 (by decide) ?_
      refine lv_iload_n hx hb d_Wi_clear_2 rfl (lv_at hl 0 rfl) ?_
      refine lv_iconst (v := 5) hx hb d_Wi_clear_3 (by decide) ?_
      refine lv_icmp_gt (tgt := 20) hx hb d_Wi_clear_4 (by decide) (fun c_3 => ?_) (fun c_3 => ?_)
      · exact absurd c_3 (by decide)
      · refine lv_aload_n hx hb d_Wi_clear_7 rfl (lv_at hl 1 rfl) ?_
        refine va_get (D := (dC, dI)) (ci := 1) (v := .ref h4) (C := R_Wi) (T := F_Wi) (N := 2) hx hb hts in_Wi hown hK hP 0 rfl rfl 0 (by decide) (hts (.fieldLink R_Wi 9 "TorqueRows$Wishes" "least" "[I") mw_16) (fun _ h9 => h9) rfl d_Wi_clear_8 ?_
        refine lv_iload_n hx hb d_Wi_clear_11 rfl (lv_at hl 0 rfl) ?_
        refine lv_iconst (v := (-1)) hx hb d_Wi_clear_12 (by decide) ?_
        refine va_iast hx hb hK hP hD hS 1 0 rfl rfl (by unfold vp_in; decide) d_Wi_clear_13 (fun H locs hP hD hS => ?_)
        have hP : va_P (dC, dI) classes [(h3, .inr (1, [.ref h4, .int wt])), (h4, .inl (kW, 6, .inl (vWi_clear_1 le)))] H := hP
        have hD : va_D A [(h3, .inr (1, [.ref h4, .int wt])), (h4, .inl (kW, 6, .inl (vWi_clear_1 le)))] := hD
        refine lv_iinc (v := 3) (lv' := [(1, .int 3), (0, .ref h3)]) hx hb d_Wi_clear_14 hl (k := 0) rfl (by decide) (by decide) rfl (fun ls hl => ?_)
        refine lv_goto (tgt := 2) hx hb d_Wi_clear_17 (by decide) ?_
        refine lv_iload_n hx hb d_Wi_clear_2 rfl (lv_at hl 0 rfl) ?_
        refine lv_iconst (v := 5) hx hb d_Wi_clear_3 (by decide) ?_
        refine lv_icmp_gt (tgt := 20) hx hb d_Wi_clear_4 (by decide) (fun c_4 => ?_) (fun c_4 => ?_)
        · exact absurd c_4 (by decide)
        · refine lv_aload_n hx hb d_Wi_clear_7 rfl (lv_at hl 1 rfl) ?_
          refine va_get (D := (dC, dI)) (ci := 1) (v := .ref h4) (C := R_Wi) (T := F_Wi) (N := 2) hx hb hts in_Wi hown hK hP 0 rfl rfl 0 (by decide) (hts (.fieldLink R_Wi 9 "TorqueRows$Wishes" "least" "[I") mw_16) (fun _ h9 => h9) rfl d_Wi_clear_8 ?_
          refine lv_iload_n hx hb d_Wi_clear_11 rfl (lv_at hl 0 rfl) ?_
          refine lv_iconst (v := (-1)) hx hb d_Wi_clear_12 (by decide) ?_
          refine va_iast hx hb hK hP hD hS 1 0 rfl rfl (by unfold vp_in; decide) d_Wi_clear_13 (fun H locs hP hD hS => ?_)
          have hP : va_P (dC, dI) classes [(h3, .inr (1, [.ref h4, .int wt])), (h4, .inl (kW, 6, .inl (vWi_clear_2 le)))] H := hP
          have hD : va_D A [(h3, .inr (1, [.ref h4, .int wt])), (h4, .inl (kW, 6, .inl (vWi_clear_2 le)))] := hD
          refine lv_iinc (v := 4) (lv' := [(1, .int 4), (0, .ref h3)]) hx hb d_Wi_clear_14 hl (k := 0) rfl (by decide) (by decide) rfl (fun ls hl => ?_)
          refine lv_goto (tgt := 2) hx hb d_Wi_clear_17 (by decide) ?_
          refine lv_iload_n hx hb d_Wi_clear_2 rfl (lv_at hl 0 rfl) ?_
          refine lv_iconst (v := 5) hx hb d_Wi_clear_3 (by decide) ?_
          refine lv_icmp_gt (tgt := 20) hx hb d_Wi_clear_4 (by decide) (fun c_5 => ?_) (fun c_5 => ?_)
          · exact absurd c_5 (by decide)
          · refine lv_aload_n hx hb d_Wi_clear_7 rfl (lv_at hl 1 rfl) ?_
            refine va_get (D := (dC, dI)) (ci := 1) (v := .ref h4) (C := R_Wi) (T := F_Wi) (N := 2) hx hb hts in_Wi hown hK hP 0 rfl rfl 0 (by decide) (hts (.fieldLink R_Wi 9 "TorqueRows$Wishes" "least" "[I") mw_16) (fun _ h9 => h9) rfl d_Wi_clear_8 ?_
            refine lv_iload_n hx hb d_Wi_clear_11 rfl (lv_at hl 0 rfl) ?_
            refine lv_iconst (v := (-1)) hx hb d_Wi_clear_12 (by decide) ?_
            refine va_iast hx hb hK hP hD hS 1 0 rfl rfl (by unfold vp_in; decide) d_Wi_clear_13 (fun H locs hP hD hS => ?_)
            have hP : va_P (dC, dI) classes [(h3, .inr (1, [.ref h4, .int wt])), (h4, .inl (kW, 6, .inl (vWi_clear_3 le)))] H := hP
            have hD : va_D A [(h3, .inr (1, [.ref h4, .int wt])), (h4, .inl (kW, 6, .inl (vWi_clear_3 le)))] := hD
            refine lv_iinc (v := 5) (lv' := [(1, .int 5), (0, .ref h3)]) hx hb d_Wi_clear_14 hl (k := 0) rfl (by decide) (by decide) rfl (fun ls hl => ?_)
            refine lv_goto (tgt := 2) hx hb d_Wi_clear_17 (by decide) ?_
            refine lv_iload_n hx hb d_Wi_clear_2 rfl (lv_at hl 0 rfl) ?_
            refine lv_iconst (v := 5) hx hb d_Wi_clear_3 (by decide) ?_
            refine lv_icmp_gt (tgt := 20) hx hb d_Wi_clear_4 (by decide) (fun c_6 => ?_) (fun c_6 => ?_)
            · exact absurd c_6 (by decide)
            · refine lv_aload_n hx hb d_Wi_clear_7 rfl (lv_at hl 1 rfl) ?_
              refine va_get (D := (dC, dI)) (ci := 1) (v := .ref h4) (C := R_Wi) (T := F_Wi) (N := 2) hx hb hts in_Wi hown hK hP 0 rfl rfl 0 (by decide) (hts (.fieldLink R_Wi 9 "TorqueRows$Wishes" "least" "[I") mw_16) (fun _ h9 => h9) rfl d_Wi_clear_8 ?_
              refine lv_iload_n hx hb d_Wi_clear_11 rfl (lv_at hl 0 rfl) ?_
              refine lv_iconst (v := (-1)) hx hb d_Wi_clear_12 (by decide) ?_
              refine va_iast hx hb hK hP hD hS 1 0 rfl rfl (by unfold vp_in; decide) d_Wi_clear_13 (fun H locs hP hD hS => ?_)
              have hP : va_P (dC, dI) classes [(h3, .inr (1, [.ref h4, .int wt])), (h4, .inl (kW, 6, .inl (vWi_clear_4 le)))] H := hP
              have hD : va_D A [(h3, .inr (1, [.ref h4, .int wt])), (h4, .inl (kW, 6, .inl (vWi_clear_4 le)))] := hD
              refine lv_iinc (v := 6) (lv' := [(1, .int 6), (0, .ref h3)]) hx hb d_Wi_clear_14 hl (k := 0) rfl (by decide) (by decide) rfl (fun ls hl => ?_)
              refine lv_goto (tgt := 2) hx hb d_Wi_clear_17 (by decide) ?_
              refine lv_iload_n hx hb d_Wi_clear_2 rfl (lv_at hl 0 rfl) ?_
              refine lv_iconst (v := 5) hx hb d_Wi_clear_3 (by decide) ?_
              refine lv_icmp_gt (tgt := 20) hx hb d_Wi_clear_4 (by decide) (fun c_7 => ?_) (fun c_7 => ?_)
              · refine lv_aload_n hx hb d_Wi_clear_20 rfl (lv_at hl 1 rfl) ?_
                refine lv_iconst (v := 0) hx hb d_Wi_clear_21 (by decide) ?_
                refine va_put (D := (dC, dI)) (ci := 1) (v := .int 0) (ty := .int) (C := R_Wi) (T := F_Wi) (N := 2) hx hb hts in_Wi t_Wi t_Wi_ok n_Wi hown hK hP hD hS 0 rfl rfl 1 (by decide) (hts (.fieldLink R_Wi 16 "TorqueRows$Wishes" "waiting" "I") mw_17) (fun _ h9 => h9) rfl (by decide +kernel) rfl rfl (Nat.le_of_ble_eq_true rfl) d_Wi_clear_22 (fun H locs hP hD hS => ?_)
                have hP : va_P (dC, dI) classes [(h3, .inr (1, [.ref h4, .int 0])), (h4, .inl (kW, 6, .inl (vWi_clear_4 le)))] H := hP
                have hD : va_D A [(h3, .inr (1, [.ref h4, .int 0])), (h4, .inl (kW, 6, .inl (vWi_clear_4 le)))] := hD
                have h9 : va_P (dC, dI) classes [(h3, .inr (1, [.ref h4, .int 0])), (h4, .inl (kW, 6, .inl (vWi_clear_4 le)))] H ∧ va_D A [(h3, .inr (1, [.ref h4, .int 0])), (h4, .inl (kW, 6, .inl (vWi_clear_4 le)))] := ⟨hP, hD⟩
                exact W.vret hx hb hr (fun t ht hW => ⟨⟨(), rfl, trivial, by rw [ht]; exact h9.1, va_K.moved hW.alike hK, h9.2⟩, hS.F ht⟩) hS.2.2 d_Wi_clear_25
              · exact absurd (by decide) c_7
set_option maxHeartbeats 4000000 in
set_option maxRecDepth 100000 in
theorem c_Wi_add (l : Launch) (dC : Nat → ClassId) (dI : Nat → Nat → Nat) (h3 h4 : Nat) (kW : ClassId) (sz : Nat) (wt : Int32) (le : Nat → Int32) (rk : Int32) (pv : Int32) (hin : vp_in rk 6) : Met l y_Wi_add w_Wi_add { frames := 0, cells := 0, slots := 0, locals := 0 } (va_Pc [.ref h3, .int rk, .int pv] (pr_ (dC, dI) [(h3, .inr (1, [.ref h4, .int wt])), (h4, .inl (kW, 6, .inl le))] [(kW, .int)] sz)) (va_Qi (fun r (_ : Unit) => r = (wt + 1)) (fun _ t => at_ (dC, dI) (va_A [(h3, .inr (1, [.ref h4, .int wt])), (h4, .inl (kW, 6, .inl le))] sz) [(h3, .inr (1, [.ref h4, .int (wt + 1)])), (h4, .inl (kW, 6, .inl (vWi_add_0 le rk pv)))] [(kW, .int)] t) (va_A [(h3, .inr (1, [.ref h4, .int wt])), (h4, .inl (kW, 6, .inl le))] sz)) 0 0 (va_A [(h3, .inr (1, [.ref h4, .int wt])), (h4, .inl (kW, 6, .inl le))] sz) := by
  refine Met.ofW (cc := b_Wi_add) (maxL := 3) (ret := (some .int)) (by decide) rfl ?_
  intro p e s m args below meth c s₁ B hml hv
  obtain ⟨rfl, hsz, hP, hK, hD0, hN⟩ := hv
  have hx := B.exec
  have hb := B.bytes
  have hr := B.returns
  have hts0 := atoms_spec (ws := w_Wi_add) B.pre
  have hts : ∀ w ∈ wA_, w.before _ s = true := fun w h => hts0 w (List.mem_cons_of_mem _ h)
  have hown : s.vm.findClass R_Wi = some m.cls := findClass_of_methodNamed B.named
  have hlocks := B.notSynchronized
  subst hsz
  have hD := hD0.self (sz := s.heap.size)
  generalize hAe : va_A [(h3, .inr (1, [.ref h4, .int wt])), (h4, .inl (kW, 6, .inl le))] s.heap.size = A at hD ⊢
  have hA : ∀ q : Nat, s.heap.size ≤ q → A q := fun q h => by rw [← hAe]; exact Or.inr h
  have hS : va_S A s.heap s.heap [] := va_S.rf
  have hP : va_P (dC, dI) classes [(h3, .inr (1, [.ref h4, .int wt])), (h4, .inl (kW, 6, .inl le))] s.heap := hP
  have hl := lv_entry ([.ref h3, .int rk, .int pv]) (n := 3) (Nat.le_of_ble_eq_true rfl)
  rw [lg_entry_eq]
  generalize (lg_sl ([.ref h3, .int rk, .int pv]) ++ List.replicate (3 - (lg_sl ([.ref h3, .int rk, .int pv])).length) Slot.unset).toArray = ls at hl ⊢
  have hl : lv_has ls 3 [(0, .ref h3), (1, .int rk), (2, .int pv)] := hl
  have hS : va_S A s.heap s.heap [] := hS
  refine st_ hP hS (fun H locs hP hS => ?_)
  refine lv_aload_n hx hb d_Wi_add_0 rfl (lv_at hl 0 rfl) ?_
  refine va_get (D := (dC, dI)) (ci := 1) (v := .ref h4) (C := R_Wi) (T := F_Wi) (N := 2) hx hb hts in_Wi hown hK hP 0 rfl rfl 0 (by decide) (hts (.fieldLink R_Wi 9 "TorqueRows$Wishes" "least" "[I") mw_16) (fun _ h9 => h9) rfl d_Wi_add_1 ?_
  refine lv_iload_n hx hb d_Wi_add_4 rfl (lv_at hl 1 rfl) ?_
  refine va_iald hx hb hK hP 1 0 rfl rfl hin d_Wi_add_5 ?_
  refine lv_iconst (v := (-1)) hx hb d_Wi_add_6 (by decide) ?_
  refine jn 3 [(0, .ref h3), (1, .int rk), (2, .int pv)] [(h3, .inr (1, [.ref h4, .int wt])), (h4, .inl (kW, 6, .inl (vWi_add_0 le rk pv)))] 27 [] (D := (dC, dI)) (A := A) (H0 := s.heap) (fun ls H locs hl hP hD hS => ?_) (fun J_3 => ?_)
  · refine lv_aload_n hx hb d_Wi_add_27 rfl (lv_at hl 0 rfl) ?_
    refine lv_dup hx hb d_Wi_add_28 rfl ?_
    refine va_get (D := (dC, dI)) (ci := 1) (v := .int wt) (C := R_Wi) (T := F_Wi) (N := 2) hx hb hts in_Wi hown hK hP 0 rfl rfl 1 (by decide) (hts (.fieldLink R_Wi 16 "TorqueRows$Wishes" "waiting" "I") mw_17) (fun _ h9 => h9) rfl d_Wi_add_29 ?_
    refine lv_iconst (v := 1) hx hb d_Wi_add_32 (by decide) ?_
    refine lv_iadd hx hb d_Wi_add_33 ?_
    refine va_put (D := (dC, dI)) (ci := 1) (v := .int (wt + 1)) (ty := .int) (C := R_Wi) (T := F_Wi) (N := 2) hx hb hts in_Wi t_Wi t_Wi_ok n_Wi hown hK hP hD hS 0 rfl rfl 1 (by decide) (hts (.fieldLink R_Wi 16 "TorqueRows$Wishes" "waiting" "I") mw_17) (fun _ h9 => h9) rfl (by decide +kernel) rfl rfl (Nat.le_of_ble_eq_true rfl) d_Wi_add_34 (fun H locs hP hD hS => ?_)
    have hP : va_P (dC, dI) classes [(h3, .inr (1, [.ref h4, .int (wt + 1)])), (h4, .inl (kW, 6, .inl (vWi_add_0 le rk pv)))] H := hP
    have hD : va_D A [(h3, .inr (1, [.ref h4, .int (wt + 1)])), (h4, .inl (kW, 6, .inl (vWi_add_0 le rk pv)))] := hD
    refine lv_aload_n hx hb d_Wi_add_37 rfl (lv_at hl 0 rfl) ?_
    refine va_get (D := (dC, dI)) (ci := 1) (v := .int (wt + 1)) (C := R_Wi) (T := F_Wi) (N := 2) hx hb hts in_Wi hown hK hP 0 rfl rfl 1 (by decide) (hts (.fieldLink R_Wi 16 "TorqueRows$Wishes" "waiting" "I") mw_17) (fun _ h9 => h9) rfl d_Wi_add_38 ?_
    have h9 : va_P (dC, dI) classes [(h3, .inr (1, [.ref h4, .int (wt + 1)])), (h4, .inl (kW, 6, .inl (vWi_add_0 le rk pv)))] H ∧ va_D A [(h3, .inr (1, [.ref h4, .int (wt + 1)])), (h4, .inl (kW, 6, .inl (vWi_add_0 le rk pv)))] := ⟨hP, hD⟩
    exact W.iret (v := (wt + 1)) hx hb hr (fun t ht hW => ⟨⟨(wt + 1), (), rfl, rfl, by rw [ht]; exact h9.1, va_K.moved hW.alike hK, h9.2⟩, hS.F ht⟩) hS.2.2 d_Wi_add_41
  · refine lv_icmp_eq (tgt := 20) hx hb d_Wi_add_7 (by decide) (fun c_1 => ?_) (fun c_1 => ?_)
    · refine lv_aload_n hx hb d_Wi_add_20 rfl (lv_at hl 0 rfl) ?_
      refine va_get (D := (dC, dI)) (ci := 1) (v := .ref h4) (C := R_Wi) (T := F_Wi) (N := 2) hx hb hts in_Wi hown hK hP 0 rfl rfl 0 (by decide) (hts (.fieldLink R_Wi 9 "TorqueRows$Wishes" "least" "[I") mw_16) (fun _ h9 => h9) rfl d_Wi_add_21 ?_
      refine lv_iload_n hx hb d_Wi_add_24 rfl (lv_at hl 1 rfl) ?_
      refine lv_iload_n hx hb d_Wi_add_25 rfl (lv_at hl 2 rfl) ?_
      refine va_iast hx hb hK hP hD hS 1 0 rfl rfl hin d_Wi_add_26 (fun H locs hP hD hS => ?_)
      have hP : va_P (dC, dI) classes [(h3, .inr (1, [.ref h4, .int wt])), (h4, .inl (kW, 6, .inl (upd le rk.toNatClampNeg pv)))] H := hP
      have hD : va_D A [(h3, .inr (1, [.ref h4, .int wt])), (h4, .inl (kW, 6, .inl (upd le rk.toNatClampNeg pv)))] := hD
      exact J_3 _ _ _ (lv_sub hl [0, 1, 2] rfl) (by rw [show (vWi_add_0 le rk pv) = (upd le rk.toNatClampNeg pv) from (if_pos c_1)]; exact hP) (by rw [show (vWi_add_0 le rk pv) = (upd le rk.toNatClampNeg pv) from (if_pos c_1)]; exact hD) hS
    · refine lv_iload_n hx hb d_Wi_add_10 rfl (lv_at hl 2 rfl) ?_
      refine lv_aload_n hx hb d_Wi_add_11 rfl (lv_at hl 0 rfl) ?_
      refine va_get (D := (dC, dI)) (ci := 1) (v := .ref h4) (C := R_Wi) (T := F_Wi) (N := 2) hx hb hts in_Wi hown hK hP 0 rfl rfl 0 (by decide) (hts (.fieldLink R_Wi 9 "TorqueRows$Wishes" "least" "[I") mw_16) (fun _ h9 => h9) rfl d_Wi_add_12 ?_
      refine lv_iload_n hx hb d_Wi_add_15 rfl (lv_at hl 1 rfl) ?_
      refine va_iald hx hb hK hP 1 0 rfl rfl hin d_Wi_add_16 ?_
      refine lv_icmp_ge (tgt := 27) hx hb d_Wi_add_17 (by decide) (fun c_4 => ?_) (fun c_4 => ?_)
      · exact J_3 _ _ _ (lv_sub hl [0, 1, 2] rfl) (by rw [show (vWi_add_0 le rk pv) = le from ((if_neg c_1).trans (if_pos c_4))]; exact hP) (by rw [show (vWi_add_0 le rk pv) = le from ((if_neg c_1).trans (if_pos c_4))]; exact hD) hS
      · refine lv_aload_n hx hb d_Wi_add_20 rfl (lv_at hl 0 rfl) ?_
        refine va_get (D := (dC, dI)) (ci := 1) (v := .ref h4) (C := R_Wi) (T := F_Wi) (N := 2) hx hb hts in_Wi hown hK hP 0 rfl rfl 0 (by decide) (hts (.fieldLink R_Wi 9 "TorqueRows$Wishes" "least" "[I") mw_16) (fun _ h9 => h9) rfl d_Wi_add_21 ?_
        refine lv_iload_n hx hb d_Wi_add_24 rfl (lv_at hl 1 rfl) ?_
        refine lv_iload_n hx hb d_Wi_add_25 rfl (lv_at hl 2 rfl) ?_
        refine va_iast hx hb hK hP hD hS 1 0 rfl rfl hin d_Wi_add_26 (fun H locs hP hD hS => ?_)
        have hP : va_P (dC, dI) classes [(h3, .inr (1, [.ref h4, .int wt])), (h4, .inl (kW, 6, .inl (upd le rk.toNatClampNeg pv)))] H := hP
        have hD : va_D A [(h3, .inr (1, [.ref h4, .int wt])), (h4, .inl (kW, 6, .inl (upd le rk.toNatClampNeg pv)))] := hD
        exact J_3 _ _ _ (lv_sub hl [0, 1, 2] rfl) (by rw [show (vWi_add_0 le rk pv) = (upd le rk.toNatClampNeg pv) from ((if_neg c_1).trans (if_neg c_4))]; exact hP) (by rw [show (vWi_add_0 le rk pv) = (upd le rk.toNatClampNeg pv) from ((if_neg c_1).trans (if_neg c_4))]; exact hD) hS
set_option maxHeartbeats 4000000 in
set_option maxRecDepth 100000 in
theorem c_Wi_appliedTo (l : Launch) (dC : Nat → ClassId) (dI : Nat → Nat → Nat) (h3 h4 : Nat) (kW : ClassId) (sz : Nat) (wt : Int32) (le : Nat → Int32) (p0 : Int32) : Met l y_Wi_appliedTo w_Wi_appliedTo { frames := 1, cells := 0, slots := 0, locals := 21 } (va_Pc [.ref h3, .int p0] (pr_ (dC, dI) [(h3, .inr (1, [.ref h4, .int wt])), (h4, .inl (kW, 6, .inl le))] [(kW, .int)] sz)) (va_Qi (fun r (_ : Unit) => r = (fWi_appliedTo le p0)) (fun _ t => at_ (dC, dI) (va_A [(h3, .inr (1, [.ref h4, .int wt])), (h4, .inl (kW, 6, .inl le))] sz) [(h3, .inr (1, [.ref h4, .int wt])), (h4, .inl (kW, 6, .inl le))] [(kW, .int)] t) (va_A [(h3, .inr (1, [.ref h4, .int wt])), (h4, .inl (kW, 6, .inl le))] sz)) 0 0 (va_A [(h3, .inr (1, [.ref h4, .int wt])), (h4, .inl (kW, 6, .inl le))] sz) := by
  refine Met.ofW (cc := b_Wi_appliedTo) (maxL := 4) (ret := (some .int)) (by decide) rfl ?_
  intro p e s m args below meth c s₁ B hml hv
  obtain ⟨rfl, hsz, hP, hK, hD0, hN⟩ := hv
  have hx := B.exec
  have hb := B.bytes
  have hr := B.returns
  have hts0 := atoms_spec (ws := w_Wi_appliedTo) B.pre
  have hts : ∀ w ∈ wA_, w.before _ s = true := fun w h => hts0 w (List.mem_cons_of_mem _ h)
  have hown : s.vm.findClass R_Wi = some m.cls := findClass_of_methodNamed B.named
  have hlocks := B.notSynchronized
  subst hsz
  have hD := hD0.self (sz := s.heap.size)
  generalize hAe : va_A [(h3, .inr (1, [.ref h4, .int wt])), (h4, .inl (kW, 6, .inl le))] s.heap.size = A at hD ⊢
  have hA : ∀ q : Nat, s.heap.size ≤ q → A q := fun q h => by rw [← hAe]; exact Or.inr h
  have hS : va_S A s.heap s.heap [] := va_S.rf
  have hP : va_P (dC, dI) classes [(h3, .inr (1, [.ref h4, .int wt])), (h4, .inl (kW, 6, .inl le))] s.heap := hP
  have hl := lv_entry ([.ref h3, .int p0]) (n := 4) (Nat.le_of_ble_eq_true rfl)
  rw [lg_entry_eq]
  generalize (lg_sl ([.ref h3, .int p0]) ++ List.replicate (4 - (lg_sl ([.ref h3, .int p0])).length) Slot.unset).toArray = ls at hl ⊢
  have hl : lv_has ls 4 [(0, .ref h3), (1, .int p0)] := hl
  have hS : va_S A s.heap s.heap [] := hS
  refine st_ hP hS (fun H locs hP hS => ?_)
  refine lv_iload_n hx hb d_Wi_appliedTo_0 rfl (lv_at hl 1 rfl) ?_
  refine lv_istore_n (lv' := [(2, .int p0), (0, .ref h3), (1, .int p0)]) hx hb d_Wi_appliedTo_1 rfl hl (by decide) rfl (fun ls hl => ?_)
  refine lv_iconst (v := 1) hx hb d_Wi_appliedTo_2 (by decide) ?_
  refine lv_istore_n (lv' := [(3, .int 1), (2, .int p0), (0, .ref h3), (1, .int p0)]) hx hb d_Wi_appliedTo_3 rfl hl (by decide) rfl (fun ls hl => ?_)
  refine lv_iload_n hx hb d_Wi_appliedTo_4 rfl (lv_at hl 0 rfl) ?_
  refine lv_iconst (v := 5) hx hb d_Wi_appliedTo_5 (by decide) ?_
  refine lv_icmp_gt (tgt := 56) hx hb d_Wi_appliedTo_6 (by decide) (fun c_1 => ?_) (fun c_1 => ?_)
  · exact absurd c_1 (by decide)
  · refine lv_aload_n hx hb d_Wi_appliedTo_9 rfl (lv_at hl 2 rfl) ?_
    refine va_get (D := (dC, dI)) (ci := 1) (v := .ref h4) (C := R_Wi) (T := F_Wi) (N := 2) hx hb hts in_Wi hown hK hP 0 rfl rfl 0 (by decide) (hts (.fieldLink R_Wi 9 "TorqueRows$Wishes" "least" "[I") mw_16) (fun _ h9 => h9) rfl d_Wi_appliedTo_10 ?_
    refine lv_iload_n hx hb d_Wi_appliedTo_13 rfl (lv_at hl 0 rfl) ?_
    refine va_iald hx hb hK hP 1 0 rfl rfl (by unfold vp_in; decide) d_Wi_appliedTo_14 ?_
    refine lv_iconst (v := (-1)) hx hb d_Wi_appliedTo_15 (by decide) ?_
    refine jn 4 [(3, .int 1), (2, .int (vWi_appliedTo_0 le p0)), (0, .ref h3), (1, .int p0)] [(h3, .inr (1, [.ref h4, .int wt])), (h4, .inl (kW, 6, .inl le))] 50 [] (D := (dC, dI)) (A := A) (H0 := s.heap) (fun ls H locs hl hP hD hS => ?_) (fun J_4 => ?_)
    · refine lv_iinc (v := 2) (lv' := [(3, .int 2), (2, .int (vWi_appliedTo_0 le p0)), (0, .ref h3), (1, .int p0)]) hx hb d_Wi_appliedTo_50 hl (k := 0) rfl (by decide) (by decide) rfl (fun ls hl => ?_)
      refine lv_goto (tgt := 4) hx hb d_Wi_appliedTo_53 (by decide) ?_
      refine lv_iload_n hx hb d_Wi_appliedTo_4 rfl (lv_at hl 0 rfl) ?_
      refine lv_iconst (v := 5) hx hb d_Wi_appliedTo_5 (by decide) ?_
      refine lv_icmp_gt (tgt := 56) hx hb d_Wi_appliedTo_6 (by decide) (fun c_5 => ?_) (fun c_5 => ?_)
      · exact absurd c_5 (by decide)
      · refine lv_aload_n hx hb d_Wi_appliedTo_9 rfl (lv_at hl 2 rfl) ?_
        refine va_get (D := (dC, dI)) (ci := 1) (v := .ref h4) (C := R_Wi) (T := F_Wi) (N := 2) hx hb hts in_Wi hown hK hP 0 rfl rfl 0 (by decide) (hts (.fieldLink R_Wi 9 "TorqueRows$Wishes" "least" "[I") mw_16) (fun _ h9 => h9) rfl d_Wi_appliedTo_10 ?_
        refine lv_iload_n hx hb d_Wi_appliedTo_13 rfl (lv_at hl 0 rfl) ?_
        refine va_iald hx hb hK hP 1 0 rfl rfl (by unfold vp_in; decide) d_Wi_appliedTo_14 ?_
        refine lv_iconst (v := (-1)) hx hb d_Wi_appliedTo_15 (by decide) ?_
        refine jn 4 [(3, .int 2), (2, .int (vWi_appliedTo_2 le p0)), (0, .ref h3), (1, .int p0)] [(h3, .inr (1, [.ref h4, .int wt])), (h4, .inl (kW, 6, .inl le))] 50 [] (D := (dC, dI)) (A := A) (H0 := s.heap) (fun ls H locs hl hP hD hS => ?_) (fun J_8 => ?_)
        · refine lv_iinc (v := 3) (lv' := [(3, .int 3), (2, .int (vWi_appliedTo_2 le p0)), (0, .ref h3), (1, .int p0)]) hx hb d_Wi_appliedTo_50 hl (k := 0) rfl (by decide) (by decide) rfl (fun ls hl => ?_)
          refine lv_goto (tgt := 4) hx hb d_Wi_appliedTo_53 (by decide) ?_
          refine lv_iload_n hx hb d_Wi_appliedTo_4 rfl (lv_at hl 0 rfl) ?_
          refine lv_iconst (v := 5) hx hb d_Wi_appliedTo_5 (by decide) ?_
          refine lv_icmp_gt (tgt := 56) hx hb d_Wi_appliedTo_6 (by decide) (fun c_9 => ?_) (fun c_9 => ?_)
          · exact absurd c_9 (by decide)
          · refine lv_aload_n hx hb d_Wi_appliedTo_9 rfl (lv_at hl 2 rfl) ?_
            refine va_get (D := (dC, dI)) (ci := 1) (v := .ref h4) (C := R_Wi) (T := F_Wi) (N := 2) hx hb hts in_Wi hown hK hP 0 rfl rfl 0 (by decide) (hts (.fieldLink R_Wi 9 "TorqueRows$Wishes" "least" "[I") mw_16) (fun _ h9 => h9) rfl d_Wi_appliedTo_10 ?_
            refine lv_iload_n hx hb d_Wi_appliedTo_13 rfl (lv_at hl 0 rfl) ?_
            refine va_iald hx hb hK hP 1 0 rfl rfl (by unfold vp_in; decide) d_Wi_appliedTo_14 ?_
            refine lv_iconst (v := (-1)) hx hb d_Wi_appliedTo_15 (by decide) ?_
            refine jn 4 [(3, .int 3), (2, .int (vWi_appliedTo_4 le p0)), (0, .ref h3), (1, .int p0)] [(h3, .inr (1, [.ref h4, .int wt])), (h4, .inl (kW, 6, .inl le))] 50 [] (D := (dC, dI)) (A := A) (H0 := s.heap) (fun ls H locs hl hP hD hS => ?_) (fun J_12 => ?_)
            · refine lv_iinc (v := 4) (lv' := [(3, .int 4), (2, .int (vWi_appliedTo_4 le p0)), (0, .ref h3), (1, .int p0)]) hx hb d_Wi_appliedTo_50 hl (k := 0) rfl (by decide) (by decide) rfl (fun ls hl => ?_)
              refine lv_goto (tgt := 4) hx hb d_Wi_appliedTo_53 (by decide) ?_
              refine lv_iload_n hx hb d_Wi_appliedTo_4 rfl (lv_at hl 0 rfl) ?_
              refine lv_iconst (v := 5) hx hb d_Wi_appliedTo_5 (by decide) ?_
              refine lv_icmp_gt (tgt := 56) hx hb d_Wi_appliedTo_6 (by decide) (fun c_13 => ?_) (fun c_13 => ?_)
              · exact absurd c_13 (by decide)
              · refine lv_aload_n hx hb d_Wi_appliedTo_9 rfl (lv_at hl 2 rfl) ?_
                refine va_get (D := (dC, dI)) (ci := 1) (v := .ref h4) (C := R_Wi) (T := F_Wi) (N := 2) hx hb hts in_Wi hown hK hP 0 rfl rfl 0 (by decide) (hts (.fieldLink R_Wi 9 "TorqueRows$Wishes" "least" "[I") mw_16) (fun _ h9 => h9) rfl d_Wi_appliedTo_10 ?_
                refine lv_iload_n hx hb d_Wi_appliedTo_13 rfl (lv_at hl 0 rfl) ?_
                refine va_iald hx hb hK hP 1 0 rfl rfl (by unfold vp_in; decide) d_Wi_appliedTo_14 ?_
                refine lv_iconst (v := (-1)) hx hb d_Wi_appliedTo_15 (by decide) ?_
                refine jn 4 [(3, .int 4), (2, .int (vWi_appliedTo_6 le p0)), (0, .ref h3), (1, .int p0)] [(h3, .inr (1, [.ref h4, .int wt])), (h4, .inl (kW, 6, .inl le))] 50 [] (D := (dC, dI)) (A := A) (H0 := s.heap) (fun ls H locs hl hP hD hS => ?_) (fun J_16 => ?_)
                · refine lv_iinc (v := 5) (lv' := [(3, .int 5), (2, .int (vWi_appliedTo_6 le p0)), (0, .ref h3), (1, .int p0)]) hx hb d_Wi_appliedTo_50 hl (k := 0) rfl (by decide) (by decide) rfl (fun ls hl => ?_)
                  refine lv_goto (tgt := 4) hx hb d_Wi_appliedTo_53 (by decide) ?_
                  refine lv_iload_n hx hb d_Wi_appliedTo_4 rfl (lv_at hl 0 rfl) ?_
                  refine lv_iconst (v := 5) hx hb d_Wi_appliedTo_5 (by decide) ?_
                  refine lv_icmp_gt (tgt := 56) hx hb d_Wi_appliedTo_6 (by decide) (fun c_17 => ?_) (fun c_17 => ?_)
                  · exact absurd c_17 (by decide)
                  · refine lv_aload_n hx hb d_Wi_appliedTo_9 rfl (lv_at hl 2 rfl) ?_
                    refine va_get (D := (dC, dI)) (ci := 1) (v := .ref h4) (C := R_Wi) (T := F_Wi) (N := 2) hx hb hts in_Wi hown hK hP 0 rfl rfl 0 (by decide) (hts (.fieldLink R_Wi 9 "TorqueRows$Wishes" "least" "[I") mw_16) (fun _ h9 => h9) rfl d_Wi_appliedTo_10 ?_
                    refine lv_iload_n hx hb d_Wi_appliedTo_13 rfl (lv_at hl 0 rfl) ?_
                    refine va_iald hx hb hK hP 1 0 rfl rfl (by unfold vp_in; decide) d_Wi_appliedTo_14 ?_
                    refine lv_iconst (v := (-1)) hx hb d_Wi_appliedTo_15 (by decide) ?_
                    refine jn 4 [(3, .int 5), (2, .int (vWi_appliedTo_8 le p0)), (0, .ref h3), (1, .int p0)] [(h3, .inr (1, [.ref h4, .int wt])), (h4, .inl (kW, 6, .inl le))] 50 [] (D := (dC, dI)) (A := A) (H0 := s.heap) (fun ls H locs hl hP hD hS => ?_) (fun J_20 => ?_)
                    · refine lv_iinc (v := 6) (lv' := [(3, .int 6), (2, .int (vWi_appliedTo_8 le p0)), (0, .ref h3), (1, .int p0)]) hx hb d_Wi_appliedTo_50 hl (k := 0) rfl (by decide) (by decide) rfl (fun ls hl => ?_)
                      refine lv_goto (tgt := 4) hx hb d_Wi_appliedTo_53 (by decide) ?_
                      refine lv_iload_n hx hb d_Wi_appliedTo_4 rfl (lv_at hl 0 rfl) ?_
                      refine lv_iconst (v := 5) hx hb d_Wi_appliedTo_5 (by decide) ?_
                      refine lv_icmp_gt (tgt := 56) hx hb d_Wi_appliedTo_6 (by decide) (fun c_21 => ?_) (fun c_21 => ?_)
                      · refine lv_iload_n hx hb d_Wi_appliedTo_56 rfl (lv_at hl 1 rfl) ?_
                        have h9 : va_P (dC, dI) classes [(h3, .inr (1, [.ref h4, .int wt])), (h4, .inl (kW, 6, .inl le))] H ∧ va_D A [(h3, .inr (1, [.ref h4, .int wt])), (h4, .inl (kW, 6, .inl le))] := ⟨hP, hD⟩
                        exact W.iret (v := (vWi_appliedTo_8 le p0)) hx hb hr (fun t ht hW => ⟨⟨(vWi_appliedTo_8 le p0), (), rfl, rfl, by rw [ht]; exact h9.1, va_K.moved hW.alike hK, h9.2⟩, hS.F ht⟩) hS.2.2 d_Wi_appliedTo_57
                      · exact absurd (by decide) c_21
                    · refine lv_icmp_eq (tgt := 50) hx hb d_Wi_appliedTo_16 (by decide) (fun c_18 => ?_) (fun c_18 => ?_)
                      · exact J_20 _ _ _ (by rw [show (vWi_appliedTo_8 le p0) = (vWi_appliedTo_6 le p0) from (if_pos c_18)]; exact lv_sub hl [0, 1, 2, 3] rfl) hP hD hS
                      · refine lv_iload_n hx hb d_Wi_appliedTo_19 rfl (lv_at hl 0 rfl) ?_
                        refine lv_iconst (v := 2) hx hb d_Wi_appliedTo_20 (by decide) ?_
                        refine lv_irem hx hb d_Wi_appliedTo_21 (by decide) ?_
                        refine tpi (y := 1) (by decide) ?_
                        refine lv_iconst (v := 1) hx hb d_Wi_appliedTo_22 (by decide) ?_
                        refine lv_icmp_ne (tgt := 39) hx hb d_Wi_appliedTo_23 (by decide) (fun c_22 => ?_) (fun c_22 => ?_)
                        · exact absurd (by decide) c_22
                        · refine lv_iload_n hx hb d_Wi_appliedTo_26 rfl (lv_at hl 1 rfl) ?_
                          refine lv_aload_n hx hb d_Wi_appliedTo_27 rfl (lv_at hl 2 rfl) ?_
                          refine va_get (D := (dC, dI)) (ci := 1) (v := .ref h4) (C := R_Wi) (T := F_Wi) (N := 2) hx hb hts in_Wi hown hK hP 0 rfl rfl 0 (by decide) (hts (.fieldLink R_Wi 9 "TorqueRows$Wishes" "least" "[I") mw_16) (fun _ h9 => h9) rfl d_Wi_appliedTo_28 ?_
                          refine lv_iload_n hx hb d_Wi_appliedTo_31 rfl (lv_at hl 0 rfl) ?_
                          refine va_iald hx hb hK hP 1 0 rfl rfl (by unfold vp_in; decide) d_Wi_appliedTo_32 ?_
                          refine va_mmax hx hb (by rw [hml]; exact hl.1.symm) hown (hts (.methodLink R_Wi 20 Lib.Math.max.name) mw_18) (hts (.static Lib.Math.max.name) mw_5) (hts (.initialized "java/lang/Math") mw_2) (hts (.code Lib.Math.max.name Lib.Math.max.code 2 (some .int)) mw_6) (Nat.le_of_ble_eq_true rfl) (Nat.le_of_ble_eq_true rfl) (Nat.le_of_ble_eq_true rfl) (Nat.le_of_ble_eq_true rfl) d_Wi_appliedTo_33 ?_
                          refine tpi (y := (mx (vWi_appliedTo_6 le p0) (le (5 : Int32).toNatClampNeg))) rfl ?_
                          refine lv_goto (tgt := 49) hx hb d_Wi_appliedTo_36 (by decide) ?_
                          refine lv_istore_n (lv' := [(2, .int (vWi_appliedTo_7 le p0)), (3, .int 5), (0, .ref h3), (1, .int p0)]) hx hb d_Wi_appliedTo_49 rfl hl (by decide) rfl (fun ls hl => ?_)
                          exact J_20 _ _ _ (by rw [show (vWi_appliedTo_8 le p0) = (vWi_appliedTo_7 le p0) from (if_neg c_18)]; exact lv_sub hl [1, 0, 2, 3] rfl) hP hD hS
                · refine lv_icmp_eq (tgt := 50) hx hb d_Wi_appliedTo_16 (by decide) (fun c_14 => ?_) (fun c_14 => ?_)
                  · exact J_16 _ _ _ (by rw [show (vWi_appliedTo_6 le p0) = (vWi_appliedTo_4 le p0) from (if_pos c_14)]; exact lv_sub hl [0, 1, 2, 3] rfl) hP hD hS
                  · refine lv_iload_n hx hb d_Wi_appliedTo_19 rfl (lv_at hl 0 rfl) ?_
                    refine lv_iconst (v := 2) hx hb d_Wi_appliedTo_20 (by decide) ?_
                    refine lv_irem hx hb d_Wi_appliedTo_21 (by decide) ?_
                    refine tpi (y := 0) (by decide) ?_
                    refine lv_iconst (v := 1) hx hb d_Wi_appliedTo_22 (by decide) ?_
                    refine lv_icmp_ne (tgt := 39) hx hb d_Wi_appliedTo_23 (by decide) (fun c_23 => ?_) (fun c_23 => ?_)
                    · refine lv_iload_n hx hb d_Wi_appliedTo_39 rfl (lv_at hl 1 rfl) ?_
                      refine lv_aload_n hx hb d_Wi_appliedTo_40 rfl (lv_at hl 2 rfl) ?_
                      refine va_get (D := (dC, dI)) (ci := 1) (v := .ref h4) (C := R_Wi) (T := F_Wi) (N := 2) hx hb hts in_Wi hown hK hP 0 rfl rfl 0 (by decide) (hts (.fieldLink R_Wi 9 "TorqueRows$Wishes" "least" "[I") mw_16) (fun _ h9 => h9) rfl d_Wi_appliedTo_41 ?_
                      refine lv_iload_n hx hb d_Wi_appliedTo_44 rfl (lv_at hl 0 rfl) ?_
                      refine va_iald hx hb hK hP 1 0 rfl rfl (by unfold vp_in; decide) d_Wi_appliedTo_45 ?_
                      refine va_mmin hx hb (by rw [hml]; exact hl.1.symm) hown (hts (.methodLink R_Wi 26 Lib.Math.min.name) mw_19) (hts (.static Lib.Math.min.name) mw_1) (hts (.initialized "java/lang/Math") mw_2) (hts (.code Lib.Math.min.name Lib.Math.min.code 2 (some .int)) mw_3) (Nat.le_of_ble_eq_true rfl) (Nat.le_of_ble_eq_true rfl) (Nat.le_of_ble_eq_true rfl) (Nat.le_of_ble_eq_true rfl) d_Wi_appliedTo_46 ?_
                      refine tpi (y := (mn (vWi_appliedTo_4 le p0) (le (4 : Int32).toNatClampNeg))) rfl ?_
                      refine lv_istore_n (lv' := [(2, .int (vWi_appliedTo_5 le p0)), (3, .int 4), (0, .ref h3), (1, .int p0)]) hx hb d_Wi_appliedTo_49 rfl hl (by decide) rfl (fun ls hl => ?_)
                      exact J_16 _ _ _ (by rw [show (vWi_appliedTo_6 le p0) = (vWi_appliedTo_5 le p0) from (if_neg c_14)]; exact lv_sub hl [1, 0, 2, 3] rfl) hP hD hS
                    · exact absurd c_23 (by decide)
            · refine lv_icmp_eq (tgt := 50) hx hb d_Wi_appliedTo_16 (by decide) (fun c_10 => ?_) (fun c_10 => ?_)
              · exact J_12 _ _ _ (by rw [show (vWi_appliedTo_4 le p0) = (vWi_appliedTo_2 le p0) from (if_pos c_10)]; exact lv_sub hl [0, 1, 2, 3] rfl) hP hD hS
              · refine lv_iload_n hx hb d_Wi_appliedTo_19 rfl (lv_at hl 0 rfl) ?_
                refine lv_iconst (v := 2) hx hb d_Wi_appliedTo_20 (by decide) ?_
                refine lv_irem hx hb d_Wi_appliedTo_21 (by decide) ?_
                refine tpi (y := 1) (by decide) ?_
                refine lv_iconst (v := 1) hx hb d_Wi_appliedTo_22 (by decide) ?_
                refine lv_icmp_ne (tgt := 39) hx hb d_Wi_appliedTo_23 (by decide) (fun c_24 => ?_) (fun c_24 => ?_)
                · exact absurd (by decide) c_24
                · refine lv_iload_n hx hb d_Wi_appliedTo_26 rfl (lv_at hl 1 rfl) ?_
                  refine lv_aload_n hx hb d_Wi_appliedTo_27 rfl (lv_at hl 2 rfl) ?_
                  refine va_get (D := (dC, dI)) (ci := 1) (v := .ref h4) (C := R_Wi) (T := F_Wi) (N := 2) hx hb hts in_Wi hown hK hP 0 rfl rfl 0 (by decide) (hts (.fieldLink R_Wi 9 "TorqueRows$Wishes" "least" "[I") mw_16) (fun _ h9 => h9) rfl d_Wi_appliedTo_28 ?_
                  refine lv_iload_n hx hb d_Wi_appliedTo_31 rfl (lv_at hl 0 rfl) ?_
                  refine va_iald hx hb hK hP 1 0 rfl rfl (by unfold vp_in; decide) d_Wi_appliedTo_32 ?_
                  refine va_mmax hx hb (by rw [hml]; exact hl.1.symm) hown (hts (.methodLink R_Wi 20 Lib.Math.max.name) mw_18) (hts (.static Lib.Math.max.name) mw_5) (hts (.initialized "java/lang/Math") mw_2) (hts (.code Lib.Math.max.name Lib.Math.max.code 2 (some .int)) mw_6) (Nat.le_of_ble_eq_true rfl) (Nat.le_of_ble_eq_true rfl) (Nat.le_of_ble_eq_true rfl) (Nat.le_of_ble_eq_true rfl) d_Wi_appliedTo_33 ?_
                  refine tpi (y := (mx (vWi_appliedTo_2 le p0) (le (3 : Int32).toNatClampNeg))) rfl ?_
                  refine lv_goto (tgt := 49) hx hb d_Wi_appliedTo_36 (by decide) ?_
                  refine lv_istore_n (lv' := [(2, .int (vWi_appliedTo_3 le p0)), (3, .int 3), (0, .ref h3), (1, .int p0)]) hx hb d_Wi_appliedTo_49 rfl hl (by decide) rfl (fun ls hl => ?_)
                  exact J_12 _ _ _ (by rw [show (vWi_appliedTo_4 le p0) = (vWi_appliedTo_3 le p0) from (if_neg c_10)]; exact lv_sub hl [1, 0, 2, 3] rfl) hP hD hS
        · refine lv_icmp_eq (tgt := 50) hx hb d_Wi_appliedTo_16 (by decide) (fun c_6 => ?_) (fun c_6 => ?_)
          · exact J_8 _ _ _ (by rw [show (vWi_appliedTo_2 le p0) = (vWi_appliedTo_0 le p0) from (if_pos c_6)]; exact lv_sub hl [0, 1, 2, 3] rfl) hP hD hS
          · refine lv_iload_n hx hb d_Wi_appliedTo_19 rfl (lv_at hl 0 rfl) ?_
            refine lv_iconst (v := 2) hx hb d_Wi_appliedTo_20 (by decide) ?_
            refine lv_irem hx hb d_Wi_appliedTo_21 (by decide) ?_
            refine tpi (y := 0) (by decide) ?_
            refine lv_iconst (v := 1) hx hb d_Wi_appliedTo_22 (by decide) ?_
            refine lv_icmp_ne (tgt := 39) hx hb d_Wi_appliedTo_23 (by decide) (fun c_25 => ?_) (fun c_25 => ?_)
            · refine lv_iload_n hx hb d_Wi_appliedTo_39 rfl (lv_at hl 1 rfl) ?_
              refine lv_aload_n hx hb d_Wi_appliedTo_40 rfl (lv_at hl 2 rfl) ?_
              refine va_get (D := (dC, dI)) (ci := 1) (v := .ref h4) (C := R_Wi) (T := F_Wi) (N := 2) hx hb hts in_Wi hown hK hP 0 rfl rfl 0 (by decide) (hts (.fieldLink R_Wi 9 "TorqueRows$Wishes" "least" "[I") mw_16) (fun _ h9 => h9) rfl d_Wi_appliedTo_41 ?_
              refine lv_iload_n hx hb d_Wi_appliedTo_44 rfl (lv_at hl 0 rfl) ?_
              refine va_iald hx hb hK hP 1 0 rfl rfl (by unfold vp_in; decide) d_Wi_appliedTo_45 ?_
              refine va_mmin hx hb (by rw [hml]; exact hl.1.symm) hown (hts (.methodLink R_Wi 26 Lib.Math.min.name) mw_19) (hts (.static Lib.Math.min.name) mw_1) (hts (.initialized "java/lang/Math") mw_2) (hts (.code Lib.Math.min.name Lib.Math.min.code 2 (some .int)) mw_3) (Nat.le_of_ble_eq_true rfl) (Nat.le_of_ble_eq_true rfl) (Nat.le_of_ble_eq_true rfl) (Nat.le_of_ble_eq_true rfl) d_Wi_appliedTo_46 ?_
              refine tpi (y := (mn (vWi_appliedTo_0 le p0) (le (2 : Int32).toNatClampNeg))) rfl ?_
              refine lv_istore_n (lv' := [(2, .int (vWi_appliedTo_1 le p0)), (3, .int 2), (0, .ref h3), (1, .int p0)]) hx hb d_Wi_appliedTo_49 rfl hl (by decide) rfl (fun ls hl => ?_)
              exact J_8 _ _ _ (by rw [show (vWi_appliedTo_2 le p0) = (vWi_appliedTo_1 le p0) from (if_neg c_6)]; exact lv_sub hl [1, 0, 2, 3] rfl) hP hD hS
            · exact absurd c_25 (by decide)
    · refine lv_icmp_eq (tgt := 50) hx hb d_Wi_appliedTo_16 (by decide) (fun c_2 => ?_) (fun c_2 => ?_)
      · exact J_4 _ _ _ (by rw [show (vWi_appliedTo_0 le p0) = p0 from (if_pos c_2)]; exact lv_sub hl [0, 1, 2, 3] rfl) hP hD hS
      · refine lv_iload_n hx hb d_Wi_appliedTo_19 rfl (lv_at hl 0 rfl) ?_
        refine lv_iconst (v := 2) hx hb d_Wi_appliedTo_20 (by decide) ?_
        refine lv_irem hx hb d_Wi_appliedTo_21 (by decide) ?_
        refine tpi (y := 1) (by decide) ?_
        refine lv_iconst (v := 1) hx hb d_Wi_appliedTo_22 (by decide) ?_
        refine lv_icmp_ne (tgt := 39) hx hb d_Wi_appliedTo_23 (by decide) (fun c_26 => ?_) (fun c_26 => ?_)
        · exact absurd (by decide) c_26
        · refine lv_iload_n hx hb d_Wi_appliedTo_26 rfl (lv_at hl 1 rfl) ?_
          refine lv_aload_n hx hb d_Wi_appliedTo_27 rfl (lv_at hl 2 rfl) ?_
          refine va_get (D := (dC, dI)) (ci := 1) (v := .ref h4) (C := R_Wi) (T := F_Wi) (N := 2) hx hb hts in_Wi hown hK hP 0 rfl rfl 0 (by decide) (hts (.fieldLink R_Wi 9 "TorqueRows$Wishes" "least" "[I") mw_16) (fun _ h9 => h9) rfl d_Wi_appliedTo_28 ?_
          refine lv_iload_n hx hb d_Wi_appliedTo_31 rfl (lv_at hl 0 rfl) ?_
          refine va_iald hx hb hK hP 1 0 rfl rfl (by unfold vp_in; decide) d_Wi_appliedTo_32 ?_
          refine va_mmax hx hb (by rw [hml]; exact hl.1.symm) hown (hts (.methodLink R_Wi 20 Lib.Math.max.name) mw_18) (hts (.static Lib.Math.max.name) mw_5) (hts (.initialized "java/lang/Math") mw_2) (hts (.code Lib.Math.max.name Lib.Math.max.code 2 (some .int)) mw_6) (Nat.le_of_ble_eq_true rfl) (Nat.le_of_ble_eq_true rfl) (Nat.le_of_ble_eq_true rfl) (Nat.le_of_ble_eq_true rfl) d_Wi_appliedTo_33 ?_
          refine tpi (y := (mx p0 (le (1 : Int32).toNatClampNeg))) rfl ?_
          refine lv_goto (tgt := 49) hx hb d_Wi_appliedTo_36 (by decide) ?_
          refine lv_istore_n (lv' := [(2, .int (mx p0 (le (1 : Int32).toNatClampNeg))), (3, .int 1), (0, .ref h3), (1, .int p0)]) hx hb d_Wi_appliedTo_49 rfl hl (by decide) rfl (fun ls hl => ?_)
          exact J_4 _ _ _ (by rw [show (vWi_appliedTo_0 le p0) = (mx p0 (le (1 : Int32).toNatClampNeg)) from (if_neg c_2)]; exact lv_sub hl [1, 0, 2, 3] rfl) hP hD hS
set_option maxHeartbeats 4000000 in
set_option maxRecDepth 100000 in
theorem c_Ma_floorDiv (l : Launch) (dC : Nat → ClassId) (dI : Nat → Nat → Nat) (sz : Nat) (p0 : Int32) (p1 : Int32) (h0 : ¬ p1 = 0) : Met l y_Ma_floorDiv w_Ma_floorDiv { frames := 0, cells := 0, slots := 0, locals := 0 } (va_Pc [.int p0, .int p1] (pr_ (dC, dI) [] [] sz)) (va_Qi (fun r (_ : Unit) => r = (fMa_floorDiv p0 p1)) (fun _ t => at_ (dC, dI) (va_A [] sz) [] [] t) (va_A [] sz)) 0 0 (va_A [] sz) := by
  refine va_MetF (cc := b_Ma_floorDiv) (maxL := 3) (ret := (some .int)) (by decide +kernel) rfl ?_
  intro p e s m args below meth c s₁ B hml hv
  obtain ⟨rfl, hsz, hP, hK, hD0, hN⟩ := hv
  have hx := B.exec
  have hb := B.bytes
  have hr := B.returns
  have hts0 := atoms_spec (ws := w_Ma_floorDiv) B.pre
  have hts : ∀ w ∈ wA_, w.before _ s = true := fun w h => hts0 w (List.mem_cons_of_mem _ h)
  have hown : s.vm.findClass "java/lang/Math" = some m.cls := findClass_of_methodNamed B.named
  have hlocks := B.notSynchronized
  subst hsz
  have hD := hD0.self (sz := s.heap.size)
  generalize hAe : va_A [] s.heap.size = A at hD ⊢
  have hA : ∀ q : Nat, s.heap.size ≤ q → A q := fun q h => by rw [← hAe]; exact Or.inr h
  have hS : va_S A s.heap s.heap [] := va_S.rf
  have hP : va_P (dC, dI) classes [] s.heap := hP
  have hl := lv_entry ([.int p0, .int p1]) (n := 3) (Nat.le_of_ble_eq_true rfl)
  rw [lg_entry_eq]
  generalize (lg_sl ([.int p0, .int p1]) ++ List.replicate (3 - (lg_sl ([.int p0, .int p1])).length) Slot.unset).toArray = ls at hl ⊢
  have hl : lv_has ls 3 [(0, .int p0), (1, .int p1)] := hl
  have hS : va_S A s.heap s.heap [] := hS
  refine st_ hP hS (fun H locs hP hS => ?_)
  refine lv_iload_n hx hb d_Ma_floorDiv_0 rfl (lv_at hl 0 rfl) ?_
  refine lv_iload_n hx hb d_Ma_floorDiv_1 rfl (lv_at hl 1 rfl) ?_
  refine lv_idiv hx hb d_Ma_floorDiv_2 h0 ?_
  refine lv_istore_n (lv' := [(2, .int (p0 / p1)), (0, .int p0), (1, .int p1)]) hx hb d_Ma_floorDiv_3 rfl hl (by decide) rfl (fun ls hl => ?_)
  refine lv_iload_n hx hb d_Ma_floorDiv_4 rfl (lv_at hl 1 rfl) ?_
  refine lv_iload_n hx hb d_Ma_floorDiv_5 rfl (lv_at hl 2 rfl) ?_
  refine lv_ixor hx hb d_Ma_floorDiv_6 ?_
  refine lv_if_ge (tgt := 21) hx hb d_Ma_floorDiv_7 (by decide) (fun c_1 => ?_) (fun c_1 => ?_)
  · refine lv_iload_n hx hb d_Ma_floorDiv_21 rfl (lv_at hl 0 rfl) ?_
    have h9 : va_P (dC, dI) classes [] H ∧ va_D A [] := ⟨hP, hD⟩
    exact W.iret (v := (p0 / p1)) hx hb hr (fun t ht hW => ⟨⟨(p0 / p1), (), rfl, ((if_pos c_1)).symm, by rw [ht]; exact h9.1, va_K.moved hW.alike hK, h9.2⟩, hS.F ht⟩) hS.2.2 d_Ma_floorDiv_22
  · refine lv_iload_n hx hb d_Ma_floorDiv_10 rfl (lv_at hl 0 rfl) ?_
    refine lv_iload_n hx hb d_Ma_floorDiv_11 rfl (lv_at hl 2 rfl) ?_
    refine lv_imul hx hb d_Ma_floorDiv_12 ?_
    refine lv_iload_n hx hb d_Ma_floorDiv_13 rfl (lv_at hl 1 rfl) ?_
    refine lv_icmp_eq (tgt := 21) hx hb d_Ma_floorDiv_14 (by decide) (fun c_2 => ?_) (fun c_2 => ?_)
    · refine lv_iload_n hx hb d_Ma_floorDiv_21 rfl (lv_at hl 0 rfl) ?_
      have h9 : va_P (dC, dI) classes [] H ∧ va_D A [] := ⟨hP, hD⟩
      exact W.iret (v := (p0 / p1)) hx hb hr (fun t ht hW => ⟨⟨(p0 / p1), (), rfl, (((if_neg c_1).trans (if_pos c_2))).symm, by rw [ht]; exact h9.1, va_K.moved hW.alike hK, h9.2⟩, hS.F ht⟩) hS.2.2 d_Ma_floorDiv_22
    · refine lv_iload_n hx hb d_Ma_floorDiv_17 rfl (lv_at hl 0 rfl) ?_
      refine lv_iconst (v := 1) hx hb d_Ma_floorDiv_18 (by decide) ?_
      refine lv_isub hx hb d_Ma_floorDiv_19 ?_
      have h9 : va_P (dC, dI) classes [] H ∧ va_D A [] := ⟨hP, hD⟩
      exact W.iret (v := ((p0 / p1) - 1)) hx hb hr (fun t ht hW => ⟨⟨((p0 / p1) - 1), (), rfl, (((if_neg c_1).trans (if_neg c_2))).symm, by rw [ht]; exact h9.1, va_K.moved hW.alike hK, h9.2⟩, hS.F ht⟩) hS.2.2 d_Ma_floorDiv_20
set_option maxHeartbeats 4000000 in
set_option maxRecDepth 100000 in
theorem c_Id_forget (l : Launch) (dC : Nat → ClassId) (dI : Nat → Nat → Nat) (h5 : Nat) (sz : Nat) (am : Int32) (sd : Int32) : Met l y_Id_forget w_Id_forget { frames := 0, cells := 0, slots := 0, locals := 0 } (va_Pc [.ref h5] (pr_ (dC, dI) [(h5, .inr (2, [.int am, .int sd]))] [] sz)) (va_Qv (fun (_ : Unit) => True) (fun _ t => at_ (dC, dI) (va_A [(h5, .inr (2, [.int am, .int sd]))] sz) [(h5, .inr (2, [.int am, .int 0]))] [] t) (va_A [(h5, .inr (2, [.int am, .int sd]))] sz)) 0 0 (va_A [(h5, .inr (2, [.int am, .int sd]))] sz) := by
  refine Met.ofW (cc := b_Id_forget) (maxL := 1) (ret := none) (by decide) rfl ?_
  intro p e s m args below meth c s₁ B hml hv
  obtain ⟨rfl, hsz, hP, hK, hD0, hN⟩ := hv
  have hx := B.exec
  have hb := B.bytes
  have hr := B.returns
  have hts0 := atoms_spec (ws := w_Id_forget) B.pre
  have hts : ∀ w ∈ wA_, w.before _ s = true := fun w h => hts0 w (List.mem_cons_of_mem _ h)
  have hown : s.vm.findClass R_Id = some m.cls := findClass_of_methodNamed B.named
  have hlocks := B.notSynchronized
  subst hsz
  have hD := hD0.self (sz := s.heap.size)
  generalize hAe : va_A [(h5, .inr (2, [.int am, .int sd]))] s.heap.size = A at hD ⊢
  have hA : ∀ q : Nat, s.heap.size ≤ q → A q := fun q h => by rw [← hAe]; exact Or.inr h
  have hS : va_S A s.heap s.heap [] := va_S.rf
  have hP : va_P (dC, dI) classes [(h5, .inr (2, [.int am, .int sd]))] s.heap := hP
  have hl := lv_entry ([.ref h5]) (n := 1) (Nat.le_of_ble_eq_true rfl)
  rw [lg_entry_eq]
  generalize (lg_sl ([.ref h5]) ++ List.replicate (1 - (lg_sl ([.ref h5])).length) Slot.unset).toArray = ls at hl ⊢
  have hl : lv_has ls 1 [(0, .ref h5)] := hl
  have hS : va_S A s.heap s.heap [] := hS
  refine st_ hP hS (fun H locs hP hS => ?_)
  refine lv_aload_n hx hb d_Id_forget_0 rfl (lv_at hl 0 rfl) ?_
  refine lv_iconst (v := 0) hx hb d_Id_forget_1 (by decide) ?_
  refine va_put (D := (dC, dI)) (ci := 2) (v := .int 0) (ty := .int) (C := R_Id) (T := F_Id) (N := 2) hx hb hts in_Id t_Id t_Id_ok n_Id hown hK hP hD hS 0 rfl rfl 1 (by decide) (hts (.fieldLink R_Id 13 "TorqueRows$Idling" "stored" "I") mw_20) (fun _ h9 => h9) rfl (by decide +kernel) rfl rfl (Nat.le_of_ble_eq_true rfl) d_Id_forget_2 (fun H locs hP hD hS => ?_)
  have hP : va_P (dC, dI) classes [(h5, .inr (2, [.int am, .int 0]))] H := hP
  have hD : va_D A [(h5, .inr (2, [.int am, .int 0]))] := hD
  have h9 : va_P (dC, dI) classes [(h5, .inr (2, [.int am, .int 0]))] H ∧ va_D A [(h5, .inr (2, [.int am, .int 0]))] := ⟨hP, hD⟩
  exact W.vret hx hb hr (fun t ht hW => ⟨⟨(), rfl, trivial, by rw [ht]; exact h9.1, va_K.moved hW.alike hK, h9.2⟩, hS.F ht⟩) hS.2.2 d_Id_forget_5
set_option maxHeartbeats 4000000 in
set_option maxRecDepth 100000 in
theorem c_Id_torqueAt (l : Launch) (dC : Nat → ClassId) (dI : Nat → Nat → Nat) (h5 : Nat) (sz : Nat) (am : Int32) (sd : Int32) (p0 : Int32) : Met l y_Id_torqueAt w_Id_torqueAt { frames := 1, cells := 0, slots := 0, locals := 22 } (va_Pc [.ref h5, .int p0] (pr_ (dC, dI) [(h5, .inr (2, [.int am, .int sd]))] [] sz)) (va_Qi (fun r (_ : Unit) => r = (fId_torqueAt am p0 sd)) (fun _ t => at_ (dC, dI) (va_A [(h5, .inr (2, [.int am, .int sd]))] sz) [(h5, .inr (2, [.int am, .int (vId_torqueAt_1 am p0 sd)]))] [] t) (va_A [(h5, .inr (2, [.int am, .int sd]))] sz)) 0 0 (va_A [(h5, .inr (2, [.int am, .int sd]))] sz) := by
  refine Met.ofW (cc := b_Id_torqueAt) (maxL := 5) (ret := (some .int)) (by decide) rfl ?_
  intro p e s m args below meth c s₁ B hml hv
  obtain ⟨rfl, hsz, hP, hK, hD0, hN⟩ := hv
  have hx := B.exec
  have hb := B.bytes
  have hr := B.returns
  have hts0 := atoms_spec (ws := w_Id_torqueAt) B.pre
  have hts : ∀ w ∈ wA_, w.before _ s = true := fun w h => hts0 w (List.mem_cons_of_mem _ h)
  have hown : s.vm.findClass R_Id = some m.cls := findClass_of_methodNamed B.named
  have hlocks := B.notSynchronized
  subst hsz
  have hD := hD0.self (sz := s.heap.size)
  generalize hAe : va_A [(h5, .inr (2, [.int am, .int sd]))] s.heap.size = A at hD ⊢
  have hA : ∀ q : Nat, s.heap.size ≤ q → A q := fun q h => by rw [← hAe]; exact Or.inr h
  have hS : va_S A s.heap s.heap [] := va_S.rf
  have hP : va_P (dC, dI) classes [(h5, .inr (2, [.int am, .int sd]))] s.heap := hP
  have hl := lv_entry ([.ref h5, .int p0]) (n := 5) (Nat.le_of_ble_eq_true rfl)
  rw [lg_entry_eq]
  generalize (lg_sl ([.ref h5, .int p0]) ++ List.replicate (5 - (lg_sl ([.ref h5, .int p0])).length) Slot.unset).toArray = ls at hl ⊢
  have hl : lv_has ls 5 [(0, .ref h5), (1, .int p0)] := hl
  have hS : va_S A s.heap s.heap [] := hS
  refine st_ hP hS (fun H locs hP hS => ?_)
  refine lv_aload_n hx hb d_Id_torqueAt_0 rfl (lv_at hl 0 rfl) ?_
  refine va_get (D := (dC, dI)) (ci := 2) (v := .int am) (C := R_Id) (T := F_Id) (N := 2) hx hb hts in_Id hown hK hP 0 rfl rfl 0 (by decide) (hts (.fieldLink R_Id 7 "TorqueRows$Idling" "aim" "I") mw_21) (fun _ h9 => h9) rfl d_Id_torqueAt_1 ?_
  refine lv_iload_n hx hb d_Id_torqueAt_4 rfl (lv_at hl 1 rfl) ?_
  refine lv_isub hx hb d_Id_torqueAt_5 ?_
  refine lv_istore_n (lv' := [(2, .int (am - p0)), (0, .ref h5), (1, .int p0)]) hx hb d_Id_torqueAt_6 rfl hl (by decide) rfl (fun ls hl => ?_)
  refine lv_iconst (v := 4) hx hb d_Id_torqueAt_7 (by decide) ?_
  refine lv_iload_n hx hb d_Id_torqueAt_8 rfl (lv_at hl 0 rfl) ?_
  refine lv_imul hx hb d_Id_torqueAt_9 ?_
  refine lv_aload_n hx hb d_Id_torqueAt_10 rfl (lv_at hl 1 rfl) ?_
  refine va_get (D := (dC, dI)) (ci := 2) (v := .int sd) (C := R_Id) (T := F_Id) (N := 2) hx hb hts in_Id hown hK hP 0 rfl rfl 1 (by decide) (hts (.fieldLink R_Id 13 "TorqueRows$Idling" "stored" "I") mw_20) (fun _ h9 => h9) rfl d_Id_torqueAt_11 ?_
  refine lv_iadd hx hb d_Id_torqueAt_14 ?_
  refine lv_bipush (v := 16) hx hb d_Id_torqueAt_15 (by decide) ?_
  have hPc := hP.sub (ws' := []) [] rfl
  have hDc := hD.sub (ws' := []) [] (by decide) rfl
  have hKc := hK.sub (tys' := []) [] rfl
  have hFc := va_free (wc := []) hD hS hA [] rfl
  refine ca_i (va_runS (As := [.int ((4 * (am - p0)) + sd), .int 16]) (rest := []) ⟨hx, hb, hml, hown, hts⟩ (c_Ma_floorDiv l dC dI H.size ((4 * (am - p0)) + sd) 16 (by decide)) (va_cwS 2 hts (gS_ mw_26 mw_25 mw_2 mw_24) rfl rfl rfl (by decide +kernel) ⟨Nat.le_of_ble_eq_true rfl, Nat.le_of_ble_eq_true rfl⟩) ⟨fb_, pu_ hPc hKc hDc hN⟩ rfl rfl hl.1 rfl (lv_room (Nat.le_of_ble_eq_true rfl)) d_Id_torqueAt_17 ⟨Nat.le_of_ble_eq_true rfl, Nat.le_of_ble_eq_true rfl⟩) hS (fun q _ h => hFc q h) hFc (fun t H locs ht hvm hB hz1 hk1 hS => ?_)
  obtain ⟨hP, hD⟩ := aft_ (wr := [(h5, .inr (2, [.int am, .int sd]))]) (w1 := []) (w2 := [(h5, .inr (2, [.int am, .int sd]))]) hP hD [] [0] [0] rfl rfl (by decide) (by decide) hk1 hFc hB ht rfl (by decide)
  refine lv_istore_n (lv' := [(3, .int (fMa_floorDiv ((4 * (am - p0)) + sd) 16)), (2, .int (am - p0)), (0, .ref h5), (1, .int p0)]) hx hb d_Id_torqueAt_20 rfl hl (by decide) rfl (fun ls hl => ?_)
  refine lv_iload_n hx hb d_Id_torqueAt_21 rfl (lv_at hl 0 rfl) ?_
  refine lv_sipush (v := 200) hx hb d_Id_torqueAt_22 (by decide) ?_
  refine jn 5 [(3, .int (fMa_floorDiv ((4 * (am - p0)) + sd) 16)), (2, .int (am - p0)), (0, .ref h5), (1, .int p0)] [(h5, .inr (2, [.int am, .int sd]))] 45 [.int (vId_torqueAt_0 am p0 sd)] (D := (dC, dI)) (A := A) (H0 := s.heap) (fun ls H locs hl hP hD hS => ?_) (fun J_7 => ?_)
  · refine lv_istore (lv' := [(4, .int (vId_torqueAt_0 am p0 sd)), (3, .int (fMa_floorDiv ((4 * (am - p0)) + sd) 16)), (2, .int (am - p0)), (0, .ref h5), (1, .int p0)]) hx hb d_Id_torqueAt_45 hl (by decide) rfl (fun ls hl => ?_)
    refine lv_iload hx hb d_Id_torqueAt_47 (lv_at hl 0 rfl) ?_
    refine jn 5 [(4, .int (vId_torqueAt_0 am p0 sd)), (3, .int (fMa_floorDiv ((4 * (am - p0)) + sd) 16)), (2, .int (am - p0)), (0, .ref h5), (1, .int p0)] [(h5, .inr (2, [.int am, .int (vId_torqueAt_1 am p0 sd)]))] 62 [] (D := (dC, dI)) (A := A) (H0 := s.heap) (fun ls H locs hl hP hD hS => ?_) (fun J_9 => ?_)
    · refine lv_iconst (v := 0) hx hb d_Id_torqueAt_62 (by decide) ?_
      refine lv_iload_n hx hb d_Id_torqueAt_63 rfl (lv_at hl 1 rfl) ?_
      refine lv_sipush (v := 200) hx hb d_Id_torqueAt_64 (by decide) ?_
      refine va_mmin hx hb (by rw [hml]; exact hl.1.symm) hown (hts (.methodLink R_Id 22 Lib.Math.min.name) mw_22) (hts (.static Lib.Math.min.name) mw_1) (hts (.initialized "java/lang/Math") mw_2) (hts (.code Lib.Math.min.name Lib.Math.min.code 2 (some .int)) mw_3) (Nat.le_of_ble_eq_true rfl) (Nat.le_of_ble_eq_true rfl) (Nat.le_of_ble_eq_true rfl) (Nat.le_of_ble_eq_true rfl) d_Id_torqueAt_67 ?_
      refine tpi (y := (mn (fMa_floorDiv ((4 * (am - p0)) + sd) 16) 200)) rfl ?_
      refine va_mmax hx hb (by rw [hml]; exact hl.1.symm) hown (hts (.methodLink R_Id 25 Lib.Math.max.name) mw_23) (hts (.static Lib.Math.max.name) mw_5) (hts (.initialized "java/lang/Math") mw_2) (hts (.code Lib.Math.max.name Lib.Math.max.code 2 (some .int)) mw_6) (Nat.le_of_ble_eq_true rfl) (Nat.le_of_ble_eq_true rfl) (Nat.le_of_ble_eq_true rfl) (Nat.le_of_ble_eq_true rfl) d_Id_torqueAt_70 ?_
      refine tpi (y := (mx 0 (mn (fMa_floorDiv ((4 * (am - p0)) + sd) 16) 200))) rfl ?_
      have h9 : va_P (dC, dI) classes [(h5, .inr (2, [.int am, .int (vId_torqueAt_1 am p0 sd)]))] H ∧ va_D A [(h5, .inr (2, [.int am, .int (vId_torqueAt_1 am p0 sd)]))] := ⟨hP, hD⟩
      exact W.iret (v := (mx 0 (mn (fMa_floorDiv ((4 * (am - p0)) + sd) 16) 200))) hx hb hr (fun t ht hW => ⟨⟨(mx 0 (mn (fMa_floorDiv ((4 * (am - p0)) + sd) 16) 200)), (), rfl, rfl, by rw [ht]; exact h9.1, va_K.moved hW.alike hK, h9.2⟩, hS.F ht⟩) hS.2.2 d_Id_torqueAt_73
    · refine lv_if_ne (tgt := 62) hx hb d_Id_torqueAt_49 (by decide) (fun c_8 => ?_) (fun c_8 => ?_)
      · exact J_9 _ _ _ (lv_sub hl [0, 1, 2, 3, 4] rfl) (by rw [show (vId_torqueAt_1 am p0 sd) = sd from (if_neg c_8)]; exact hP) (by rw [show (vId_torqueAt_1 am p0 sd) = sd from (if_neg c_8)]; exact hD) hS
      · refine lv_aload_n hx hb d_Id_torqueAt_52 rfl (lv_at hl 3 rfl) ?_
        refine lv_dup hx hb d_Id_torqueAt_53 rfl ?_
        refine va_get (D := (dC, dI)) (ci := 2) (v := .int sd) (C := R_Id) (T := F_Id) (N := 2) hx hb hts in_Id hown hK hP 0 rfl rfl 1 (by decide) (hts (.fieldLink R_Id 13 "TorqueRows$Idling" "stored" "I") mw_20) (fun _ h9 => h9) rfl d_Id_torqueAt_54 ?_
        refine lv_iload_n hx hb d_Id_torqueAt_57 rfl (lv_at hl 2 rfl) ?_
        refine lv_iadd hx hb d_Id_torqueAt_58 ?_
        refine va_put (D := (dC, dI)) (ci := 2) (v := .int (sd + (am - p0))) (ty := .int) (C := R_Id) (T := F_Id) (N := 2) hx hb hts in_Id t_Id t_Id_ok n_Id hown hK hP hD hS 0 rfl rfl 1 (by decide) (hts (.fieldLink R_Id 13 "TorqueRows$Idling" "stored" "I") mw_20) (fun _ h9 => h9) rfl (by decide +kernel) rfl rfl (Nat.le_of_ble_eq_true rfl) d_Id_torqueAt_59 (fun H locs hP hD hS => ?_)
        have hP : va_P (dC, dI) classes [(h5, .inr (2, [.int am, .int (sd + (am - p0))]))] H := hP
        have hD : va_D A [(h5, .inr (2, [.int am, .int (sd + (am - p0))]))] := hD
        exact J_9 _ _ _ (lv_sub hl [0, 1, 2, 3, 4] rfl) (by rw [show (vId_torqueAt_1 am p0 sd) = (sd + (am - p0)) from (if_pos c_8)]; exact hP) (by rw [show (vId_torqueAt_1 am p0 sd) = (sd + (am - p0)) from (if_pos c_8)]; exact hD) hS
  · refine lv_icmp_le (tgt := 32) hx hb d_Id_torqueAt_25 (by decide) (fun c_1 => ?_) (fun c_1 => ?_)
    · refine lv_iload_n hx hb d_Id_torqueAt_32 rfl (lv_at hl 0 rfl) ?_
      refine lv_if_ge (tgt := 44) hx hb d_Id_torqueAt_33 (by decide) (fun c_10 => ?_) (fun c_10 => ?_)
      · refine lv_iconst (v := 0) hx hb d_Id_torqueAt_44 (by decide) ?_
        refine W.eq (g2 := F0 m 45 ls [.int (vId_torqueAt_0 am p0 sd)]) (by rw [show (vId_torqueAt_0 am p0 sd) = 0 from ((if_pos c_1).trans (if_pos c_10))]) ?_
        exact J_7 _ _ _ (lv_sub hl [0, 1, 2, 3] rfl) hP hD hS
      · refine lv_iload_n hx hb d_Id_torqueAt_36 rfl (lv_at hl 1 rfl) ?_
        refine lv_if_ge (tgt := 44) hx hb d_Id_torqueAt_37 (by decide) (fun c_11 => ?_) (fun c_11 => ?_)
        · refine lv_iconst (v := 0) hx hb d_Id_torqueAt_44 (by decide) ?_
          refine W.eq (g2 := F0 m 45 ls [.int (vId_torqueAt_0 am p0 sd)]) (by rw [show (vId_torqueAt_0 am p0 sd) = 0 from ((if_pos c_1).trans ((if_neg c_10).trans (if_pos c_11)))]) ?_
          exact J_7 _ _ _ (lv_sub hl [0, 1, 2, 3] rfl) hP hD hS
        · refine lv_iconst (v := 1) hx hb d_Id_torqueAt_40 (by decide) ?_
          refine lv_goto (tgt := 45) hx hb d_Id_torqueAt_41 (by decide) ?_
          refine W.eq (g2 := F0 m 45 ls [.int (vId_torqueAt_0 am p0 sd)]) (by rw [show (vId_torqueAt_0 am p0 sd) = 1 from ((if_pos c_1).trans ((if_neg c_10).trans (if_neg c_11)))]) ?_
          exact J_7 _ _ _ (lv_sub hl [0, 1, 2, 3] rfl) hP hD hS
    · refine lv_iload_n hx hb d_Id_torqueAt_28 rfl (lv_at hl 1 rfl) ?_
      refine lv_if_gt (tgt := 40) hx hb d_Id_torqueAt_29 (by decide) (fun c_12 => ?_) (fun c_12 => ?_)
      · refine lv_iconst (v := 1) hx hb d_Id_torqueAt_40 (by decide) ?_
        refine lv_goto (tgt := 45) hx hb d_Id_torqueAt_41 (by decide) ?_
        refine W.eq (g2 := F0 m 45 ls [.int (vId_torqueAt_0 am p0 sd)]) (by rw [show (vId_torqueAt_0 am p0 sd) = 1 from ((if_neg c_1).trans (if_pos c_12))]) ?_
        exact J_7 _ _ _ (lv_sub hl [0, 1, 2, 3] rfl) hP hD hS
      · refine lv_iload_n hx hb d_Id_torqueAt_32 rfl (lv_at hl 0 rfl) ?_
        refine lv_if_ge (tgt := 44) hx hb d_Id_torqueAt_33 (by decide) (fun c_13 => ?_) (fun c_13 => ?_)
        · refine lv_iconst (v := 0) hx hb d_Id_torqueAt_44 (by decide) ?_
          refine W.eq (g2 := F0 m 45 ls [.int (vId_torqueAt_0 am p0 sd)]) (by rw [show (vId_torqueAt_0 am p0 sd) = 0 from ((if_neg c_1).trans ((if_neg c_12).trans (if_pos c_13)))]) ?_
          exact J_7 _ _ _ (lv_sub hl [0, 1, 2, 3] rfl) hP hD hS
        · refine lv_iload_n hx hb d_Id_torqueAt_36 rfl (lv_at hl 1 rfl) ?_
          refine lv_if_ge (tgt := 44) hx hb d_Id_torqueAt_37 (by decide) (fun c_14 => ?_) (fun c_14 => ?_)
          · refine lv_iconst (v := 0) hx hb d_Id_torqueAt_44 (by decide) ?_
            refine W.eq (g2 := F0 m 45 ls [.int (vId_torqueAt_0 am p0 sd)]) (by rw [show (vId_torqueAt_0 am p0 sd) = 0 from ((if_neg c_1).trans ((if_neg c_12).trans ((if_neg c_13).trans (if_pos c_14))))]) ?_
            exact J_7 _ _ _ (lv_sub hl [0, 1, 2, 3] rfl) hP hD hS
          · refine lv_iconst (v := 1) hx hb d_Id_torqueAt_40 (by decide) ?_
            refine lv_goto (tgt := 45) hx hb d_Id_torqueAt_41 (by decide) ?_
            refine W.eq (g2 := F0 m 45 ls [.int (vId_torqueAt_0 am p0 sd)]) (by rw [show (vId_torqueAt_0 am p0 sd) = 1 from ((if_neg c_1).trans ((if_neg c_12).trans ((if_neg c_13).trans (if_neg c_14))))]) ?_
            exact J_7 _ _ _ (lv_sub hl [0, 1, 2, 3] rfl) hP hD hS
set_option maxHeartbeats 4000000 in
set_option maxRecDepth 100000 in
theorem c_To_count (l : Launch) (dC : Nat → ClassId) (dI : Nat → Nat → Nat) (h6 : Nat) (sz : Nat) (s0 : Int64) (s1 : Int64) (s2 : Int64) (s3 : Int64) (p0 : Int32) (p1 : Int32) (p2 : Int32) (p3 : Int32) : Met l y_To_count w_To_count { frames := 0, cells := 0, slots := 0, locals := 0 } (va_Pc [.ref h6, .int p0, .int p1, .int p2, .int p3] (pr_ (dC, dI) [(h6, .inr (3, [.long s0, .long s1, .long s2, .long s3]))] [] sz)) (va_Qv (fun (_ : Unit) => True) (fun _ t => at_ (dC, dI) (va_A [(h6, .inr (3, [.long s0, .long s1, .long s2, .long s3]))] sz) [(h6, .inr (3, [.long (s0 + 1), .long (s1 + ((p0.toInt64) * (p1.toInt64))), .long (s2 + (p2.toInt64)), .long (gTo_count_0_3 p3 s3)]))] [] t) (va_A [(h6, .inr (3, [.long s0, .long s1, .long s2, .long s3]))] sz)) 0 0 (va_A [(h6, .inr (3, [.long s0, .long s1, .long s2, .long s3]))] sz) := by
  refine Met.ofW (cc := b_To_count) (maxL := 5) (ret := none) (by decide) rfl ?_
  intro p e s m args below meth c s₁ B hml hv
  obtain ⟨rfl, hsz, hP, hK, hD0, hN⟩ := hv
  have hx := B.exec
  have hb := B.bytes
  have hr := B.returns
  have hts0 := atoms_spec (ws := w_To_count) B.pre
  have hts : ∀ w ∈ wA_, w.before _ s = true := fun w h => hts0 w (List.mem_cons_of_mem _ h)
  have hown : s.vm.findClass R_To = some m.cls := findClass_of_methodNamed B.named
  have hlocks := B.notSynchronized
  subst hsz
  have hD := hD0.self (sz := s.heap.size)
  generalize hAe : va_A [(h6, .inr (3, [.long s0, .long s1, .long s2, .long s3]))] s.heap.size = A at hD ⊢
  have hA : ∀ q : Nat, s.heap.size ≤ q → A q := fun q h => by rw [← hAe]; exact Or.inr h
  have hS : va_S A s.heap s.heap [] := va_S.rf
  have hP : va_P (dC, dI) classes [(h6, .inr (3, [.long s0, .long s1, .long s2, .long s3]))] s.heap := hP
  have hl := lv_entry ([.ref h6, .int p0, .int p1, .int p2, .int p3]) (n := 5) (Nat.le_of_ble_eq_true rfl)
  rw [lg_entry_eq]
  generalize (lg_sl ([.ref h6, .int p0, .int p1, .int p2, .int p3]) ++ List.replicate (5 - (lg_sl ([.ref h6, .int p0, .int p1, .int p2, .int p3])).length) Slot.unset).toArray = ls at hl ⊢
  have hl : lv_has ls 5 [(0, .ref h6), (1, .int p0), (2, .int p1), (3, .int p2), (4, .int p3)] := hl
  have hS : va_S A s.heap s.heap [] := hS
  refine st_ hP hS (fun H locs hP hS => ?_)
  refine lv_aload_n hx hb d_To_count_0 rfl (lv_at hl 0 rfl) ?_
  refine lv_dup hx hb d_To_count_1 rfl ?_
  refine va_get (D := (dC, dI)) (ci := 3) (v := .long s0) (C := R_To) (T := F_To) (N := 4) hx hb hts in_To hown hK hP 0 rfl rfl 0 (by decide) (hts (.fieldLink R_To 7 "TorqueRows$Totals" "steps" "J") mw_27) (fun _ h9 => h9) rfl d_To_count_2 ?_
  refine lv_lconst (v := 1) hx hb d_To_count_5 (by decide) ?_
  refine lv_ladd hx hb d_To_count_6 ?_
  refine va_put (D := (dC, dI)) (ci := 3) (v := .long (s0 + 1)) (ty := .long) (C := R_To) (T := F_To) (N := 4) hx hb hts in_To t_To t_To_ok n_To hown hK hP hD hS 0 rfl rfl 0 (by decide) (hts (.fieldLink R_To 7 "TorqueRows$Totals" "steps" "J") mw_27) (fun _ h9 => h9) rfl (by decide +kernel) rfl rfl (Nat.le_of_ble_eq_true rfl) d_To_count_7 (fun H locs hP hD hS => ?_)
  have hP : va_P (dC, dI) classes [(h6, .inr (3, [.long (s0 + 1), .long s1, .long s2, .long s3]))] H := hP
  have hD : va_D A [(h6, .inr (3, [.long (s0 + 1), .long s1, .long s2, .long s3]))] := hD
  refine lv_aload_n hx hb d_To_count_10 rfl (lv_at hl 0 rfl) ?_
  refine lv_dup hx hb d_To_count_11 rfl ?_
  refine va_get (D := (dC, dI)) (ci := 3) (v := .long s1) (C := R_To) (T := F_To) (N := 4) hx hb hts in_To hown hK hP 0 rfl rfl 1 (by decide) (hts (.fieldLink R_To 13 "TorqueRows$Totals" "work" "J") mw_28) (fun _ h9 => h9) rfl d_To_count_12 ?_
  refine lv_iload_n hx hb d_To_count_15 rfl (lv_at hl 1 rfl) ?_
  refine lv_i2l (v := (p0.toInt64)) hx hb d_To_count_16 rfl ?_
  refine lv_iload_n hx hb d_To_count_17 rfl (lv_at hl 2 rfl) ?_
  refine lv_i2l (v := (p1.toInt64)) hx hb d_To_count_18 rfl ?_
  refine lv_lmul hx hb d_To_count_19 ?_
  refine lv_ladd hx hb d_To_count_20 ?_
  refine va_put (D := (dC, dI)) (ci := 3) (v := .long (s1 + ((p0.toInt64) * (p1.toInt64)))) (ty := .long) (C := R_To) (T := F_To) (N := 4) hx hb hts in_To t_To t_To_ok n_To hown hK hP hD hS 0 rfl rfl 1 (by decide) (hts (.fieldLink R_To 13 "TorqueRows$Totals" "work" "J") mw_28) (fun _ h9 => h9) rfl (by decide +kernel) rfl rfl (Nat.le_of_ble_eq_true rfl) d_To_count_21 (fun H locs hP hD hS => ?_)
  have hP : va_P (dC, dI) classes [(h6, .inr (3, [.long (s0 + 1), .long (s1 + ((p0.toInt64) * (p1.toInt64))), .long s2, .long s3]))] H := hP
  have hD : va_D A [(h6, .inr (3, [.long (s0 + 1), .long (s1 + ((p0.toInt64) * (p1.toInt64))), .long s2, .long s3]))] := hD
  refine lv_aload_n hx hb d_To_count_24 rfl (lv_at hl 0 rfl) ?_
  refine lv_dup hx hb d_To_count_25 rfl ?_
  refine va_get (D := (dC, dI)) (ci := 3) (v := .long s2) (C := R_To) (T := F_To) (N := 4) hx hb hts in_To hown hK hP 0 rfl rfl 2 (by decide) (hts (.fieldLink R_To 16 "TorqueRows$Totals" "fuel" "J") mw_29) (fun _ h9 => h9) rfl d_To_count_26 ?_
  refine lv_iload_n hx hb d_To_count_29 rfl (lv_at hl 3 rfl) ?_
  refine lv_i2l (v := (p2.toInt64)) hx hb d_To_count_30 rfl ?_
  refine lv_ladd hx hb d_To_count_31 ?_
  refine va_put (D := (dC, dI)) (ci := 3) (v := .long (s2 + (p2.toInt64))) (ty := .long) (C := R_To) (T := F_To) (N := 4) hx hb hts in_To t_To t_To_ok n_To hown hK hP hD hS 0 rfl rfl 2 (by decide) (hts (.fieldLink R_To 16 "TorqueRows$Totals" "fuel" "J") mw_29) (fun _ h9 => h9) rfl (by decide +kernel) rfl rfl (Nat.le_of_ble_eq_true rfl) d_To_count_32 (fun H locs hP hD hS => ?_)
  have hP : va_P (dC, dI) classes [(h6, .inr (3, [.long (s0 + 1), .long (s1 + ((p0.toInt64) * (p1.toInt64))), .long (s2 + (p2.toInt64)), .long s3]))] H := hP
  have hD : va_D A [(h6, .inr (3, [.long (s0 + 1), .long (s1 + ((p0.toInt64) * (p1.toInt64))), .long (s2 + (p2.toInt64)), .long s3]))] := hD
  refine lv_iload hx hb d_To_count_35 (lv_at hl 4 rfl) ?_
  refine lv_if_eq (tgt := 50) hx hb d_To_count_37 (by decide) (fun c_1 => ?_) (fun c_1 => ?_)
  · have h9 : va_P (dC, dI) classes [(h6, .inr (3, [.long (s0 + 1), .long (s1 + ((p0.toInt64) * (p1.toInt64))), .long (s2 + (p2.toInt64)), .long (gTo_count_0_3 p3 s3)]))] H ∧ va_D A [(h6, .inr (3, [.long (s0 + 1), .long (s1 + ((p0.toInt64) * (p1.toInt64))), .long (s2 + (p2.toInt64)), .long (gTo_count_0_3 p3 s3)]))] := by rw [show (gTo_count_0_3 p3 s3) = s3 from (if_pos c_1)]; exact ⟨hP, hD⟩
    exact W.vret hx hb hr (fun t ht hW => ⟨⟨(), rfl, trivial, by rw [ht]; exact h9.1, va_K.moved hW.alike hK, h9.2⟩, hS.F ht⟩) hS.2.2 d_To_count_50
  · refine lv_aload_n hx hb d_To_count_40 rfl (lv_at hl 0 rfl) ?_
    refine lv_dup hx hb d_To_count_41 rfl ?_
    refine va_get (D := (dC, dI)) (ci := 3) (v := .long s3) (C := R_To) (T := F_To) (N := 4) hx hb hts in_To hown hK hP 0 rfl rfl 3 (by decide) (hts (.fieldLink R_To 19 "TorqueRows$Totals" "stops" "J") mw_30) (fun _ h9 => h9) rfl d_To_count_42 ?_
    refine lv_lconst (v := 1) hx hb d_To_count_45 (by decide) ?_
    refine lv_ladd hx hb d_To_count_46 ?_
    refine va_put (D := (dC, dI)) (ci := 3) (v := .long (s3 + 1)) (ty := .long) (C := R_To) (T := F_To) (N := 4) hx hb hts in_To t_To t_To_ok n_To hown hK hP hD hS 0 rfl rfl 3 (by decide) (hts (.fieldLink R_To 19 "TorqueRows$Totals" "stops" "J") mw_30) (fun _ h9 => h9) rfl (by decide +kernel) rfl rfl (Nat.le_of_ble_eq_true rfl) d_To_count_47 (fun H locs hP hD hS => ?_)
    have hP : va_P (dC, dI) classes [(h6, .inr (3, [.long (s0 + 1), .long (s1 + ((p0.toInt64) * (p1.toInt64))), .long (s2 + (p2.toInt64)), .long (s3 + 1)]))] H := hP
    have hD : va_D A [(h6, .inr (3, [.long (s0 + 1), .long (s1 + ((p0.toInt64) * (p1.toInt64))), .long (s2 + (p2.toInt64)), .long (s3 + 1)]))] := hD
    have h9 : va_P (dC, dI) classes [(h6, .inr (3, [.long (s0 + 1), .long (s1 + ((p0.toInt64) * (p1.toInt64))), .long (s2 + (p2.toInt64)), .long (gTo_count_0_3 p3 s3)]))] H ∧ va_D A [(h6, .inr (3, [.long (s0 + 1), .long (s1 + ((p0.toInt64) * (p1.toInt64))), .long (s2 + (p2.toInt64)), .long (gTo_count_0_3 p3 s3)]))] := by rw [show (gTo_count_0_3 p3 s3) = (s3 + 1) from (if_neg c_1)]; exact ⟨hP, hD⟩
    exact W.vret hx hb hr (fun t ht hW => ⟨⟨(), rfl, trivial, by rw [ht]; exact h9.1, va_K.moved hW.alike hK, h9.2⟩, hS.F ht⟩) hS.2.2 d_To_count_50
set_option maxHeartbeats 4000000 in
set_option maxRecDepth 100000 in
theorem c_Wi_init (l : Launch) (dC : Nat → ClassId) (dI : Nat → Nat → Nat) (h3 : Nat) (sz : Nat) : Met l y_Wi_init w_Wi_init { frames := 1, cells := 1, slots := 6, locals := 21 } (va_Pc [.ref h3] (pr_ (dC, dI) [(h3, .inr (1, [.null, .int 0]))] [] sz)) (va_Qv (fun (_ : Unit) => True) (fun _ t => ∃ (qx0 : Nat), ∃ (kx0 : ClassId), at_ (dC, dI) (va_A [(h3, .inr (1, [.null, .int 0]))] sz) [(h3, .inr (1, [.ref qx0, .int 0])), (qx0, .inl (kx0, 6, .inl (vWi_clear_4 (fun _ => 0))))] [(kx0, .int)] t) (va_A [(h3, .inr (1, [.null, .int 0]))] sz)) 1 6 (va_A [(h3, .inr (1, [.null, .int 0]))] sz) := by
  refine Met.ofW (cc := b_Wi_init) (maxL := 1) (ret := none) (by decide) rfl ?_
  intro p e s m args below meth c s₁ B hml hv
  obtain ⟨rfl, hsz, hP, hK, hD0, hN⟩ := hv
  have hx := B.exec
  have hb := B.bytes
  have hr := B.returns
  have hts0 := atoms_spec (ws := w_Wi_init) B.pre
  have hts : ∀ w ∈ wA_, w.before _ s = true := fun w h => hts0 w (List.mem_cons_of_mem _ h)
  have hown : s.vm.findClass R_Wi = some m.cls := findClass_of_methodNamed B.named
  have hlocks := B.notSynchronized
  have hin : meth.name = "<init>" := (name_of_methodNamed B.named B.method).1
  subst hsz
  have hD := hD0.self (sz := s.heap.size)
  generalize hAe : va_A [(h3, .inr (1, [.null, .int 0]))] s.heap.size = A at hD ⊢
  have hA : ∀ q : Nat, s.heap.size ≤ q → A q := fun q h => by rw [← hAe]; exact Or.inr h
  have hS : va_S A s.heap s.heap [] := va_S.rf
  have hP : va_P (dC, dI) classes [(h3, .inr (1, [.null, .int 0]))] s.heap := hP
  have hl := lv_entry ([.ref h3]) (n := 1) (Nat.le_of_ble_eq_true rfl)
  rw [lg_entry_eq]
  generalize (lg_sl ([.ref h3]) ++ List.replicate (1 - (lg_sl ([.ref h3])).length) Slot.unset).toArray = ls at hl ⊢
  have hl : lv_has ls 1 [(0, .ref h3)] := hl
  have hS : va_S A s.heap s.heap [] := hS
  refine st_ hP hS (fun H locs hP hS => ?_)
  refine lv_aload_n hx hb d_Wi_init_0 rfl (lv_at hl 0 rfl) ?_
  refine W.objInit hx hb hown (hts (.methodLink R_Wi 1 Lib.objectInit) mw_139) (hts (.instanceMethod Lib.objectInit) mw_136) (hts (.code Lib.objectInit ⟨#[0xb1]⟩ 1 none) mw_137) rfl (by rw [hml]; exact hl.1) rfl d_Wi_init_1 (Nat.le_of_ble_eq_true rfl) (Nat.le_of_ble_eq_true rfl) ?_
  refine W.eq (g2 := F0 m 4 ls []) rfl ?_
  refine lv_aload_n hx hb d_Wi_init_4 rfl (lv_at hl 0 rfl) ?_
  refine lv_bipush (v := 6) hx hb d_Wi_init_5 (by decide) ?_
  refine va_newa (atype := .int) (N' := 6) (a0 := (6, .inl (fun _ => 0))) (ty := .int) (n := 6) hx hb (hts (.arrayClass .int) mw_138) rfl hK hP hD hS hA (fun _ => rfl) (by decide) (by decide) (by decide) (Nat.le_of_ble_eq_true rfl) (Nat.le_of_ble_eq_true rfl) d_Wi_init_7 (fun qx0 kx0 H hK hP hD hS => ?_)
  have hP : va_P (dC, dI) classes [(h3, .inr (1, [.null, .int 0])), (qx0, .inl (kx0, 6, .inl (fun _ => 0)))] H := hP
  have hD : va_D A [(h3, .inr (1, [.null, .int 0])), (qx0, .inl (kx0, 6, .inl (fun _ => 0)))] := hD
  have hK : va_K (dC, dI) classes [(kx0, .int)] s := hK
  refine W.widen (k := 1) (n := 6) (Nat.le_of_ble_eq_true rfl) (Nat.le_of_ble_eq_true rfl) ?_
  refine va_putF (D := (dC, dI)) (ci := 1) (v := .ref qx0) (ty := (.array .int)) (C := R_Wi) (T := F_Wi) (N := 2) hx hb hts in_Wi t_Wi t_Wi_ok n_Wi hown hK hP hD hS 0 rfl rfl 0 (by decide) (hts (.fieldLink R_Wi 9 "TorqueRows$Wishes" "least" "[I") mw_16) (fun _ h9 => h9) rfl hin rfl (by decide +kernel) rfl rfl (Nat.le_of_ble_eq_true rfl) d_Wi_init_9 (fun H locs hP hD hS => ?_)
  have hP : va_P (dC, dI) classes [(h3, .inr (1, [.ref qx0, .int 0])), (qx0, .inl (kx0, 6, .inl (fun _ => 0)))] H := hP
  have hD : va_D A [(h3, .inr (1, [.ref qx0, .int 0])), (qx0, .inl (kx0, 6, .inl (fun _ => 0)))] := hD
  refine lv_aload_n hx hb d_Wi_init_12 rfl (lv_at hl 0 rfl) ?_
  have hPc := hP.sub (ws' := [(h3, .inr (1, [.ref qx0, .int 0])), (qx0, .inl (kx0, 6, .inl (fun _ => 0)))]) [0, 1] rfl
  have hDc := hD.sub (ws' := [(h3, .inr (1, [.ref qx0, .int 0])), (qx0, .inl (kx0, 6, .inl (fun _ => 0)))]) [0, 1] (by decide) rfl
  have hKc := hK.sub (tys' := [(kx0, .int)]) [0] rfl
  have hFc := va_free (wc := [(h3, .inr (1, [.ref qx0, .int 0])), (qx0, .inl (kx0, 6, .inl (fun _ => 0)))]) hD hS hA [0, 1] rfl
  refine ca_v (va_runV (As := []) (rest := []) ⟨hx, hb, hml, hown, hts⟩ (c_Wi_clear l dC dI h3 qx0 kx0 H.size 0 (fun _ => 0)) (cwV 0 hts (gV_ mw_140 mw_58 mw_59 mw_57 mw_56) rfl rfl rfl (by decide +kernel) ⟨Nat.le_of_ble_eq_true rfl, Nat.le_of_ble_eq_true rfl⟩) ⟨fb_, va_recv hKc hPc (ci := 1) (q0 := 0) rfl rfl, pu_ hPc hKc hDc hN⟩ rfl rfl hl.1 rfl (lv_room (Nat.le_of_ble_eq_true rfl)) d_Wi_init_13 ⟨Nat.le_of_ble_eq_true rfl, Nat.le_of_ble_eq_true rfl⟩) hS (fun q _ h => hFc q h) hFc (fun t H locs ht hvm hB hz1 hk1 hS => ?_)
  obtain ⟨hP, hD⟩ := aft_ (wr := []) (w1 := [(h3, .inr (1, [.ref qx0, .int 0])), (qx0, .inl (kx0, 6, .inl (vWi_clear_4 (fun _ => 0))))]) (w2 := [(h3, .inr (1, [.ref qx0, .int 0])), (qx0, .inl (kx0, 6, .inl (vWi_clear_4 (fun _ => 0))))]) hP hD [0, 1] [] [0, 1] rfl rfl (by decide) (by decide) hk1 hFc hB ht rfl (by decide)
  have h9 : va_P (dC, dI) classes [(h3, .inr (1, [.ref qx0, .int 0])), (qx0, .inl (kx0, 6, .inl (vWi_clear_4 (fun _ => 0))))] H ∧ va_D A [(h3, .inr (1, [.ref qx0, .int 0])), (qx0, .inl (kx0, 6, .inl (vWi_clear_4 (fun _ => 0))))] := ⟨hP, hD⟩
  exact W.vret hx hb hr (fun t ht hW => ⟨⟨(), rfl, trivial, qx0, kx0, by rw [ht]; exact h9.1, va_K.moved hW.alike hK, h9.2⟩, hS.F ht⟩) hS.2.2 d_Wi_init_16
set_option maxHeartbeats 4000000 in
set_option maxRecDepth 100000 in
theorem c_Id_init (l : Launch) (dC : Nat → ClassId) (dI : Nat → Nat → Nat) (h5 : Nat) (sz : Nat) : Met l y_Id_init w_Id_init { frames := 1, cells := 0, slots := 0, locals := 20 } (va_Pc [.ref h5] (pr_ (dC, dI) [(h5, .inr (2, [.int 0, .int 0]))] [] sz)) (va_Qv (fun (_ : Unit) => True) (fun _ t => at_ (dC, dI) (va_A [(h5, .inr (2, [.int 0, .int 0]))] sz) [(h5, .inr (2, [.int 800, .int 0]))] [] t) (va_A [(h5, .inr (2, [.int 0, .int 0]))] sz)) 0 0 (va_A [(h5, .inr (2, [.int 0, .int 0]))] sz) := by
  refine Met.ofW (cc := b_Id_init) (maxL := 1) (ret := none) (by decide) rfl ?_
  intro p e s m args below meth c s₁ B hml hv
  obtain ⟨rfl, hsz, hP, hK, hD0, hN⟩ := hv
  have hx := B.exec
  have hb := B.bytes
  have hr := B.returns
  have hts0 := atoms_spec (ws := w_Id_init) B.pre
  have hts : ∀ w ∈ wA_, w.before _ s = true := fun w h => hts0 w (List.mem_cons_of_mem _ h)
  have hown : s.vm.findClass R_Id = some m.cls := findClass_of_methodNamed B.named
  have hlocks := B.notSynchronized
  have hin : meth.name = "<init>" := (name_of_methodNamed B.named B.method).1
  subst hsz
  have hD := hD0.self (sz := s.heap.size)
  generalize hAe : va_A [(h5, .inr (2, [.int 0, .int 0]))] s.heap.size = A at hD ⊢
  have hA : ∀ q : Nat, s.heap.size ≤ q → A q := fun q h => by rw [← hAe]; exact Or.inr h
  have hS : va_S A s.heap s.heap [] := va_S.rf
  have hP : va_P (dC, dI) classes [(h5, .inr (2, [.int 0, .int 0]))] s.heap := hP
  have hl := lv_entry ([.ref h5]) (n := 1) (Nat.le_of_ble_eq_true rfl)
  rw [lg_entry_eq]
  generalize (lg_sl ([.ref h5]) ++ List.replicate (1 - (lg_sl ([.ref h5])).length) Slot.unset).toArray = ls at hl ⊢
  have hl : lv_has ls 1 [(0, .ref h5)] := hl
  have hS : va_S A s.heap s.heap [] := hS
  refine st_ hP hS (fun H locs hP hS => ?_)
  refine lv_aload_n hx hb d_Id_init_0 rfl (lv_at hl 0 rfl) ?_
  refine W.objInit hx hb hown (hts (.methodLink R_Id 1 Lib.objectInit) mw_141) (hts (.instanceMethod Lib.objectInit) mw_136) (hts (.code Lib.objectInit ⟨#[0xb1]⟩ 1 none) mw_137) rfl (by rw [hml]; exact hl.1) rfl d_Id_init_1 (Nat.le_of_ble_eq_true rfl) (Nat.le_of_ble_eq_true rfl) ?_
  refine W.eq (g2 := F0 m 4 ls []) rfl ?_
  refine lv_aload_n hx hb d_Id_init_4 rfl (lv_at hl 0 rfl) ?_
  refine lv_sipush (v := 800) hx hb d_Id_init_5 (by decide) ?_
  refine va_put (D := (dC, dI)) (ci := 2) (v := .int 800) (ty := .int) (C := R_Id) (T := F_Id) (N := 2) hx hb hts in_Id t_Id t_Id_ok n_Id hown hK hP hD hS 0 rfl rfl 0 (by decide) (hts (.fieldLink R_Id 7 "TorqueRows$Idling" "aim" "I") mw_21) (fun _ h9 => h9) rfl (by decide +kernel) rfl rfl (Nat.le_of_ble_eq_true rfl) d_Id_init_8 (fun H locs hP hD hS => ?_)
  have hP : va_P (dC, dI) classes [(h5, .inr (2, [.int 800, .int 0]))] H := hP
  have hD : va_D A [(h5, .inr (2, [.int 800, .int 0]))] := hD
  have h9 : va_P (dC, dI) classes [(h5, .inr (2, [.int 800, .int 0]))] H ∧ va_D A [(h5, .inr (2, [.int 800, .int 0]))] := ⟨hP, hD⟩
  exact W.vret hx hb hr (fun t ht hW => ⟨⟨(), rfl, trivial, by rw [ht]; exact h9.1, va_K.moved hW.alike hK, h9.2⟩, hS.F ht⟩) hS.2.2 d_Id_init_11
set_option maxHeartbeats 4000000 in
set_option maxRecDepth 100000 in
theorem c_To_init (l : Launch) (dC : Nat → ClassId) (dI : Nat → Nat → Nat) (h6 : Nat) (sz : Nat) : Met l y_To_init w_To_init { frames := 1, cells := 0, slots := 0, locals := 20 } (va_Pc [.ref h6] (pr_ (dC, dI) [(h6, .inr (3, [.long 0, .long 0, .long 0, .long 0]))] [] sz)) (va_Qv (fun (_ : Unit) => True) (fun _ t => at_ (dC, dI) (va_A [(h6, .inr (3, [.long 0, .long 0, .long 0, .long 0]))] sz) [(h6, .inr (3, [.long 0, .long 0, .long 0, .long 0]))] [] t) (va_A [(h6, .inr (3, [.long 0, .long 0, .long 0, .long 0]))] sz)) 0 0 (va_A [(h6, .inr (3, [.long 0, .long 0, .long 0, .long 0]))] sz) := by
  refine Met.ofW (cc := b_To_init) (maxL := 1) (ret := none) (by decide) rfl ?_
  intro p e s m args below meth c s₁ B hml hv
  obtain ⟨rfl, hsz, hP, hK, hD0, hN⟩ := hv
  have hx := B.exec
  have hb := B.bytes
  have hr := B.returns
  have hts0 := atoms_spec (ws := w_To_init) B.pre
  have hts : ∀ w ∈ wA_, w.before _ s = true := fun w h => hts0 w (List.mem_cons_of_mem _ h)
  have hown : s.vm.findClass R_To = some m.cls := findClass_of_methodNamed B.named
  have hlocks := B.notSynchronized
  have hin : meth.name = "<init>" := (name_of_methodNamed B.named B.method).1
  subst hsz
  have hD := hD0.self (sz := s.heap.size)
  generalize hAe : va_A [(h6, .inr (3, [.long 0, .long 0, .long 0, .long 0]))] s.heap.size = A at hD ⊢
  have hA : ∀ q : Nat, s.heap.size ≤ q → A q := fun q h => by rw [← hAe]; exact Or.inr h
  have hS : va_S A s.heap s.heap [] := va_S.rf
  have hP : va_P (dC, dI) classes [(h6, .inr (3, [.long 0, .long 0, .long 0, .long 0]))] s.heap := hP
  have hl := lv_entry ([.ref h6]) (n := 1) (Nat.le_of_ble_eq_true rfl)
  rw [lg_entry_eq]
  generalize (lg_sl ([.ref h6]) ++ List.replicate (1 - (lg_sl ([.ref h6])).length) Slot.unset).toArray = ls at hl ⊢
  have hl : lv_has ls 1 [(0, .ref h6)] := hl
  have hS : va_S A s.heap s.heap [] := hS
  refine st_ hP hS (fun H locs hP hS => ?_)
  refine lv_aload_n hx hb d_To_init_0 rfl (lv_at hl 0 rfl) ?_
  refine W.objInit hx hb hown (hts (.methodLink R_To 1 Lib.objectInit) mw_142) (hts (.instanceMethod Lib.objectInit) mw_136) (hts (.code Lib.objectInit ⟨#[0xb1]⟩ 1 none) mw_137) rfl (by rw [hml]; exact hl.1) rfl d_To_init_1 (Nat.le_of_ble_eq_true rfl) (Nat.le_of_ble_eq_true rfl) ?_
  refine W.eq (g2 := F0 m 4 ls []) rfl ?_
  have h9 : va_P (dC, dI) classes [(h6, .inr (3, [.long 0, .long 0, .long 0, .long 0]))] H ∧ va_D A [(h6, .inr (3, [.long 0, .long 0, .long 0, .long 0]))] := ⟨hP, hD⟩
  exact W.vret hx hb hr (fun t ht hW => ⟨⟨(), rfl, trivial, by rw [ht]; exact h9.1, va_K.moved hW.alike hK, h9.2⟩, hS.F ht⟩) hS.2.2 d_To_init_4
end
section
set_option maxHeartbeats 4000000 in
set_option maxRecDepth 100000 in
theorem c_X_isUpTo (l : Launch) (dC : Nat → ClassId) (dI : Nat → Nat → Nat) (sz : Nat) (p0 : Int64) (p1 : Int64) : Met l y_X_isUpTo w_X_isUpTo { frames := 0, cells := 0, slots := 0, locals := 0 } (va_Pc [.long p0, .long p1] (pr_ (dC, dI) [] [] sz)) (va_Qi (fun r (_ : Unit) => r = (fX_isUpTo p0 p1)) (fun _ t => at_ (dC, dI) (va_A [] sz) [] [] t) (va_A [] sz)) 0 0 (va_A [] sz) := by
  refine Met.ofW (cc := b_X_isUpTo) (maxL := 4) (ret := (some .boolean)) (by decide) rfl ?_
  intro p e s m args below meth c s₁ B hml hv
  obtain ⟨rfl, hsz, hP, hK, hD0, hN⟩ := hv
  have hx := B.exec
  have hb := B.bytes
  have hr := B.returns
  have hts0 := atoms_spec (ws := w_X_isUpTo) B.pre
  have hts : ∀ w ∈ wA_, w.before _ s = true := fun w h => hts0 w (List.mem_cons_of_mem _ h)
  have hown : s.vm.findClass R_X = some m.cls := findClass_of_methodNamed B.named
  have hlocks := B.notSynchronized
  subst hsz
  have hD := hD0.self (sz := s.heap.size)
  generalize hAe : va_A [] s.heap.size = A at hD ⊢
  have hA : ∀ q : Nat, s.heap.size ≤ q → A q := fun q h => by rw [← hAe]; exact Or.inr h
  have hS : va_S A s.heap s.heap [] := va_S.rf
  have hP : va_P (dC, dI) classes [] s.heap := hP
  have hl := lv_entry ([.long p0, .long p1]) (n := 4) (Nat.le_of_ble_eq_true rfl)
  rw [lg_entry_eq]
  generalize (lg_sl ([.long p0, .long p1]) ++ List.replicate (4 - (lg_sl ([.long p0, .long p1])).length) Slot.unset).toArray = ls at hl ⊢
  have hl : lv_has ls 4 [(0, .long p0), (2, .long p1)] := hl
  have hS : va_S A s.heap s.heap [] := hS
  refine st_ hP hS (fun H locs hP hS => ?_)
  refine lv_lload_n hx hb d_X_isUpTo_0 rfl (lv_at hl 0 rfl) ?_
  refine lv_lconst (v := 0) hx hb d_X_isUpTo_1 (by decide) ?_
  refine W.lcmp hx hb d_X_isUpTo_2 ?_
  refine lv_if_lt (tgt := 16) hx hb d_X_isUpTo_3 (by decide) (fun c_1 => ?_) (fun c_1 => ?_)
  · refine lv_iconst (v := 0) hx hb d_X_isUpTo_16 (by decide) ?_
    have h9 : va_P (dC, dI) classes [] H ∧ va_D A [] := ⟨hP, hD⟩
    exact W.zret (v := 0) hx hb hr rfl (fun t ht hW => ⟨⟨0, (), rfl, ((if_pos c_1)).symm, by rw [ht]; exact h9.1, va_K.moved hW.alike hK, h9.2⟩, hS.F ht⟩) hS.2.2 d_X_isUpTo_17
  · refine lv_lload_n hx hb d_X_isUpTo_6 rfl (lv_at hl 0 rfl) ?_
    refine lv_lload_n hx hb d_X_isUpTo_7 rfl (lv_at hl 1 rfl) ?_
    refine W.lcmp hx hb d_X_isUpTo_8 ?_
    refine lv_if_gt (tgt := 16) hx hb d_X_isUpTo_9 (by decide) (fun c_2 => ?_) (fun c_2 => ?_)
    · refine lv_iconst (v := 0) hx hb d_X_isUpTo_16 (by decide) ?_
      have h9 : va_P (dC, dI) classes [] H ∧ va_D A [] := ⟨hP, hD⟩
      exact W.zret (v := 0) hx hb hr rfl (fun t ht hW => ⟨⟨0, (), rfl, (((if_neg c_1).trans (if_pos c_2))).symm, by rw [ht]; exact h9.1, va_K.moved hW.alike hK, h9.2⟩, hS.F ht⟩) hS.2.2 d_X_isUpTo_17
    · refine lv_iconst (v := 1) hx hb d_X_isUpTo_12 (by decide) ?_
      refine lv_goto (tgt := 17) hx hb d_X_isUpTo_13 (by decide) ?_
      have h9 : va_P (dC, dI) classes [] H ∧ va_D A [] := ⟨hP, hD⟩
      exact W.zret (v := 1) hx hb hr rfl (fun t ht hW => ⟨⟨1, (), rfl, (((if_neg c_1).trans (if_neg c_2))).symm, by rw [ht]; exact h9.1, va_K.moved hW.alike hK, h9.2⟩, hS.F ht⟩) hS.2.2 d_X_isUpTo_17
set_option maxHeartbeats 4000000 in
set_option maxRecDepth 100000 in
theorem c_X_ramped (l : Launch) (dC : Nat → ClassId) (dI : Nat → Nat → Nat) (sz : Nat) (p0 : Int32) (p1 : Int32) : Met l y_X_ramped w_X_ramped { frames := 1, cells := 0, slots := 0, locals := 21 } (va_Pc [.int p0, .int p1] (pr_ (dC, dI) [] [] sz)) (va_Qi (fun r (_ : Unit) => r = (fX_ramped p0 p1)) (fun _ t => at_ (dC, dI) (va_A [] sz) [] [] t) (va_A [] sz)) 0 0 (va_A [] sz) := by
  refine Met.ofW (cc := b_X_ramped) (maxL := 2) (ret := (some .int)) (by decide) rfl ?_
  intro p e s m args below meth c s₁ B hml hv
  obtain ⟨rfl, hsz, hP, hK, hD0, hN⟩ := hv
  have hx := B.exec
  have hb := B.bytes
  have hr := B.returns
  have hts0 := atoms_spec (ws := w_X_ramped) B.pre
  have hts : ∀ w ∈ wA_, w.before _ s = true := fun w h => hts0 w (List.mem_cons_of_mem _ h)
  have hown : s.vm.findClass R_X = some m.cls := findClass_of_methodNamed B.named
  have hlocks := B.notSynchronized
  subst hsz
  have hD := hD0.self (sz := s.heap.size)
  generalize hAe : va_A [] s.heap.size = A at hD ⊢
  have hA : ∀ q : Nat, s.heap.size ≤ q → A q := fun q h => by rw [← hAe]; exact Or.inr h
  have hS : va_S A s.heap s.heap [] := va_S.rf
  have hP : va_P (dC, dI) classes [] s.heap := hP
  have hl := lv_entry ([.int p0, .int p1]) (n := 2) (Nat.le_of_ble_eq_true rfl)
  rw [lg_entry_eq]
  generalize (lg_sl ([.int p0, .int p1]) ++ List.replicate (2 - (lg_sl ([.int p0, .int p1])).length) Slot.unset).toArray = ls at hl ⊢
  have hl : lv_has ls 2 [(0, .int p0), (1, .int p1)] := hl
  have hS : va_S A s.heap s.heap [] := hS
  refine st_ hP hS (fun H locs hP hS => ?_)
  refine lv_iload_n hx hb d_X_ramped_0 rfl (lv_at hl 0 rfl) ?_
  refine lv_bipush (v := 80) hx hb d_X_ramped_1 (by decide) ?_
  refine lv_isub hx hb d_X_ramped_3 ?_
  refine lv_iload_n hx hb d_X_ramped_4 rfl (lv_at hl 0 rfl) ?_
  refine lv_bipush (v := 40) hx hb d_X_ramped_5 (by decide) ?_
  refine lv_iadd hx hb d_X_ramped_7 ?_
  refine lv_iload_n hx hb d_X_ramped_8 rfl (lv_at hl 1 rfl) ?_
  refine va_mmin hx hb (by rw [hml]; exact hl.1.symm) hown (hts (.methodLink R_X 91 Lib.Math.min.name) mw_31) (hts (.static Lib.Math.min.name) mw_1) (hts (.initialized "java/lang/Math") mw_2) (hts (.code Lib.Math.min.name Lib.Math.min.code 2 (some .int)) mw_3) (Nat.le_of_ble_eq_true rfl) (Nat.le_of_ble_eq_true rfl) (Nat.le_of_ble_eq_true rfl) (Nat.le_of_ble_eq_true rfl) d_X_ramped_9 ?_
  refine tpi (y := (mn (p0 + 40) p1)) rfl ?_
  refine va_mmax hx hb (by rw [hml]; exact hl.1.symm) hown (hts (.methodLink R_X 207 Lib.Math.max.name) mw_32) (hts (.static Lib.Math.max.name) mw_5) (hts (.initialized "java/lang/Math") mw_2) (hts (.code Lib.Math.max.name Lib.Math.max.code 2 (some .int)) mw_6) (Nat.le_of_ble_eq_true rfl) (Nat.le_of_ble_eq_true rfl) (Nat.le_of_ble_eq_true rfl) (Nat.le_of_ble_eq_true rfl) d_X_ramped_12 ?_
  refine tpi (y := (mx (p0 - 80) (mn (p0 + 40) p1))) rfl ?_
  have h9 : va_P (dC, dI) classes [] H ∧ va_D A [] := ⟨hP, hD⟩
  exact W.iret (v := (mx (p0 - 80) (mn (p0 + 40) p1))) hx hb hr (fun t ht hW => ⟨⟨(mx (p0 - 80) (mn (p0 + 40) p1)), (), rfl, rfl, by rw [ht]; exact h9.1, va_K.moved hW.alike hK, h9.2⟩, hS.F ht⟩) hS.2.2 d_X_ramped_15
set_option maxHeartbeats 4000000 in
set_option maxRecDepth 100000 in
theorem c_X_drives (l : Launch) (dC : Nat → ClassId) (dI : Nat → Nat → Nat) (h0 h1 h2 h3 h4 h5 h6 h7 : Nat) (kT kW kB : ClassId) (sz : Nat) (bn : Int32) (cy : Int32) (li : Int32) (st : Int32) (df : Int32) (tm : Int32) (tq : Int32) (tp : Int32) (pd : Int32) (wa : Int32) (ai : Int32) (fu : Int32) (mo : Int32) (sp : Int32) (tb : Nat → Int32) (wt : Int32) (le : Nat → Int32) (am : Int32) (sd : Int32) (s0 : Int64) (s1 : Int64) (s2 : Int64) (s3 : Int64) (lo : Nat → Int32) : Met l y_X_drives w_X_drives { frames := 0, cells := 0, slots := 0, locals := 0 } (va_Pc [.ref h0] (pr_ (dC, dI) [(h0, .inr (4, [.ref h1, .ref h3, .ref h5, .ref h6, .ref h7, .int bn, .int cy, .int li, .int st, .int df, .int tm, .int tq, .int tp, .int pd, .int wa, .int ai, .int fu, .int mo, .int sp])), (h1, .inr (0, [.ref h2])), (h2, .inl (kT, 320, .inl tb)), (h3, .inr (1, [.ref h4, .int wt])), (h4, .inl (kW, 6, .inl le)), (h5, .inr (2, [.int am, .int sd])), (h6, .inr (3, [.long s0, .long s1, .long s2, .long s3])), (h7, .inl (kB, 3, .inl lo))] [(kT, .int), (kW, .int), (kB, .boolean)] sz)) (va_Qi (fun r (_ : Unit) => r = (fX_drives mo)) (fun _ t => at_ (dC, dI) (va_A [(h0, .inr (4, [.ref h1, .ref h3, .ref h5, .ref h6, .ref h7, .int bn, .int cy, .int li, .int st, .int df, .int tm, .int tq, .int tp, .int pd, .int wa, .int ai, .int fu, .int mo, .int sp])), (h1, .inr (0, [.ref h2])), (h2, .inl (kT, 320, .inl tb)), (h3, .inr (1, [.ref h4, .int wt])), (h4, .inl (kW, 6, .inl le)), (h5, .inr (2, [.int am, .int sd])), (h6, .inr (3, [.long s0, .long s1, .long s2, .long s3])), (h7, .inl (kB, 3, .inl lo))] sz) [(h0, .inr (4, [.ref h1, .ref h3, .ref h5, .ref h6, .ref h7, .int bn, .int cy, .int li, .int st, .int df, .int tm, .int tq, .int tp, .int pd, .int wa, .int ai, .int fu, .int mo, .int sp])), (h1, .inr (0, [.ref h2])), (h2, .inl (kT, 320, .inl tb)), (h3, .inr (1, [.ref h4, .int wt])), (h4, .inl (kW, 6, .inl le)), (h5, .inr (2, [.int am, .int sd])), (h6, .inr (3, [.long s0, .long s1, .long s2, .long s3])), (h7, .inl (kB, 3, .inl lo))] [(kT, .int), (kW, .int), (kB, .boolean)] t) (va_A [(h0, .inr (4, [.ref h1, .ref h3, .ref h5, .ref h6, .ref h7, .int bn, .int cy, .int li, .int st, .int df, .int tm, .int tq, .int tp, .int pd, .int wa, .int ai, .int fu, .int mo, .int sp])), (h1, .inr (0, [.ref h2])), (h2, .inl (kT, 320, .inl tb)), (h3, .inr (1, [.ref h4, .int wt])), (h4, .inl (kW, 6, .inl le)), (h5, .inr (2, [.int am, .int sd])), (h6, .inr (3, [.long s0, .long s1, .long s2, .long s3])), (h7, .inl (kB, 3, .inl lo))] sz)) 0 0 (va_A [(h0, .inr (4, [.ref h1, .ref h3, .ref h5, .ref h6, .ref h7, .int bn, .int cy, .int li, .int st, .int df, .int tm, .int tq, .int tp, .int pd, .int wa, .int ai, .int fu, .int mo, .int sp])), (h1, .inr (0, [.ref h2])), (h2, .inl (kT, 320, .inl tb)), (h3, .inr (1, [.ref h4, .int wt])), (h4, .inl (kW, 6, .inl le)), (h5, .inr (2, [.int am, .int sd])), (h6, .inr (3, [.long s0, .long s1, .long s2, .long s3])), (h7, .inl (kB, 3, .inl lo))] sz) := by
  refine Met.ofW (cc := b_X_drives) (maxL := 1) (ret := (some .boolean)) (by decide) rfl ?_
  intro p e s m args below meth c s₁ B hml hv
  obtain ⟨rfl, hsz, hP, hK, hD0, hN⟩ := hv
  have hx := B.exec
  have hb := B.bytes
  have hr := B.returns
  have hts0 := atoms_spec (ws := w_X_drives) B.pre
  have hts : ∀ w ∈ wA_, w.before _ s = true := fun w h => hts0 w (List.mem_cons_of_mem _ h)
  have hown : s.vm.findClass R_X = some m.cls := findClass_of_methodNamed B.named
  have hlocks := B.notSynchronized
  subst hsz
  have hD := hD0.self (sz := s.heap.size)
  generalize hAe : va_A [(h0, .inr (4, [.ref h1, .ref h3, .ref h5, .ref h6, .ref h7, .int bn, .int cy, .int li, .int st, .int df, .int tm, .int tq, .int tp, .int pd, .int wa, .int ai, .int fu, .int mo, .int sp])), (h1, .inr (0, [.ref h2])), (h2, .inl (kT, 320, .inl tb)), (h3, .inr (1, [.ref h4, .int wt])), (h4, .inl (kW, 6, .inl le)), (h5, .inr (2, [.int am, .int sd])), (h6, .inr (3, [.long s0, .long s1, .long s2, .long s3])), (h7, .inl (kB, 3, .inl lo))] s.heap.size = A at hD ⊢
  have hA : ∀ q : Nat, s.heap.size ≤ q → A q := fun q h => by rw [← hAe]; exact Or.inr h
  have hS : va_S A s.heap s.heap [] := va_S.rf
  have hP : va_P (dC, dI) classes [(h0, .inr (4, [.ref h1, .ref h3, .ref h5, .ref h6, .ref h7, .int bn, .int cy, .int li, .int st, .int df, .int tm, .int tq, .int tp, .int pd, .int wa, .int ai, .int fu, .int mo, .int sp])), (h1, .inr (0, [.ref h2])), (h2, .inl (kT, 320, .inl tb)), (h3, .inr (1, [.ref h4, .int wt])), (h4, .inl (kW, 6, .inl le)), (h5, .inr (2, [.int am, .int sd])), (h6, .inr (3, [.long s0, .long s1, .long s2, .long s3])), (h7, .inl (kB, 3, .inl lo))] s.heap := hP
  have hl := lv_entry ([.ref h0]) (n := 1) (Nat.le_of_ble_eq_true rfl)
  rw [lg_entry_eq]
  generalize (lg_sl ([.ref h0]) ++ List.replicate (1 - (lg_sl ([.ref h0])).length) Slot.unset).toArray = ls at hl ⊢
  have hl : lv_has ls 1 [(0, .ref h0)] := hl
  have hS : va_S A s.heap s.heap [] := hS
  refine st_ hP hS (fun H locs hP hS => ?_)
  refine lv_aload_n hx hb d_X_drives_0 rfl (lv_at hl 0 rfl) ?_
  refine va_get (D := (dC, dI)) (ci := 4) (v := .int mo) (C := R_X) (T := F_X) (N := 19) hx hb hts in_X hown hK hP 0 rfl rfl 17 (by decide) (hts (.fieldLink R_X 82 "TorqueRows" "lastMode" "I") mw_33) (fun _ h9 => h9) rfl d_X_drives_1 ?_
  refine lv_iconst (v := 3) hx hb d_X_drives_4 (by decide) ?_
  refine lv_icmp_eq (tgt := 20) hx hb d_X_drives_5 (by decide) (fun c_1 => ?_) (fun c_1 => ?_)
  · refine lv_iconst (v := 0) hx hb d_X_drives_20 (by decide) ?_
    have h9 : va_P (dC, dI) classes [(h0, .inr (4, [.ref h1, .ref h3, .ref h5, .ref h6, .ref h7, .int bn, .int cy, .int li, .int st, .int df, .int tm, .int tq, .int tp, .int pd, .int wa, .int ai, .int fu, .int mo, .int sp])), (h1, .inr (0, [.ref h2])), (h2, .inl (kT, 320, .inl tb)), (h3, .inr (1, [.ref h4, .int wt])), (h4, .inl (kW, 6, .inl le)), (h5, .inr (2, [.int am, .int sd])), (h6, .inr (3, [.long s0, .long s1, .long s2, .long s3])), (h7, .inl (kB, 3, .inl lo))] H ∧ va_D A [(h0, .inr (4, [.ref h1, .ref h3, .ref h5, .ref h6, .ref h7, .int bn, .int cy, .int li, .int st, .int df, .int tm, .int tq, .int tp, .int pd, .int wa, .int ai, .int fu, .int mo, .int sp])), (h1, .inr (0, [.ref h2])), (h2, .inl (kT, 320, .inl tb)), (h3, .inr (1, [.ref h4, .int wt])), (h4, .inl (kW, 6, .inl le)), (h5, .inr (2, [.int am, .int sd])), (h6, .inr (3, [.long s0, .long s1, .long s2, .long s3])), (h7, .inl (kB, 3, .inl lo))] := ⟨hP, hD⟩
    exact W.zret (v := 0) hx hb hr rfl (fun t ht hW => ⟨⟨0, (), rfl, ((if_pos c_1)).symm, by rw [ht]; exact h9.1, va_K.moved hW.alike hK, h9.2⟩, hS.F ht⟩) hS.2.2 d_X_drives_21
  · refine lv_aload_n hx hb d_X_drives_8 rfl (lv_at hl 0 rfl) ?_
    refine va_get (D := (dC, dI)) (ci := 4) (v := .int mo) (C := R_X) (T := F_X) (N := 19) hx hb hts in_X hown hK hP 0 rfl rfl 17 (by decide) (hts (.fieldLink R_X 82 "TorqueRows" "lastMode" "I") mw_33) (fun _ h9 => h9) rfl d_X_drives_9 ?_
    refine lv_iconst (v := 4) hx hb d_X_drives_12 (by decide) ?_
    refine lv_icmp_eq (tgt := 20) hx hb d_X_drives_13 (by decide) (fun c_2 => ?_) (fun c_2 => ?_)
    · refine lv_iconst (v := 0) hx hb d_X_drives_20 (by decide) ?_
      have h9 : va_P (dC, dI) classes [(h0, .inr (4, [.ref h1, .ref h3, .ref h5, .ref h6, .ref h7, .int bn, .int cy, .int li, .int st, .int df, .int tm, .int tq, .int tp, .int pd, .int wa, .int ai, .int fu, .int mo, .int sp])), (h1, .inr (0, [.ref h2])), (h2, .inl (kT, 320, .inl tb)), (h3, .inr (1, [.ref h4, .int wt])), (h4, .inl (kW, 6, .inl le)), (h5, .inr (2, [.int am, .int sd])), (h6, .inr (3, [.long s0, .long s1, .long s2, .long s3])), (h7, .inl (kB, 3, .inl lo))] H ∧ va_D A [(h0, .inr (4, [.ref h1, .ref h3, .ref h5, .ref h6, .ref h7, .int bn, .int cy, .int li, .int st, .int df, .int tm, .int tq, .int tp, .int pd, .int wa, .int ai, .int fu, .int mo, .int sp])), (h1, .inr (0, [.ref h2])), (h2, .inl (kT, 320, .inl tb)), (h3, .inr (1, [.ref h4, .int wt])), (h4, .inl (kW, 6, .inl le)), (h5, .inr (2, [.int am, .int sd])), (h6, .inr (3, [.long s0, .long s1, .long s2, .long s3])), (h7, .inl (kB, 3, .inl lo))] := ⟨hP, hD⟩
      exact W.zret (v := 0) hx hb hr rfl (fun t ht hW => ⟨⟨0, (), rfl, (((if_neg c_1).trans (if_pos c_2))).symm, by rw [ht]; exact h9.1, va_K.moved hW.alike hK, h9.2⟩, hS.F ht⟩) hS.2.2 d_X_drives_21
    · refine lv_iconst (v := 1) hx hb d_X_drives_16 (by decide) ?_
      refine lv_goto (tgt := 21) hx hb d_X_drives_17 (by decide) ?_
      have h9 : va_P (dC, dI) classes [(h0, .inr (4, [.ref h1, .ref h3, .ref h5, .ref h6, .ref h7, .int bn, .int cy, .int li, .int st, .int df, .int tm, .int tq, .int tp, .int pd, .int wa, .int ai, .int fu, .int mo, .int sp])), (h1, .inr (0, [.ref h2])), (h2, .inl (kT, 320, .inl tb)), (h3, .inr (1, [.ref h4, .int wt])), (h4, .inl (kW, 6, .inl le)), (h5, .inr (2, [.int am, .int sd])), (h6, .inr (3, [.long s0, .long s1, .long s2, .long s3])), (h7, .inl (kB, 3, .inl lo))] H ∧ va_D A [(h0, .inr (4, [.ref h1, .ref h3, .ref h5, .ref h6, .ref h7, .int bn, .int cy, .int li, .int st, .int df, .int tm, .int tq, .int tp, .int pd, .int wa, .int ai, .int fu, .int mo, .int sp])), (h1, .inr (0, [.ref h2])), (h2, .inl (kT, 320, .inl tb)), (h3, .inr (1, [.ref h4, .int wt])), (h4, .inl (kW, 6, .inl le)), (h5, .inr (2, [.int am, .int sd])), (h6, .inr (3, [.long s0, .long s1, .long s2, .long s3])), (h7, .inl (kB, 3, .inl lo))] := ⟨hP, hD⟩
      exact W.zret (v := 1) hx hb hr rfl (fun t ht hW => ⟨⟨1, (), rfl, (((if_neg c_1).trans (if_neg c_2))).symm, by rw [ht]; exact h9.1, va_K.moved hW.alike hK, h9.2⟩, hS.F ht⟩) hS.2.2 d_X_drives_21
set_option maxHeartbeats 4000000 in
set_option maxRecDepth 100000 in
theorem c_X_isTooMuch (l : Launch) (dC : Nat → ClassId) (dI : Nat → Nat → Nat) (h0 h1 h2 h3 h4 h5 h6 h7 : Nat) (kT kW kB : ClassId) (sz : Nat) (bn : Int32) (cy : Int32) (li : Int32) (st : Int32) (df : Int32) (tm : Int32) (tq : Int32) (tp : Int32) (pd : Int32) (wa : Int32) (ai : Int32) (fu : Int32) (mo : Int32) (sp : Int32) (tb : Nat → Int32) (wt : Int32) (le : Nat → Int32) (am : Int32) (sd : Int32) (s0 : Int64) (s1 : Int64) (s2 : Int64) (s3 : Int64) (lo : Nat → Int32) (p0 : Int64) : Met l y_X_isTooMuch w_X_isTooMuch { frames := 0, cells := 0, slots := 0, locals := 0 } (va_Pc [.ref h0, .long p0] (pr_ (dC, dI) [(h0, .inr (4, [.ref h1, .ref h3, .ref h5, .ref h6, .ref h7, .int bn, .int cy, .int li, .int st, .int df, .int tm, .int tq, .int tp, .int pd, .int wa, .int ai, .int fu, .int mo, .int sp])), (h1, .inr (0, [.ref h2])), (h2, .inl (kT, 320, .inl tb)), (h3, .inr (1, [.ref h4, .int wt])), (h4, .inl (kW, 6, .inl le)), (h5, .inr (2, [.int am, .int sd])), (h6, .inr (3, [.long s0, .long s1, .long s2, .long s3])), (h7, .inl (kB, 3, .inl lo))] [(kT, .int), (kW, .int), (kB, .boolean)] sz)) (va_Qi (fun r (_ : Unit) => r = (fX_isTooMuch p0 wa tp)) (fun _ t => at_ (dC, dI) (va_A [(h0, .inr (4, [.ref h1, .ref h3, .ref h5, .ref h6, .ref h7, .int bn, .int cy, .int li, .int st, .int df, .int tm, .int tq, .int tp, .int pd, .int wa, .int ai, .int fu, .int mo, .int sp])), (h1, .inr (0, [.ref h2])), (h2, .inl (kT, 320, .inl tb)), (h3, .inr (1, [.ref h4, .int wt])), (h4, .inl (kW, 6, .inl le)), (h5, .inr (2, [.int am, .int sd])), (h6, .inr (3, [.long s0, .long s1, .long s2, .long s3])), (h7, .inl (kB, 3, .inl lo))] sz) [(h0, .inr (4, [.ref h1, .ref h3, .ref h5, .ref h6, .ref h7, .int bn, .int cy, .int li, .int st, .int df, .int tm, .int tq, .int tp, .int pd, .int wa, .int ai, .int fu, .int mo, .int sp])), (h1, .inr (0, [.ref h2])), (h2, .inl (kT, 320, .inl tb)), (h3, .inr (1, [.ref h4, .int wt])), (h4, .inl (kW, 6, .inl le)), (h5, .inr (2, [.int am, .int sd])), (h6, .inr (3, [.long s0, .long s1, .long s2, .long s3])), (h7, .inl (kB, 3, .inl lo))] [(kT, .int), (kW, .int), (kB, .boolean)] t) (va_A [(h0, .inr (4, [.ref h1, .ref h3, .ref h5, .ref h6, .ref h7, .int bn, .int cy, .int li, .int st, .int df, .int tm, .int tq, .int tp, .int pd, .int wa, .int ai, .int fu, .int mo, .int sp])), (h1, .inr (0, [.ref h2])), (h2, .inl (kT, 320, .inl tb)), (h3, .inr (1, [.ref h4, .int wt])), (h4, .inl (kW, 6, .inl le)), (h5, .inr (2, [.int am, .int sd])), (h6, .inr (3, [.long s0, .long s1, .long s2, .long s3])), (h7, .inl (kB, 3, .inl lo))] sz)) 0 0 (va_A [(h0, .inr (4, [.ref h1, .ref h3, .ref h5, .ref h6, .ref h7, .int bn, .int cy, .int li, .int st, .int df, .int tm, .int tq, .int tp, .int pd, .int wa, .int ai, .int fu, .int mo, .int sp])), (h1, .inr (0, [.ref h2])), (h2, .inl (kT, 320, .inl tb)), (h3, .inr (1, [.ref h4, .int wt])), (h4, .inl (kW, 6, .inl le)), (h5, .inr (2, [.int am, .int sd])), (h6, .inr (3, [.long s0, .long s1, .long s2, .long s3])), (h7, .inl (kB, 3, .inl lo))] sz) := by
  refine Met.ofW (cc := b_X_isTooMuch) (maxL := 3) (ret := (some .boolean)) (by decide) rfl ?_
  intro p e s m args below meth c s₁ B hml hv
  obtain ⟨rfl, hsz, hP, hK, hD0, hN⟩ := hv
  have hx := B.exec
  have hb := B.bytes
  have hr := B.returns
  have hts0 := atoms_spec (ws := w_X_isTooMuch) B.pre
  have hts : ∀ w ∈ wA_, w.before _ s = true := fun w h => hts0 w (List.mem_cons_of_mem _ h)
  have hown : s.vm.findClass R_X = some m.cls := findClass_of_methodNamed B.named
  have hlocks := B.notSynchronized
  subst hsz
  have hD := hD0.self (sz := s.heap.size)
  generalize hAe : va_A [(h0, .inr (4, [.ref h1, .ref h3, .ref h5, .ref h6, .ref h7, .int bn, .int cy, .int li, .int st, .int df, .int tm, .int tq, .int tp, .int pd, .int wa, .int ai, .int fu, .int mo, .int sp])), (h1, .inr (0, [.ref h2])), (h2, .inl (kT, 320, .inl tb)), (h3, .inr (1, [.ref h4, .int wt])), (h4, .inl (kW, 6, .inl le)), (h5, .inr (2, [.int am, .int sd])), (h6, .inr (3, [.long s0, .long s1, .long s2, .long s3])), (h7, .inl (kB, 3, .inl lo))] s.heap.size = A at hD ⊢
  have hA : ∀ q : Nat, s.heap.size ≤ q → A q := fun q h => by rw [← hAe]; exact Or.inr h
  have hS : va_S A s.heap s.heap [] := va_S.rf
  have hP : va_P (dC, dI) classes [(h0, .inr (4, [.ref h1, .ref h3, .ref h5, .ref h6, .ref h7, .int bn, .int cy, .int li, .int st, .int df, .int tm, .int tq, .int tp, .int pd, .int wa, .int ai, .int fu, .int mo, .int sp])), (h1, .inr (0, [.ref h2])), (h2, .inl (kT, 320, .inl tb)), (h3, .inr (1, [.ref h4, .int wt])), (h4, .inl (kW, 6, .inl le)), (h5, .inr (2, [.int am, .int sd])), (h6, .inr (3, [.long s0, .long s1, .long s2, .long s3])), (h7, .inl (kB, 3, .inl lo))] s.heap := hP
  have hl := lv_entry ([.ref h0, .long p0]) (n := 3) (Nat.le_of_ble_eq_true rfl)
  rw [lg_entry_eq]
  generalize (lg_sl ([.ref h0, .long p0]) ++ List.replicate (3 - (lg_sl ([.ref h0, .long p0])).length) Slot.unset).toArray = ls at hl ⊢
  have hl : lv_has ls 3 [(0, .ref h0), (1, .long p0)] := hl
  have hS : va_S A s.heap s.heap [] := hS
  refine st_ hP hS (fun H locs hP hS => ?_)
  refine lv_lload_n hx hb d_X_isTooMuch_0 rfl (lv_at hl 1 rfl) ?_
  refine lv_aload_n hx hb d_X_isTooMuch_1 rfl (lv_at hl 0 rfl) ?_
  refine va_get (D := (dC, dI)) (ci := 4) (v := .int wa) (C := R_X) (T := F_X) (N := 19) hx hb hts in_X hown hK hP 0 rfl rfl 14 (by decide) (hts (.fieldLink R_X 97 "TorqueRows" "lastWanted" "I") mw_34) (fun _ h9 => h9) rfl d_X_isTooMuch_2 ?_
  refine lv_bipush (v := 30) hx hb d_X_isTooMuch_5 (by decide) ?_
  refine lv_iadd hx hb d_X_isTooMuch_7 ?_
  refine lv_i2l (v := ((wa + 30).toInt64)) hx hb d_X_isTooMuch_8 rfl ?_
  refine W.lcmp hx hb d_X_isTooMuch_9 ?_
  refine lv_if_le (tgt := 27) hx hb d_X_isTooMuch_10 (by decide) (fun c_1 => ?_) (fun c_1 => ?_)
  · refine lv_iconst (v := 0) hx hb d_X_isTooMuch_27 (by decide) ?_
    have h9 : va_P (dC, dI) classes [(h0, .inr (4, [.ref h1, .ref h3, .ref h5, .ref h6, .ref h7, .int bn, .int cy, .int li, .int st, .int df, .int tm, .int tq, .int tp, .int pd, .int wa, .int ai, .int fu, .int mo, .int sp])), (h1, .inr (0, [.ref h2])), (h2, .inl (kT, 320, .inl tb)), (h3, .inr (1, [.ref h4, .int wt])), (h4, .inl (kW, 6, .inl le)), (h5, .inr (2, [.int am, .int sd])), (h6, .inr (3, [.long s0, .long s1, .long s2, .long s3])), (h7, .inl (kB, 3, .inl lo))] H ∧ va_D A [(h0, .inr (4, [.ref h1, .ref h3, .ref h5, .ref h6, .ref h7, .int bn, .int cy, .int li, .int st, .int df, .int tm, .int tq, .int tp, .int pd, .int wa, .int ai, .int fu, .int mo, .int sp])), (h1, .inr (0, [.ref h2])), (h2, .inl (kT, 320, .inl tb)), (h3, .inr (1, [.ref h4, .int wt])), (h4, .inl (kW, 6, .inl le)), (h5, .inr (2, [.int am, .int sd])), (h6, .inr (3, [.long s0, .long s1, .long s2, .long s3])), (h7, .inl (kB, 3, .inl lo))] := ⟨hP, hD⟩
    exact W.zret (v := 0) hx hb hr rfl (fun t ht hW => ⟨⟨0, (), rfl, ((if_pos c_1)).symm, by rw [ht]; exact h9.1, va_K.moved hW.alike hK, h9.2⟩, hS.F ht⟩) hS.2.2 d_X_isTooMuch_28
  · refine lv_lload_n hx hb d_X_isTooMuch_13 rfl (lv_at hl 1 rfl) ?_
    refine lv_aload_n hx hb d_X_isTooMuch_14 rfl (lv_at hl 0 rfl) ?_
    refine va_get (D := (dC, dI)) (ci := 4) (v := .int tp) (C := R_X) (T := F_X) (N := 19) hx hb hts in_X hown hK hP 0 rfl rfl 12 (by decide) (hts (.fieldLink R_X 67 "TorqueRows" "torqueBefore" "I") mw_35) (fun _ h9 => h9) rfl d_X_isTooMuch_15 ?_
    refine lv_i2l (v := (tp.toInt64)) hx hb d_X_isTooMuch_18 rfl ?_
    refine W.lcmp hx hb d_X_isTooMuch_19 ?_
    refine lv_if_le (tgt := 27) hx hb d_X_isTooMuch_20 (by decide) (fun c_2 => ?_) (fun c_2 => ?_)
    · refine lv_iconst (v := 0) hx hb d_X_isTooMuch_27 (by decide) ?_
      have h9 : va_P (dC, dI) classes [(h0, .inr (4, [.ref h1, .ref h3, .ref h5, .ref h6, .ref h7, .int bn, .int cy, .int li, .int st, .int df, .int tm, .int tq, .int tp, .int pd, .int wa, .int ai, .int fu, .int mo, .int sp])), (h1, .inr (0, [.ref h2])), (h2, .inl (kT, 320, .inl tb)), (h3, .inr (1, [.ref h4, .int wt])), (h4, .inl (kW, 6, .inl le)), (h5, .inr (2, [.int am, .int sd])), (h6, .inr (3, [.long s0, .long s1, .long s2, .long s3])), (h7, .inl (kB, 3, .inl lo))] H ∧ va_D A [(h0, .inr (4, [.ref h1, .ref h3, .ref h5, .ref h6, .ref h7, .int bn, .int cy, .int li, .int st, .int df, .int tm, .int tq, .int tp, .int pd, .int wa, .int ai, .int fu, .int mo, .int sp])), (h1, .inr (0, [.ref h2])), (h2, .inl (kT, 320, .inl tb)), (h3, .inr (1, [.ref h4, .int wt])), (h4, .inl (kW, 6, .inl le)), (h5, .inr (2, [.int am, .int sd])), (h6, .inr (3, [.long s0, .long s1, .long s2, .long s3])), (h7, .inl (kB, 3, .inl lo))] := ⟨hP, hD⟩
      exact W.zret (v := 0) hx hb hr rfl (fun t ht hW => ⟨⟨0, (), rfl, (((if_neg c_1).trans (if_pos c_2))).symm, by rw [ht]; exact h9.1, va_K.moved hW.alike hK, h9.2⟩, hS.F ht⟩) hS.2.2 d_X_isTooMuch_28
    · refine lv_iconst (v := 1) hx hb d_X_isTooMuch_23 (by decide) ?_
      refine lv_goto (tgt := 28) hx hb d_X_isTooMuch_24 (by decide) ?_
      have h9 : va_P (dC, dI) classes [(h0, .inr (4, [.ref h1, .ref h3, .ref h5, .ref h6, .ref h7, .int bn, .int cy, .int li, .int st, .int df, .int tm, .int tq, .int tp, .int pd, .int wa, .int ai, .int fu, .int mo, .int sp])), (h1, .inr (0, [.ref h2])), (h2, .inl (kT, 320, .inl tb)), (h3, .inr (1, [.ref h4, .int wt])), (h4, .inl (kW, 6, .inl le)), (h5, .inr (2, [.int am, .int sd])), (h6, .inr (3, [.long s0, .long s1, .long s2, .long s3])), (h7, .inl (kB, 3, .inl lo))] H ∧ va_D A [(h0, .inr (4, [.ref h1, .ref h3, .ref h5, .ref h6, .ref h7, .int bn, .int cy, .int li, .int st, .int df, .int tm, .int tq, .int tp, .int pd, .int wa, .int ai, .int fu, .int mo, .int sp])), (h1, .inr (0, [.ref h2])), (h2, .inl (kT, 320, .inl tb)), (h3, .inr (1, [.ref h4, .int wt])), (h4, .inl (kW, 6, .inl le)), (h5, .inr (2, [.int am, .int sd])), (h6, .inr (3, [.long s0, .long s1, .long s2, .long s3])), (h7, .inl (kB, 3, .inl lo))] := ⟨hP, hD⟩
      exact W.zret (v := 1) hx hb hr rfl (fun t ht hW => ⟨⟨1, (), rfl, (((if_neg c_1).trans (if_neg c_2))).symm, by rw [ht]; exact h9.1, va_K.moved hW.alike hK, h9.2⟩, hS.F ht⟩) hS.2.2 d_X_isTooMuch_28
set_option maxHeartbeats 4000000 in
set_option maxRecDepth 100000 in
theorem c_X_takeSpeed (l : Launch) (dC : Nat → ClassId) (dI : Nat → Nat → Nat) (h0 h1 h2 h3 h4 h5 h6 h7 : Nat) (kT kW kB : ClassId) (sz : Nat) (bn : Int32) (cy : Int32) (li : Int32) (st : Int32) (df : Int32) (tm : Int32) (tq : Int32) (tp : Int32) (pd : Int32) (wa : Int32) (ai : Int32) (fu : Int32) (mo : Int32) (sp : Int32) (tb : Nat → Int32) (wt : Int32) (le : Nat → Int32) (am : Int32) (sd : Int32) (s0 : Int64) (s1 : Int64) (s2 : Int64) (s3 : Int64) (lo : Nat → Int32) (pz : Int32) : Met l y_X_takeSpeed w_X_takeSpeed { frames := 0, cells := 0, slots := 0, locals := 0 } (va_Pc [.ref h0, .int pz] (pr_ (dC, dI) [(h0, .inr (4, [.ref h1, .ref h3, .ref h5, .ref h6, .ref h7, .int bn, .int cy, .int li, .int st, .int df, .int tm, .int tq, .int tp, .int pd, .int wa, .int ai, .int fu, .int mo, .int sp])), (h1, .inr (0, [.ref h2])), (h2, .inl (kT, 320, .inl tb)), (h3, .inr (1, [.ref h4, .int wt])), (h4, .inl (kW, 6, .inl le)), (h5, .inr (2, [.int am, .int sd])), (h6, .inr (3, [.long s0, .long s1, .long s2, .long s3])), (h7, .inl (kB, 3, .inl lo))] [(kT, .int), (kW, .int), (kB, .boolean)] sz)) (va_Qv (fun (_ : Unit) => True) (fun _ t => at_ (dC, dI) (va_A [(h0, .inr (4, [.ref h1, .ref h3, .ref h5, .ref h6, .ref h7, .int bn, .int cy, .int li, .int st, .int df, .int tm, .int tq, .int tp, .int pd, .int wa, .int ai, .int fu, .int mo, .int sp])), (h1, .inr (0, [.ref h2])), (h2, .inl (kT, 320, .inl tb)), (h3, .inr (1, [.ref h4, .int wt])), (h4, .inl (kW, 6, .inl le)), (h5, .inr (2, [.int am, .int sd])), (h6, .inr (3, [.long s0, .long s1, .long s2, .long s3])), (h7, .inl (kB, 3, .inl lo))] sz) [(h0, .inr (4, [.ref h1, .ref h3, .ref h5, .ref h6, .ref h7, .int bn, .int cy, .int li, .int st, .int df, .int tm, .int tq, .int tp, .int pd, .int wa, .int ai, .int fu, .int mo, .int (gX_takeSpeed_0_18 lo pz sp)])), (h1, .inr (0, [.ref h2])), (h2, .inl (kT, 320, .inl tb)), (h3, .inr (1, [.ref h4, .int wt])), (h4, .inl (kW, 6, .inl le)), (h5, .inr (2, [.int am, .int sd])), (h6, .inr (3, [.long s0, .long s1, .long s2, .long s3])), (h7, .inl (kB, 3, .inl lo))] [(kT, .int), (kW, .int), (kB, .boolean)] t) (va_A [(h0, .inr (4, [.ref h1, .ref h3, .ref h5, .ref h6, .ref h7, .int bn, .int cy, .int li, .int st, .int df, .int tm, .int tq, .int tp, .int pd, .int wa, .int ai, .int fu, .int mo, .int sp])), (h1, .inr (0, [.ref h2])), (h2, .inl (kT, 320, .inl tb)), (h3, .inr (1, [.ref h4, .int wt])), (h4, .inl (kW, 6, .inl le)), (h5, .inr (2, [.int am, .int sd])), (h6, .inr (3, [.long s0, .long s1, .long s2, .long s3])), (h7, .inl (kB, 3, .inl lo))] sz)) 0 0 (va_A [(h0, .inr (4, [.ref h1, .ref h3, .ref h5, .ref h6, .ref h7, .int bn, .int cy, .int li, .int st, .int df, .int tm, .int tq, .int tp, .int pd, .int wa, .int ai, .int fu, .int mo, .int sp])), (h1, .inr (0, [.ref h2])), (h2, .inl (kT, 320, .inl tb)), (h3, .inr (1, [.ref h4, .int wt])), (h4, .inl (kW, 6, .inl le)), (h5, .inr (2, [.int am, .int sd])), (h6, .inr (3, [.long s0, .long s1, .long s2, .long s3])), (h7, .inl (kB, 3, .inl lo))] sz) := by
  refine Met.ofW (cc := b_X_takeSpeed) (maxL := 2) (ret := none) (by decide) rfl ?_
  intro p e s m args below meth c s₁ B hml hv
  obtain ⟨rfl, hsz, hP, hK, hD0, hN⟩ := hv
  have hx := B.exec
  have hb := B.bytes
  have hr := B.returns
  have hts0 := atoms_spec (ws := w_X_takeSpeed) B.pre
  have hts : ∀ w ∈ wA_, w.before _ s = true := fun w h => hts0 w (List.mem_cons_of_mem _ h)
  have hown : s.vm.findClass R_X = some m.cls := findClass_of_methodNamed B.named
  have hlocks := B.notSynchronized
  subst hsz
  have hD := hD0.self (sz := s.heap.size)
  generalize hAe : va_A [(h0, .inr (4, [.ref h1, .ref h3, .ref h5, .ref h6, .ref h7, .int bn, .int cy, .int li, .int st, .int df, .int tm, .int tq, .int tp, .int pd, .int wa, .int ai, .int fu, .int mo, .int sp])), (h1, .inr (0, [.ref h2])), (h2, .inl (kT, 320, .inl tb)), (h3, .inr (1, [.ref h4, .int wt])), (h4, .inl (kW, 6, .inl le)), (h5, .inr (2, [.int am, .int sd])), (h6, .inr (3, [.long s0, .long s1, .long s2, .long s3])), (h7, .inl (kB, 3, .inl lo))] s.heap.size = A at hD ⊢
  have hA : ∀ q : Nat, s.heap.size ≤ q → A q := fun q h => by rw [← hAe]; exact Or.inr h
  have hS : va_S A s.heap s.heap [] := va_S.rf
  have hP : va_P (dC, dI) classes [(h0, .inr (4, [.ref h1, .ref h3, .ref h5, .ref h6, .ref h7, .int bn, .int cy, .int li, .int st, .int df, .int tm, .int tq, .int tp, .int pd, .int wa, .int ai, .int fu, .int mo, .int sp])), (h1, .inr (0, [.ref h2])), (h2, .inl (kT, 320, .inl tb)), (h3, .inr (1, [.ref h4, .int wt])), (h4, .inl (kW, 6, .inl le)), (h5, .inr (2, [.int am, .int sd])), (h6, .inr (3, [.long s0, .long s1, .long s2, .long s3])), (h7, .inl (kB, 3, .inl lo))] s.heap := hP
  have hl := lv_entry ([.ref h0, .int pz]) (n := 2) (Nat.le_of_ble_eq_true rfl)
  rw [lg_entry_eq]
  generalize (lg_sl ([.ref h0, .int pz]) ++ List.replicate (2 - (lg_sl ([.ref h0, .int pz])).length) Slot.unset).toArray = ls at hl ⊢
  have hl : lv_has ls 2 [(0, .ref h0), (1, .int pz)] := hl
  have hS : va_S A s.heap s.heap [] := hS
  refine st_ hP hS (fun H locs hP hS => ?_)
  refine lv_aload_n hx hb d_X_takeSpeed_0 rfl (lv_at hl 0 rfl) ?_
  refine va_get (D := (dC, dI)) (ci := 4) (v := .ref h7) (C := R_X) (T := F_X) (N := 19) hx hb hts in_X hown hK hP 0 rfl rfl 4 (by decide) (hts (.fieldLink R_X 37 "TorqueRows" "lost" "[Z") mw_36) (fun _ h9 => h9) rfl d_X_takeSpeed_1 ?_
  refine lv_iconst (v := 2) hx hb d_X_takeSpeed_4 (by decide) ?_
  refine va_zald hx hb hK hP 7 2 rfl rfl (by unfold vp_in; decide) d_X_takeSpeed_5 ?_
  refine lv_if_ne (tgt := 14) hx hb d_X_takeSpeed_6 (by decide) (fun c_1 => ?_) (fun c_1 => ?_)
  · have h9 : va_P (dC, dI) classes [(h0, .inr (4, [.ref h1, .ref h3, .ref h5, .ref h6, .ref h7, .int bn, .int cy, .int li, .int st, .int df, .int tm, .int tq, .int tp, .int pd, .int wa, .int ai, .int fu, .int mo, .int (gX_takeSpeed_0_18 lo pz sp)])), (h1, .inr (0, [.ref h2])), (h2, .inl (kT, 320, .inl tb)), (h3, .inr (1, [.ref h4, .int wt])), (h4, .inl (kW, 6, .inl le)), (h5, .inr (2, [.int am, .int sd])), (h6, .inr (3, [.long s0, .long s1, .long s2, .long s3])), (h7, .inl (kB, 3, .inl lo))] H ∧ va_D A [(h0, .inr (4, [.ref h1, .ref h3, .ref h5, .ref h6, .ref h7, .int bn, .int cy, .int li, .int st, .int df, .int tm, .int tq, .int tp, .int pd, .int wa, .int ai, .int fu, .int mo, .int (gX_takeSpeed_0_18 lo pz sp)])), (h1, .inr (0, [.ref h2])), (h2, .inl (kT, 320, .inl tb)), (h3, .inr (1, [.ref h4, .int wt])), (h4, .inl (kW, 6, .inl le)), (h5, .inr (2, [.int am, .int sd])), (h6, .inr (3, [.long s0, .long s1, .long s2, .long s3])), (h7, .inl (kB, 3, .inl lo))] := by rw [show (gX_takeSpeed_0_18 lo pz sp) = sp from (if_neg c_1)]; exact ⟨hP, hD⟩
    exact W.vret hx hb hr (fun t ht hW => ⟨⟨(), rfl, trivial, by rw [ht]; exact h9.1, va_K.moved hW.alike hK, h9.2⟩, hS.F ht⟩) hS.2.2 d_X_takeSpeed_14
  · refine lv_aload_n hx hb d_X_takeSpeed_9 rfl (lv_at hl 0 rfl) ?_
    refine lv_iload_n hx hb d_X_takeSpeed_10 rfl (lv_at hl 1 rfl) ?_
    refine va_put (D := (dC, dI)) (ci := 4) (v := .int pz) (ty := .int) (C := R_X) (T := F_X) (N := 19) hx hb hts in_X t_X t_X_ok n_X hown hK hP hD hS 0 rfl rfl 18 (by decide) (hts (.fieldLink R_X 107 "TorqueRows" "lastSpeed" "I") mw_37) (fun _ h9 => h9) rfl (by decide +kernel) rfl rfl (Nat.le_of_ble_eq_true rfl) d_X_takeSpeed_11 (fun H locs hP hD hS => ?_)
    have hP : va_P (dC, dI) classes [(h0, .inr (4, [.ref h1, .ref h3, .ref h5, .ref h6, .ref h7, .int bn, .int cy, .int li, .int st, .int df, .int tm, .int tq, .int tp, .int pd, .int wa, .int ai, .int fu, .int mo, .int pz])), (h1, .inr (0, [.ref h2])), (h2, .inl (kT, 320, .inl tb)), (h3, .inr (1, [.ref h4, .int wt])), (h4, .inl (kW, 6, .inl le)), (h5, .inr (2, [.int am, .int sd])), (h6, .inr (3, [.long s0, .long s1, .long s2, .long s3])), (h7, .inl (kB, 3, .inl lo))] H := hP
    have hD : va_D A [(h0, .inr (4, [.ref h1, .ref h3, .ref h5, .ref h6, .ref h7, .int bn, .int cy, .int li, .int st, .int df, .int tm, .int tq, .int tp, .int pd, .int wa, .int ai, .int fu, .int mo, .int pz])), (h1, .inr (0, [.ref h2])), (h2, .inl (kT, 320, .inl tb)), (h3, .inr (1, [.ref h4, .int wt])), (h4, .inl (kW, 6, .inl le)), (h5, .inr (2, [.int am, .int sd])), (h6, .inr (3, [.long s0, .long s1, .long s2, .long s3])), (h7, .inl (kB, 3, .inl lo))] := hD
    have h9 : va_P (dC, dI) classes [(h0, .inr (4, [.ref h1, .ref h3, .ref h5, .ref h6, .ref h7, .int bn, .int cy, .int li, .int st, .int df, .int tm, .int tq, .int tp, .int pd, .int wa, .int ai, .int fu, .int mo, .int (gX_takeSpeed_0_18 lo pz sp)])), (h1, .inr (0, [.ref h2])), (h2, .inl (kT, 320, .inl tb)), (h3, .inr (1, [.ref h4, .int wt])), (h4, .inl (kW, 6, .inl le)), (h5, .inr (2, [.int am, .int sd])), (h6, .inr (3, [.long s0, .long s1, .long s2, .long s3])), (h7, .inl (kB, 3, .inl lo))] H ∧ va_D A [(h0, .inr (4, [.ref h1, .ref h3, .ref h5, .ref h6, .ref h7, .int bn, .int cy, .int li, .int st, .int df, .int tm, .int tq, .int tp, .int pd, .int wa, .int ai, .int fu, .int mo, .int (gX_takeSpeed_0_18 lo pz sp)])), (h1, .inr (0, [.ref h2])), (h2, .inl (kT, 320, .inl tb)), (h3, .inr (1, [.ref h4, .int wt])), (h4, .inl (kW, 6, .inl le)), (h5, .inr (2, [.int am, .int sd])), (h6, .inr (3, [.long s0, .long s1, .long s2, .long s3])), (h7, .inl (kB, 3, .inl lo))] := by rw [show (gX_takeSpeed_0_18 lo pz sp) = pz from (if_pos c_1)]; exact ⟨hP, hD⟩
    exact W.vret hx hb hr (fun t ht hW => ⟨⟨(), rfl, trivial, by rw [ht]; exact h9.1, va_K.moved hW.alike hK, h9.2⟩, hS.F ht⟩) hS.2.2 d_X_takeSpeed_14
set_option maxHeartbeats 4000000 in
set_option maxRecDepth 100000 in
theorem c_X_takeTracks (l : Launch) (dC : Nat → ClassId) (dI : Nat → Nat → Nat) (h0 h1 h2 h3 h4 h5 h6 h7 : Nat) (kT kW kB : ClassId) (sz : Nat) (bn : Int32) (cy : Int32) (li : Int32) (st : Int32) (df : Int32) (tm : Int32) (tq : Int32) (tp : Int32) (pd : Int32) (wa : Int32) (ai : Int32) (fu : Int32) (mo : Int32) (sp : Int32) (tb : Nat → Int32) (wt : Int32) (le : Nat → Int32) (am : Int32) (sd : Int32) (s0 : Int64) (s1 : Int64) (s2 : Int64) (s3 : Int64) (lo : Nat → Int32) (pp : Int32) (po : Int32) : Met l y_X_takeTracks w_X_takeTracks { frames := 1, cells := 0, slots := 0, locals := 21 } (va_Pc [.ref h0, .int pp, .int po] (pr_ (dC, dI) [(h0, .inr (4, [.ref h1, .ref h3, .ref h5, .ref h6, .ref h7, .int bn, .int cy, .int li, .int st, .int df, .int tm, .int tq, .int tp, .int pd, .int wa, .int ai, .int fu, .int mo, .int sp])), (h1, .inr (0, [.ref h2])), (h2, .inl (kT, 320, .inl tb)), (h3, .inr (1, [.ref h4, .int wt])), (h4, .inl (kW, 6, .inl le)), (h5, .inr (2, [.int am, .int sd])), (h6, .inr (3, [.long s0, .long s1, .long s2, .long s3])), (h7, .inl (kB, 3, .inl lo))] [(kT, .int), (kW, .int), (kB, .boolean)] sz)) (va_Qv (fun (_ : Unit) => True) (fun _ t => at_ (dC, dI) (va_A [(h0, .inr (4, [.ref h1, .ref h3, .ref h5, .ref h6, .ref h7, .int bn, .int cy, .int li, .int st, .int df, .int tm, .int tq, .int tp, .int pd, .int wa, .int ai, .int fu, .int mo, .int sp])), (h1, .inr (0, [.ref h2])), (h2, .inl (kT, 320, .inl tb)), (h3, .inr (1, [.ref h4, .int wt])), (h4, .inl (kW, 6, .inl le)), (h5, .inr (2, [.int am, .int sd])), (h6, .inr (3, [.long s0, .long s1, .long s2, .long s3])), (h7, .inl (kB, 3, .inl lo))] sz) [(h0, .inr (4, [.ref h1, .ref h3, .ref h5, .ref h6, .ref h7, .int bn, .int cy, .int li, .int (vX_takeTracks_4 lo pp po df st), .int (vX_takeTracks_3 lo pp po df), .int tm, .int tq, .int tp, .int (vX_takeTracks_5 lo pp po), .int wa, .int ai, .int fu, .int mo, .int sp])), (h1, .inr (0, [.ref h2])), (h2, .inl (kT, 320, .inl tb)), (h3, .inr (1, [.ref h4, .int wt])), (h4, .inl (kW, 6, .inl le)), (h5, .inr (2, [.int am, .int sd])), (h6, .inr (3, [.long s0, .long s1, .long s2, .long s3])), (h7, .inl (kB, 3, .inl lo))] [(kT, .int), (kW, .int), (kB, .boolean)] t) (va_A [(h0, .inr (4, [.ref h1, .ref h3, .ref h5, .ref h6, .ref h7, .int bn, .int cy, .int li, .int st, .int df, .int tm, .int tq, .int tp, .int pd, .int wa, .int ai, .int fu, .int mo, .int sp])), (h1, .inr (0, [.ref h2])), (h2, .inl (kT, 320, .inl tb)), (h3, .inr (1, [.ref h4, .int wt])), (h4, .inl (kW, 6, .inl le)), (h5, .inr (2, [.int am, .int sd])), (h6, .inr (3, [.long s0, .long s1, .long s2, .long s3])), (h7, .inl (kB, 3, .inl lo))] sz)) 0 0 (va_A [(h0, .inr (4, [.ref h1, .ref h3, .ref h5, .ref h6, .ref h7, .int bn, .int cy, .int li, .int st, .int df, .int tm, .int tq, .int tp, .int pd, .int wa, .int ai, .int fu, .int mo, .int sp])), (h1, .inr (0, [.ref h2])), (h2, .inl (kT, 320, .inl tb)), (h3, .inr (1, [.ref h4, .int wt])), (h4, .inl (kW, 6, .inl le)), (h5, .inr (2, [.int am, .int sd])), (h6, .inr (3, [.long s0, .long s1, .long s2, .long s3])), (h7, .inl (kB, 3, .inl lo))] sz) := by
  refine Met.ofW (cc := b_X_takeTracks) (maxL := 6) (ret := none) (by decide) rfl ?_
  intro p e s m args below meth c s₁ B hml hv
  obtain ⟨rfl, hsz, hP, hK, hD0, hN⟩ := hv
  have hx := B.exec
  have hb := B.bytes
  have hr := B.returns
  have hts0 := atoms_spec (ws := w_X_takeTracks) B.pre
  have hts : ∀ w ∈ wA_, w.before _ s = true := fun w h => hts0 w (List.mem_cons_of_mem _ h)
  have hown : s.vm.findClass R_X = some m.cls := findClass_of_methodNamed B.named
  have hlocks := B.notSynchronized
  subst hsz
  have hD := hD0.self (sz := s.heap.size)
  generalize hAe : va_A [(h0, .inr (4, [.ref h1, .ref h3, .ref h5, .ref h6, .ref h7, .int bn, .int cy, .int li, .int st, .int df, .int tm, .int tq, .int tp, .int pd, .int wa, .int ai, .int fu, .int mo, .int sp])), (h1, .inr (0, [.ref h2])), (h2, .inl (kT, 320, .inl tb)), (h3, .inr (1, [.ref h4, .int wt])), (h4, .inl (kW, 6, .inl le)), (h5, .inr (2, [.int am, .int sd])), (h6, .inr (3, [.long s0, .long s1, .long s2, .long s3])), (h7, .inl (kB, 3, .inl lo))] s.heap.size = A at hD ⊢
  have hA : ∀ q : Nat, s.heap.size ≤ q → A q := fun q h => by rw [← hAe]; exact Or.inr h
  have hS : va_S A s.heap s.heap [] := va_S.rf
  have hP : va_P (dC, dI) classes [(h0, .inr (4, [.ref h1, .ref h3, .ref h5, .ref h6, .ref h7, .int bn, .int cy, .int li, .int st, .int df, .int tm, .int tq, .int tp, .int pd, .int wa, .int ai, .int fu, .int mo, .int sp])), (h1, .inr (0, [.ref h2])), (h2, .inl (kT, 320, .inl tb)), (h3, .inr (1, [.ref h4, .int wt])), (h4, .inl (kW, 6, .inl le)), (h5, .inr (2, [.int am, .int sd])), (h6, .inr (3, [.long s0, .long s1, .long s2, .long s3])), (h7, .inl (kB, 3, .inl lo))] s.heap := hP
  have hl := lv_entry ([.ref h0, .int pp, .int po]) (n := 6) (Nat.le_of_ble_eq_true rfl)
  rw [lg_entry_eq]
  generalize (lg_sl ([.ref h0, .int pp, .int po]) ++ List.replicate (6 - (lg_sl ([.ref h0, .int pp, .int po])).length) Slot.unset).toArray = ls at hl ⊢
  have hl : lv_has ls 6 [(0, .ref h0), (1, .int pp), (2, .int po)] := hl
  have hS : va_S A s.heap s.heap [] := hS
  refine st_ hP hS (fun H locs hP hS => ?_)
  refine lv_aload_n hx hb d_X_takeTracks_0 rfl (lv_at hl 0 rfl) ?_
  refine va_get (D := (dC, dI)) (ci := 4) (v := .ref h7) (C := R_X) (T := F_X) (N := 19) hx hb hts in_X hown hK hP 0 rfl rfl 4 (by decide) (hts (.fieldLink R_X 37 "TorqueRows" "lost" "[Z") mw_36) (fun _ h9 => h9) rfl d_X_takeTracks_1 ?_
  refine lv_iconst (v := 0) hx hb d_X_takeTracks_4 (by decide) ?_
  refine va_zald hx hb hK hP 7 2 rfl rfl (by unfold vp_in; decide) d_X_takeTracks_5 ?_
  refine jn 6 [(0, .ref h0), (1, .int pp), (2, .int po)] [(h0, .inr (4, [.ref h1, .ref h3, .ref h5, .ref h6, .ref h7, .int bn, .int cy, .int li, .int st, .int df, .int tm, .int tq, .int tp, .int pd, .int wa, .int ai, .int fu, .int mo, .int sp])), (h1, .inr (0, [.ref h2])), (h2, .inl (kT, 320, .inl tb)), (h3, .inr (1, [.ref h4, .int wt])), (h4, .inl (kW, 6, .inl le)), (h5, .inr (2, [.int am, .int sd])), (h6, .inr (3, [.long s0, .long s1, .long s2, .long s3])), (h7, .inl (kB, 3, .inl lo))] 14 [.int (vX_takeTracks_0 lo pp po)] (D := (dC, dI)) (A := A) (H0 := s.heap) (fun ls H locs hl hP hD hS => ?_) (fun J_2 => ?_)
  · refine lv_istore_n (lv' := [(3, .int (vX_takeTracks_0 lo pp po)), (0, .ref h0), (1, .int pp), (2, .int po)]) hx hb d_X_takeTracks_14 rfl hl (by decide) rfl (fun ls hl => ?_)
    refine lv_aload_n hx hb d_X_takeTracks_15 rfl (lv_at hl 1 rfl) ?_
    refine va_get (D := (dC, dI)) (ci := 4) (v := .ref h7) (C := R_X) (T := F_X) (N := 19) hx hb hts in_X hown hK hP 0 rfl rfl 4 (by decide) (hts (.fieldLink R_X 37 "TorqueRows" "lost" "[Z") mw_36) (fun _ h9 => h9) rfl d_X_takeTracks_16 ?_
    refine lv_iconst (v := 1) hx hb d_X_takeTracks_19 (by decide) ?_
    refine va_zald hx hb hK hP 7 2 rfl rfl (by unfold vp_in; decide) d_X_takeTracks_20 ?_
    refine jn 6 [(3, .int (vX_takeTracks_0 lo pp po)), (0, .ref h0), (1, .int pp), (2, .int po)] [(h0, .inr (4, [.ref h1, .ref h3, .ref h5, .ref h6, .ref h7, .int bn, .int cy, .int li, .int st, .int df, .int tm, .int tq, .int tp, .int pd, .int wa, .int ai, .int fu, .int mo, .int sp])), (h1, .inr (0, [.ref h2])), (h2, .inl (kT, 320, .inl tb)), (h3, .inr (1, [.ref h4, .int wt])), (h4, .inl (kW, 6, .inl le)), (h5, .inr (2, [.int am, .int sd])), (h6, .inr (3, [.long s0, .long s1, .long s2, .long s3])), (h7, .inl (kB, 3, .inl lo))] 29 [.int (vX_takeTracks_1 lo po pp)] (D := (dC, dI)) (A := A) (H0 := s.heap) (fun ls H locs hl hP hD hS => ?_) (fun J_4 => ?_)
    · refine lv_istore (lv' := [(4, .int (vX_takeTracks_1 lo po pp)), (3, .int (vX_takeTracks_0 lo pp po)), (0, .ref h0), (1, .int pp), (2, .int po)]) hx hb d_X_takeTracks_29 hl (by decide) rfl (fun ls hl => ?_)
      refine lv_aload_n hx hb d_X_takeTracks_31 rfl (lv_at hl 2 rfl) ?_
      refine va_get (D := (dC, dI)) (ci := 4) (v := .ref h7) (C := R_X) (T := F_X) (N := 19) hx hb hts in_X hown hK hP 0 rfl rfl 4 (by decide) (hts (.fieldLink R_X 37 "TorqueRows" "lost" "[Z") mw_36) (fun _ h9 => h9) rfl d_X_takeTracks_32 ?_
      refine lv_iconst (v := 0) hx hb d_X_takeTracks_35 (by decide) ?_
      refine va_zald hx hb hK hP 7 2 rfl rfl (by unfold vp_in; decide) d_X_takeTracks_36 ?_
      refine jn 6 [(4, .int (vX_takeTracks_1 lo po pp)), (3, .int (vX_takeTracks_0 lo pp po)), (0, .ref h0), (1, .int pp), (2, .int po)] [(h0, .inr (4, [.ref h1, .ref h3, .ref h5, .ref h6, .ref h7, .int bn, .int cy, .int li, .int st, .int df, .int tm, .int tq, .int tp, .int pd, .int wa, .int ai, .int fu, .int mo, .int sp])), (h1, .inr (0, [.ref h2])), (h2, .inl (kT, 320, .inl tb)), (h3, .inr (1, [.ref h4, .int wt])), (h4, .inl (kW, 6, .inl le)), (h5, .inr (2, [.int am, .int sd])), (h6, .inr (3, [.long s0, .long s1, .long s2, .long s3])), (h7, .inl (kB, 3, .inl lo))] 54 [.int (vX_takeTracks_2 lo)] (D := (dC, dI)) (A := A) (H0 := s.heap) (fun ls H locs hl hP hD hS => ?_) (fun J_7 => ?_)
      · refine lv_istore (lv' := [(5, .int (vX_takeTracks_2 lo)), (4, .int (vX_takeTracks_1 lo po pp)), (3, .int (vX_takeTracks_0 lo pp po)), (0, .ref h0), (1, .int pp), (2, .int po)]) hx hb d_X_takeTracks_54 hl (by decide) rfl (fun ls hl => ?_)
        refine lv_aload_n hx hb d_X_takeTracks_56 rfl (lv_at hl 3 rfl) ?_
        refine lv_iload hx hb d_X_takeTracks_57 (lv_at hl 0 rfl) ?_
        refine jn 6 [(5, .int (vX_takeTracks_2 lo)), (4, .int (vX_takeTracks_1 lo po pp)), (3, .int (vX_takeTracks_0 lo pp po)), (0, .ref h0), (1, .int pp), (2, .int po)] [(h0, .inr (4, [.ref h1, .ref h3, .ref h5, .ref h6, .ref h7, .int bn, .int cy, .int li, .int st, .int df, .int tm, .int tq, .int tp, .int pd, .int wa, .int ai, .int fu, .int mo, .int sp])), (h1, .inr (0, [.ref h2])), (h2, .inl (kT, 320, .inl tb)), (h3, .inr (1, [.ref h4, .int wt])), (h4, .inl (kW, 6, .inl le)), (h5, .inr (2, [.int am, .int sd])), (h6, .inr (3, [.long s0, .long s1, .long s2, .long s3])), (h7, .inl (kB, 3, .inl lo))] 84 [.int (vX_takeTracks_3 lo pp po df), .ref h0] (D := (dC, dI)) (A := A) (H0 := s.heap) (fun ls H locs hl hP hD hS => ?_) (fun J_10 => ?_)
        · refine va_put (D := (dC, dI)) (ci := 4) (v := .int (vX_takeTracks_3 lo pp po df)) (ty := .int) (C := R_X) (T := F_X) (N := 19) hx hb hts in_X t_X t_X_ok n_X hown hK hP hD hS 0 rfl rfl 9 (by decide) (hts (.fieldLink R_X 130 "TorqueRows" "different" "I") mw_41) (fun _ h9 => h9) rfl (by decide +kernel) rfl rfl (Nat.le_of_ble_eq_true rfl) d_X_takeTracks_84 (fun H locs hP hD hS => ?_)
          have hP : va_P (dC, dI) classes [(h0, .inr (4, [.ref h1, .ref h3, .ref h5, .ref h6, .ref h7, .int bn, .int cy, .int li, .int st, .int (vX_takeTracks_3 lo pp po df), .int tm, .int tq, .int tp, .int pd, .int wa, .int ai, .int fu, .int mo, .int sp])), (h1, .inr (0, [.ref h2])), (h2, .inl (kT, 320, .inl tb)), (h3, .inr (1, [.ref h4, .int wt])), (h4, .inl (kW, 6, .inl le)), (h5, .inr (2, [.int am, .int sd])), (h6, .inr (3, [.long s0, .long s1, .long s2, .long s3])), (h7, .inl (kB, 3, .inl lo))] H := hP
          have hD : va_D A [(h0, .inr (4, [.ref h1, .ref h3, .ref h5, .ref h6, .ref h7, .int bn, .int cy, .int li, .int st, .int (vX_takeTracks_3 lo pp po df), .int tm, .int tq, .int tp, .int pd, .int wa, .int ai, .int fu, .int mo, .int sp])), (h1, .inr (0, [.ref h2])), (h2, .inl (kT, 320, .inl tb)), (h3, .inr (1, [.ref h4, .int wt])), (h4, .inl (kW, 6, .inl le)), (h5, .inr (2, [.int am, .int sd])), (h6, .inr (3, [.long s0, .long s1, .long s2, .long s3])), (h7, .inl (kB, 3, .inl lo))] := hD
          refine lv_aload_n hx hb d_X_takeTracks_87 rfl (lv_at hl 3 rfl) ?_
          refine va_get (D := (dC, dI)) (ci := 4) (v := .int (vX_takeTracks_3 lo pp po df)) (C := R_X) (T := F_X) (N := 19) hx hb hts in_X hown hK hP 0 rfl rfl 9 (by decide) (hts (.fieldLink R_X 130 "TorqueRows" "different" "I") mw_41) (fun _ h9 => h9) rfl d_X_takeTracks_88 ?_
          refine lv_iconst (v := 5) hx hb d_X_takeTracks_91 (by decide) ?_
          refine jn 6 [(5, .int (vX_takeTracks_2 lo)), (4, .int (vX_takeTracks_1 lo po pp)), (3, .int (vX_takeTracks_0 lo pp po)), (0, .ref h0), (1, .int pp), (2, .int po)] [(h0, .inr (4, [.ref h1, .ref h3, .ref h5, .ref h6, .ref h7, .int bn, .int cy, .int li, .int (vX_takeTracks_4 lo pp po df st), .int (vX_takeTracks_3 lo pp po df), .int tm, .int tq, .int tp, .int pd, .int wa, .int ai, .int fu, .int mo, .int sp])), (h1, .inr (0, [.ref h2])), (h2, .inl (kT, 320, .inl tb)), (h3, .inr (1, [.ref h4, .int wt])), (h4, .inl (kW, 6, .inl le)), (h5, .inr (2, [.int am, .int sd])), (h6, .inr (3, [.long s0, .long s1, .long s2, .long s3])), (h7, .inl (kB, 3, .inl lo))] 100 [] (D := (dC, dI)) (A := A) (H0 := s.heap) (fun ls H locs hl hP hD hS => ?_) (fun J_12 => ?_)
          · refine lv_aload_n hx hb d_X_takeTracks_100 rfl (lv_at hl 3 rfl) ?_
            refine lv_iload_n hx hb d_X_takeTracks_101 rfl (lv_at hl 2 rfl) ?_
            refine lv_iload hx hb d_X_takeTracks_102 (lv_at hl 1 rfl) ?_
            refine va_mmin hx hb (by rw [hml]; exact hl.1.symm) hown (hts (.methodLink R_X 91 Lib.Math.min.name) mw_31) (hts (.static Lib.Math.min.name) mw_1) (hts (.initialized "java/lang/Math") mw_2) (hts (.code Lib.Math.min.name Lib.Math.min.code 2 (some .int)) mw_3) (Nat.le_of_ble_eq_true rfl) (Nat.le_of_ble_eq_true rfl) (Nat.le_of_ble_eq_true rfl) (Nat.le_of_ble_eq_true rfl) d_X_takeTracks_104 ?_
            refine tpi (y := (mn (vX_takeTracks_0 lo pp po) (vX_takeTracks_1 lo po pp))) rfl ?_
            refine va_put (D := (dC, dI)) (ci := 4) (v := .int (vX_takeTracks_5 lo pp po)) (ty := .int) (C := R_X) (T := F_X) (N := 19) hx hb hts in_X t_X t_X_ok n_X hown hK hP hD hS 0 rfl rfl 13 (by decide) (hts (.fieldLink R_X 85 "TorqueRows" "lastPedal" "I") mw_43) (fun _ h9 => h9) rfl (by decide +kernel) rfl rfl (Nat.le_of_ble_eq_true rfl) d_X_takeTracks_107 (fun H locs hP hD hS => ?_)
            have hP : va_P (dC, dI) classes [(h0, .inr (4, [.ref h1, .ref h3, .ref h5, .ref h6, .ref h7, .int bn, .int cy, .int li, .int (vX_takeTracks_4 lo pp po df st), .int (vX_takeTracks_3 lo pp po df), .int tm, .int tq, .int tp, .int (vX_takeTracks_5 lo pp po), .int wa, .int ai, .int fu, .int mo, .int sp])), (h1, .inr (0, [.ref h2])), (h2, .inl (kT, 320, .inl tb)), (h3, .inr (1, [.ref h4, .int wt])), (h4, .inl (kW, 6, .inl le)), (h5, .inr (2, [.int am, .int sd])), (h6, .inr (3, [.long s0, .long s1, .long s2, .long s3])), (h7, .inl (kB, 3, .inl lo))] H := hP
            have hD : va_D A [(h0, .inr (4, [.ref h1, .ref h3, .ref h5, .ref h6, .ref h7, .int bn, .int cy, .int li, .int (vX_takeTracks_4 lo pp po df st), .int (vX_takeTracks_3 lo pp po df), .int tm, .int tq, .int tp, .int (vX_takeTracks_5 lo pp po), .int wa, .int ai, .int fu, .int mo, .int sp])), (h1, .inr (0, [.ref h2])), (h2, .inl (kT, 320, .inl tb)), (h3, .inr (1, [.ref h4, .int wt])), (h4, .inl (kW, 6, .inl le)), (h5, .inr (2, [.int am, .int sd])), (h6, .inr (3, [.long s0, .long s1, .long s2, .long s3])), (h7, .inl (kB, 3, .inl lo))] := hD
            have h9 : va_P (dC, dI) classes [(h0, .inr (4, [.ref h1, .ref h3, .ref h5, .ref h6, .ref h7, .int bn, .int cy, .int li, .int (vX_takeTracks_4 lo pp po df st), .int (vX_takeTracks_3 lo pp po df), .int tm, .int tq, .int tp, .int (vX_takeTracks_5 lo pp po), .int wa, .int ai, .int fu, .int mo, .int sp])), (h1, .inr (0, [.ref h2])), (h2, .inl (kT, 320, .inl tb)), (h3, .inr (1, [.ref h4, .int wt])), (h4, .inl (kW, 6, .inl le)), (h5, .inr (2, [.int am, .int sd])), (h6, .inr (3, [.long s0, .long s1, .long s2, .long s3])), (h7, .inl (kB, 3, .inl lo))] H ∧ va_D A [(h0, .inr (4, [.ref h1, .ref h3, .ref h5, .ref h6, .ref h7, .int bn, .int cy, .int li, .int (vX_takeTracks_4 lo pp po df st), .int (vX_takeTracks_3 lo pp po df), .int tm, .int tq, .int tp, .int (vX_takeTracks_5 lo pp po), .int wa, .int ai, .int fu, .int mo, .int sp])), (h1, .inr (0, [.ref h2])), (h2, .inl (kT, 320, .inl tb)), (h3, .inr (1, [.ref h4, .int wt])), (h4, .inl (kW, 6, .inl le)), (h5, .inr (2, [.int am, .int sd])), (h6, .inr (3, [.long s0, .long s1, .long s2, .long s3])), (h7, .inl (kB, 3, .inl lo))] := ⟨hP, hD⟩
            exact W.vret hx hb hr (fun t ht hW => ⟨⟨(), rfl, trivial, by rw [ht]; exact h9.1, va_K.moved hW.alike hK, h9.2⟩, hS.F ht⟩) hS.2.2 d_X_takeTracks_110
          · refine lv_icmp_lt (tgt := 100) hx hb d_X_takeTracks_92 (by decide) (fun c_11 => ?_) (fun c_11 => ?_)
            · exact J_12 _ _ _ (lv_sub hl [0, 1, 2, 3, 4, 5] rfl) (by rw [show (vX_takeTracks_4 lo pp po df st) = st from (if_pos c_11)]; exact hP) (by rw [show (vX_takeTracks_4 lo pp po df st) = st from (if_pos c_11)]; exact hD) hS
            · refine lv_aload_n hx hb d_X_takeTracks_95 rfl (lv_at hl 3 rfl) ?_
              refine lv_iconst (v := 1) hx hb d_X_takeTracks_96 (by decide) ?_
              refine va_put (D := (dC, dI)) (ci := 4) (v := .int 1) (ty := .boolean) (C := R_X) (T := F_X) (N := 19) hx hb hts in_X t_X t_X_ok n_X hown hK hP hD hS 0 rfl rfl 8 (by decide) (hts (.fieldLink R_X 141 "TorqueRows" "stopped" "Z") mw_42) (fun _ h9 => h9) rfl (by decide +kernel) rfl rfl (Nat.le_of_ble_eq_true rfl) d_X_takeTracks_97 (fun H locs hP hD hS => ?_)
              have hP : va_P (dC, dI) classes [(h0, .inr (4, [.ref h1, .ref h3, .ref h5, .ref h6, .ref h7, .int bn, .int cy, .int li, .int 1, .int (vX_takeTracks_3 lo pp po df), .int tm, .int tq, .int tp, .int pd, .int wa, .int ai, .int fu, .int mo, .int sp])), (h1, .inr (0, [.ref h2])), (h2, .inl (kT, 320, .inl tb)), (h3, .inr (1, [.ref h4, .int wt])), (h4, .inl (kW, 6, .inl le)), (h5, .inr (2, [.int am, .int sd])), (h6, .inr (3, [.long s0, .long s1, .long s2, .long s3])), (h7, .inl (kB, 3, .inl lo))] H := hP
              have hD : va_D A [(h0, .inr (4, [.ref h1, .ref h3, .ref h5, .ref h6, .ref h7, .int bn, .int cy, .int li, .int 1, .int (vX_takeTracks_3 lo pp po df), .int tm, .int tq, .int tp, .int pd, .int wa, .int ai, .int fu, .int mo, .int sp])), (h1, .inr (0, [.ref h2])), (h2, .inl (kT, 320, .inl tb)), (h3, .inr (1, [.ref h4, .int wt])), (h4, .inl (kW, 6, .inl le)), (h5, .inr (2, [.int am, .int sd])), (h6, .inr (3, [.long s0, .long s1, .long s2, .long s3])), (h7, .inl (kB, 3, .inl lo))] := hD
              exact J_12 _ _ _ (lv_sub hl [0, 1, 2, 3, 4, 5] rfl) (by rw [show (vX_takeTracks_4 lo pp po df st) = 1 from (if_neg c_11)]; exact hP) (by rw [show (vX_takeTracks_4 lo pp po df st) = 1 from (if_neg c_11)]; exact hD) hS
        · refine lv_if_eq (tgt := 83) hx hb d_X_takeTracks_59 (by decide) (fun c_8 => ?_) (fun c_8 => ?_)
          · refine lv_iconst (v := 0) hx hb d_X_takeTracks_83 (by decide) ?_
            refine W.eq (g2 := F0 m 84 ls [.int (vX_takeTracks_3 lo pp po df), .ref h0]) (by rw [show (vX_takeTracks_3 lo pp po df) = 0 from (if_pos c_8)]) ?_
            exact J_10 _ _ _ (lv_sub hl [0, 1, 2, 3, 4, 5] rfl) hP hD hS
          · refine lv_iload_n hx hb d_X_takeTracks_62 rfl (lv_at hl 2 rfl) ?_
            refine lv_iload hx hb d_X_takeTracks_63 (lv_at hl 1 rfl) ?_
            refine lv_isub hx hb d_X_takeTracks_65 ?_
            refine va_mabs hx hb (by rw [hml]; exact hl.1.symm) hown (hts (.methodLink R_X 189 Lib.Math.abs.name) mw_38) (hts (.static Lib.Math.abs.name) mw_39) (hts (.initialized "java/lang/Math") mw_2) (hts (.code Lib.Math.abs.name Lib.Math.abs.code 1 (some .int)) mw_40) (Nat.le_of_ble_eq_true rfl) (Nat.le_of_ble_eq_true rfl) (Nat.le_of_ble_eq_true rfl) (Nat.le_of_ble_eq_true rfl) d_X_takeTracks_66 ?_
            refine tpi (y := (ab ((vX_takeTracks_0 lo pp po) - (vX_takeTracks_1 lo po pp)))) rfl ?_
            refine lv_bipush (v := 50) hx hb d_X_takeTracks_69 (by decide) ?_
            refine lv_icmp_le (tgt := 83) hx hb d_X_takeTracks_71 (by decide) (fun c_13 => ?_) (fun c_13 => ?_)
            · refine lv_iconst (v := 0) hx hb d_X_takeTracks_83 (by decide) ?_
              refine W.eq (g2 := F0 m 84 ls [.int (vX_takeTracks_3 lo pp po df), .ref h0]) (by rw [show (vX_takeTracks_3 lo pp po df) = 0 from ((if_neg c_8).trans (if_pos c_13))]) ?_
              exact J_10 _ _ _ (lv_sub hl [0, 1, 2, 3, 4, 5] rfl) hP hD hS
            · refine lv_aload_n hx hb d_X_takeTracks_74 rfl (lv_at hl 3 rfl) ?_
              refine va_get (D := (dC, dI)) (ci := 4) (v := .int df) (C := R_X) (T := F_X) (N := 19) hx hb hts in_X hown hK hP 0 rfl rfl 9 (by decide) (hts (.fieldLink R_X 130 "TorqueRows" "different" "I") mw_41) (fun _ h9 => h9) rfl d_X_takeTracks_75 ?_
              refine lv_iconst (v := 1) hx hb d_X_takeTracks_78 (by decide) ?_
              refine lv_iadd hx hb d_X_takeTracks_79 ?_
              refine lv_goto (tgt := 84) hx hb d_X_takeTracks_80 (by decide) ?_
              refine W.eq (g2 := F0 m 84 ls [.int (vX_takeTracks_3 lo pp po df), .ref h0]) (by rw [show (vX_takeTracks_3 lo pp po df) = (df + 1) from ((if_neg c_8).trans (if_neg c_13))]) ?_
              exact J_10 _ _ _ (lv_sub hl [0, 1, 2, 3, 4, 5] rfl) hP hD hS
      · refine lv_if_ne (tgt := 53) hx hb d_X_takeTracks_37 (by decide) (fun c_5 => ?_) (fun c_5 => ?_)
        · refine lv_iconst (v := 0) hx hb d_X_takeTracks_53 (by decide) ?_
          refine W.eq (g2 := F0 m 54 ls [.int (vX_takeTracks_2 lo)]) (by rw [show (vX_takeTracks_2 lo) = 0 from (if_neg c_5)]) ?_
          exact J_7 _ _ _ (lv_sub hl [0, 1, 2, 3, 4] rfl) hP hD hS
        · refine lv_aload_n hx hb d_X_takeTracks_40 rfl (lv_at hl 2 rfl) ?_
          refine va_get (D := (dC, dI)) (ci := 4) (v := .ref h7) (C := R_X) (T := F_X) (N := 19) hx hb hts in_X hown hK hP 0 rfl rfl 4 (by decide) (hts (.fieldLink R_X 37 "TorqueRows" "lost" "[Z") mw_36) (fun _ h9 => h9) rfl d_X_takeTracks_41 ?_
          refine lv_iconst (v := 1) hx hb d_X_takeTracks_44 (by decide) ?_
          refine va_zald hx hb hK hP 7 2 rfl rfl (by unfold vp_in; decide) d_X_takeTracks_45 ?_
          refine lv_if_ne (tgt := 53) hx hb d_X_takeTracks_46 (by decide) (fun c_14 => ?_) (fun c_14 => ?_)
          · refine lv_iconst (v := 0) hx hb d_X_takeTracks_53 (by decide) ?_
            refine W.eq (g2 := F0 m 54 ls [.int (vX_takeTracks_2 lo)]) (by rw [show (vX_takeTracks_2 lo) = 0 from ((if_pos c_5).trans (if_neg c_14))]) ?_
            exact J_7 _ _ _ (lv_sub hl [0, 1, 2, 3, 4] rfl) hP hD hS
          · refine lv_iconst (v := 1) hx hb d_X_takeTracks_49 (by decide) ?_
            refine lv_goto (tgt := 54) hx hb d_X_takeTracks_50 (by decide) ?_
            refine W.eq (g2 := F0 m 54 ls [.int (vX_takeTracks_2 lo)]) (by rw [show (vX_takeTracks_2 lo) = 1 from ((if_pos c_5).trans (if_pos c_14))]) ?_
            exact J_7 _ _ _ (lv_sub hl [0, 1, 2, 3, 4] rfl) hP hD hS
    · refine lv_if_eq (tgt := 28) hx hb d_X_takeTracks_21 (by decide) (fun c_3 => ?_) (fun c_3 => ?_)
      · refine lv_iload_n hx hb d_X_takeTracks_28 rfl (lv_at hl 3 rfl) ?_
        refine W.eq (g2 := F0 m 29 ls [.int (vX_takeTracks_1 lo po pp)]) (by rw [show (vX_takeTracks_1 lo po pp) = po from (if_pos c_3)]) ?_
        exact J_4 _ _ _ (lv_sub hl [0, 1, 2, 3] rfl) hP hD hS
      · refine lv_iload_n hx hb d_X_takeTracks_24 rfl (lv_at hl 2 rfl) ?_
        refine lv_goto (tgt := 29) hx hb d_X_takeTracks_25 (by decide) ?_
        refine W.eq (g2 := F0 m 29 ls [.int (vX_takeTracks_1 lo po pp)]) (by rw [show (vX_takeTracks_1 lo po pp) = pp from (if_neg c_3)]) ?_
        exact J_4 _ _ _ (lv_sub hl [0, 1, 2, 3] rfl) hP hD hS
  · refine lv_if_eq (tgt := 13) hx hb d_X_takeTracks_6 (by decide) (fun c_1 => ?_) (fun c_1 => ?_)
    · refine lv_iload_n hx hb d_X_takeTracks_13 rfl (lv_at hl 1 rfl) ?_
      refine W.eq (g2 := F0 m 14 ls [.int (vX_takeTracks_0 lo pp po)]) (by rw [show (vX_takeTracks_0 lo pp po) = pp from (if_pos c_1)]) ?_
      exact J_2 _ _ _ (lv_sub hl [0, 1, 2] rfl) hP hD hS
    · refine lv_iload_n hx hb d_X_takeTracks_9 rfl (lv_at hl 2 rfl) ?_
      refine lv_goto (tgt := 14) hx hb d_X_takeTracks_10 (by decide) ?_
      refine W.eq (g2 := F0 m 14 ls [.int (vX_takeTracks_0 lo pp po)]) (by rw [show (vX_takeTracks_0 lo pp po) = po from (if_neg c_1)]) ?_
      exact J_2 _ _ _ (lv_sub hl [0, 1, 2] rfl) hP hD hS
set_option maxHeartbeats 4000000 in
set_option maxRecDepth 100000 in
theorem c_X_chooseMode (l : Launch) (dC : Nat → ClassId) (dI : Nat → Nat → Nat) (h0 h1 h2 h3 h4 h5 h6 h7 : Nat) (kT kW kB : ClassId) (sz : Nat) (bn : Int32) (cy : Int32) (li : Int32) (st : Int32) (df : Int32) (tm : Int32) (tq : Int32) (tp : Int32) (pd : Int32) (wa : Int32) (ai : Int32) (fu : Int32) (mo : Int32) (sp : Int32) (tb : Nat → Int32) (wt : Int32) (le : Nat → Int32) (am : Int32) (sd : Int32) (s0 : Int64) (s1 : Int64) (s2 : Int64) (s3 : Int64) (lo : Nat → Int32) : Met l y_X_chooseMode w_X_chooseMode { frames := 0, cells := 0, slots := 0, locals := 0 } (va_Pc [.ref h0] (pr_ (dC, dI) [(h0, .inr (4, [.ref h1, .ref h3, .ref h5, .ref h6, .ref h7, .int bn, .int cy, .int li, .int st, .int df, .int tm, .int tq, .int tp, .int pd, .int wa, .int ai, .int fu, .int mo, .int sp])), (h1, .inr (0, [.ref h2])), (h2, .inl (kT, 320, .inl tb)), (h3, .inr (1, [.ref h4, .int wt])), (h4, .inl (kW, 6, .inl le)), (h5, .inr (2, [.int am, .int sd])), (h6, .inr (3, [.long s0, .long s1, .long s2, .long s3])), (h7, .inl (kB, 3, .inl lo))] [(kT, .int), (kW, .int), (kB, .boolean)] sz)) (va_Qi (fun r (_ : Unit) => r = (fX_chooseMode st lo sp li df)) (fun _ t => at_ (dC, dI) (va_A [(h0, .inr (4, [.ref h1, .ref h3, .ref h5, .ref h6, .ref h7, .int bn, .int cy, .int li, .int st, .int df, .int tm, .int tq, .int tp, .int pd, .int wa, .int ai, .int fu, .int mo, .int sp])), (h1, .inr (0, [.ref h2])), (h2, .inl (kT, 320, .inl tb)), (h3, .inr (1, [.ref h4, .int wt])), (h4, .inl (kW, 6, .inl le)), (h5, .inr (2, [.int am, .int sd])), (h6, .inr (3, [.long s0, .long s1, .long s2, .long s3])), (h7, .inl (kB, 3, .inl lo))] sz) [(h0, .inr (4, [.ref h1, .ref h3, .ref h5, .ref h6, .ref h7, .int bn, .int cy, .int li, .int st, .int df, .int tm, .int tq, .int tp, .int pd, .int wa, .int ai, .int fu, .int mo, .int sp])), (h1, .inr (0, [.ref h2])), (h2, .inl (kT, 320, .inl tb)), (h3, .inr (1, [.ref h4, .int wt])), (h4, .inl (kW, 6, .inl le)), (h5, .inr (2, [.int am, .int sd])), (h6, .inr (3, [.long s0, .long s1, .long s2, .long s3])), (h7, .inl (kB, 3, .inl lo))] [(kT, .int), (kW, .int), (kB, .boolean)] t) (va_A [(h0, .inr (4, [.ref h1, .ref h3, .ref h5, .ref h6, .ref h7, .int bn, .int cy, .int li, .int st, .int df, .int tm, .int tq, .int tp, .int pd, .int wa, .int ai, .int fu, .int mo, .int sp])), (h1, .inr (0, [.ref h2])), (h2, .inl (kT, 320, .inl tb)), (h3, .inr (1, [.ref h4, .int wt])), (h4, .inl (kW, 6, .inl le)), (h5, .inr (2, [.int am, .int sd])), (h6, .inr (3, [.long s0, .long s1, .long s2, .long s3])), (h7, .inl (kB, 3, .inl lo))] sz)) 0 0 (va_A [(h0, .inr (4, [.ref h1, .ref h3, .ref h5, .ref h6, .ref h7, .int bn, .int cy, .int li, .int st, .int df, .int tm, .int tq, .int tp, .int pd, .int wa, .int ai, .int fu, .int mo, .int sp])), (h1, .inr (0, [.ref h2])), (h2, .inl (kT, 320, .inl tb)), (h3, .inr (1, [.ref h4, .int wt])), (h4, .inl (kW, 6, .inl le)), (h5, .inr (2, [.int am, .int sd])), (h6, .inr (3, [.long s0, .long s1, .long s2, .long s3])), (h7, .inl (kB, 3, .inl lo))] sz) := by
  refine Met.ofW (cc := b_X_chooseMode) (maxL := 1) (ret := (some .int)) (by decide) rfl ?_
  intro p e s m args below meth c s₁ B hml hv
  obtain ⟨rfl, hsz, hP, hK, hD0, hN⟩ := hv
  have hx := B.exec
  have hb := B.bytes
  have hr := B.returns
  have hts0 := atoms_spec (ws := w_X_chooseMode) B.pre
  have hts : ∀ w ∈ wA_, w.before _ s = true := fun w h => hts0 w (List.mem_cons_of_mem _ h)
  have hown : s.vm.findClass R_X = some m.cls := findClass_of_methodNamed B.named
  have hlocks := B.notSynchronized
  subst hsz
  have hD := hD0.self (sz := s.heap.size)
  generalize hAe : va_A [(h0, .inr (4, [.ref h1, .ref h3, .ref h5, .ref h6, .ref h7, .int bn, .int cy, .int li, .int st, .int df, .int tm, .int tq, .int tp, .int pd, .int wa, .int ai, .int fu, .int mo, .int sp])), (h1, .inr (0, [.ref h2])), (h2, .inl (kT, 320, .inl tb)), (h3, .inr (1, [.ref h4, .int wt])), (h4, .inl (kW, 6, .inl le)), (h5, .inr (2, [.int am, .int sd])), (h6, .inr (3, [.long s0, .long s1, .long s2, .long s3])), (h7, .inl (kB, 3, .inl lo))] s.heap.size = A at hD ⊢
  have hA : ∀ q : Nat, s.heap.size ≤ q → A q := fun q h => by rw [← hAe]; exact Or.inr h
  have hS : va_S A s.heap s.heap [] := va_S.rf
  have hP : va_P (dC, dI) classes [(h0, .inr (4, [.ref h1, .ref h3, .ref h5, .ref h6, .ref h7, .int bn, .int cy, .int li, .int st, .int df, .int tm, .int tq, .int tp, .int pd, .int wa, .int ai, .int fu, .int mo, .int sp])), (h1, .inr (0, [.ref h2])), (h2, .inl (kT, 320, .inl tb)), (h3, .inr (1, [.ref h4, .int wt])), (h4, .inl (kW, 6, .inl le)), (h5, .inr (2, [.int am, .int sd])), (h6, .inr (3, [.long s0, .long s1, .long s2, .long s3])), (h7, .inl (kB, 3, .inl lo))] s.heap := hP
  have hl := lv_entry ([.ref h0]) (n := 1) (Nat.le_of_ble_eq_true rfl)
  rw [lg_entry_eq]
  generalize (lg_sl ([.ref h0]) ++ List.replicate (1 - (lg_sl ([.ref h0])).length) Slot.unset).toArray = ls at hl ⊢
  have hl : lv_has ls 1 [(0, .ref h0)] := hl
  have hS : va_S A s.heap s.heap [] := hS
  refine st_ hP hS (fun H locs hP hS => ?_)
  refine lv_aload_n hx hb d_X_chooseMode_0 rfl (lv_at hl 0 rfl) ?_
  refine va_get (D := (dC, dI)) (ci := 4) (v := .int st) (C := R_X) (T := F_X) (N := 19) hx hb hts in_X hown hK hP 0 rfl rfl 8 (by decide) (hts (.fieldLink R_X 141 "TorqueRows" "stopped" "Z") mw_42) (fun _ h9 => h9) rfl d_X_chooseMode_1 ?_
  refine lv_if_ne (tgt := 25) hx hb d_X_chooseMode_4 (by decide) (fun c_1 => ?_) (fun c_1 => ?_)
  · refine lv_iconst (v := 4) hx hb d_X_chooseMode_25 (by decide) ?_
    have h9 : va_P (dC, dI) classes [(h0, .inr (4, [.ref h1, .ref h3, .ref h5, .ref h6, .ref h7, .int bn, .int cy, .int li, .int st, .int df, .int tm, .int tq, .int tp, .int pd, .int wa, .int ai, .int fu, .int mo, .int sp])), (h1, .inr (0, [.ref h2])), (h2, .inl (kT, 320, .inl tb)), (h3, .inr (1, [.ref h4, .int wt])), (h4, .inl (kW, 6, .inl le)), (h5, .inr (2, [.int am, .int sd])), (h6, .inr (3, [.long s0, .long s1, .long s2, .long s3])), (h7, .inl (kB, 3, .inl lo))] H ∧ va_D A [(h0, .inr (4, [.ref h1, .ref h3, .ref h5, .ref h6, .ref h7, .int bn, .int cy, .int li, .int st, .int df, .int tm, .int tq, .int tp, .int pd, .int wa, .int ai, .int fu, .int mo, .int sp])), (h1, .inr (0, [.ref h2])), (h2, .inl (kT, 320, .inl tb)), (h3, .inr (1, [.ref h4, .int wt])), (h4, .inl (kW, 6, .inl le)), (h5, .inr (2, [.int am, .int sd])), (h6, .inr (3, [.long s0, .long s1, .long s2, .long s3])), (h7, .inl (kB, 3, .inl lo))] := ⟨hP, hD⟩
    exact W.iret (v := 4) hx hb hr (fun t ht hW => ⟨⟨4, (), rfl, ((if_neg c_1)).symm, by rw [ht]; exact h9.1, va_K.moved hW.alike hK, h9.2⟩, hS.F ht⟩) hS.2.2 d_X_chooseMode_26
  · refine lv_aload_n hx hb d_X_chooseMode_7 rfl (lv_at hl 0 rfl) ?_
    refine va_get (D := (dC, dI)) (ci := 4) (v := .ref h7) (C := R_X) (T := F_X) (N := 19) hx hb hts in_X hown hK hP 0 rfl rfl 4 (by decide) (hts (.fieldLink R_X 37 "TorqueRows" "lost" "[Z") mw_36) (fun _ h9 => h9) rfl d_X_chooseMode_8 ?_
    refine lv_iconst (v := 0) hx hb d_X_chooseMode_11 (by decide) ?_
    refine va_zald hx hb hK hP 7 2 rfl rfl (by unfold vp_in; decide) d_X_chooseMode_12 ?_
    refine lv_if_eq (tgt := 27) hx hb d_X_chooseMode_13 (by decide) (fun c_2 => ?_) (fun c_2 => ?_)
    · refine lv_aload_n hx hb d_X_chooseMode_27 rfl (lv_at hl 0 rfl) ?_
      refine va_get (D := (dC, dI)) (ci := 4) (v := .int sp) (C := R_X) (T := F_X) (N := 19) hx hb hts in_X hown hK hP 0 rfl rfl 18 (by decide) (hts (.fieldLink R_X 107 "TorqueRows" "lastSpeed" "I") mw_37) (fun _ h9 => h9) rfl d_X_chooseMode_28 ?_
      refine lv_if_ne (tgt := 36) hx hb d_X_chooseMode_31 (by decide) (fun c_3 => ?_) (fun c_3 => ?_)
      · refine lv_aload_n hx hb d_X_chooseMode_36 rfl (lv_at hl 0 rfl) ?_
        refine va_get (D := (dC, dI)) (ci := 4) (v := .int li) (C := R_X) (T := F_X) (N := 19) hx hb hts in_X hown hK hP 0 rfl rfl 7 (by decide) (hts (.fieldLink R_X 186 "TorqueRows" "limpOn" "Z") mw_44) (fun _ h9 => h9) rfl d_X_chooseMode_37 ?_
        refine lv_if_ne (tgt := 70) hx hb d_X_chooseMode_40 (by decide) (fun c_4 => ?_) (fun c_4 => ?_)
        · refine lv_iconst (v := 2) hx hb d_X_chooseMode_70 (by decide) ?_
          have h9 : va_P (dC, dI) classes [(h0, .inr (4, [.ref h1, .ref h3, .ref h5, .ref h6, .ref h7, .int bn, .int cy, .int li, .int st, .int df, .int tm, .int tq, .int tp, .int pd, .int wa, .int ai, .int fu, .int mo, .int sp])), (h1, .inr (0, [.ref h2])), (h2, .inl (kT, 320, .inl tb)), (h3, .inr (1, [.ref h4, .int wt])), (h4, .inl (kW, 6, .inl le)), (h5, .inr (2, [.int am, .int sd])), (h6, .inr (3, [.long s0, .long s1, .long s2, .long s3])), (h7, .inl (kB, 3, .inl lo))] H ∧ va_D A [(h0, .inr (4, [.ref h1, .ref h3, .ref h5, .ref h6, .ref h7, .int bn, .int cy, .int li, .int st, .int df, .int tm, .int tq, .int tp, .int pd, .int wa, .int ai, .int fu, .int mo, .int sp])), (h1, .inr (0, [.ref h2])), (h2, .inl (kT, 320, .inl tb)), (h3, .inr (1, [.ref h4, .int wt])), (h4, .inl (kW, 6, .inl le)), (h5, .inr (2, [.int am, .int sd])), (h6, .inr (3, [.long s0, .long s1, .long s2, .long s3])), (h7, .inl (kB, 3, .inl lo))] := ⟨hP, hD⟩
          exact W.iret (v := 2) hx hb hr (fun t ht hW => ⟨⟨2, (), rfl, (((if_pos c_1).trans ((if_pos c_2).trans ((if_neg c_3).trans (if_neg c_4))))).symm, by rw [ht]; exact h9.1, va_K.moved hW.alike hK, h9.2⟩, hS.F ht⟩) hS.2.2 d_X_chooseMode_71
        · refine lv_aload_n hx hb d_X_chooseMode_43 rfl (lv_at hl 0 rfl) ?_
          refine va_get (D := (dC, dI)) (ci := 4) (v := .ref h7) (C := R_X) (T := F_X) (N := 19) hx hb hts in_X hown hK hP 0 rfl rfl 4 (by decide) (hts (.fieldLink R_X 37 "TorqueRows" "lost" "[Z") mw_36) (fun _ h9 => h9) rfl d_X_chooseMode_44 ?_
          refine lv_iconst (v := 0) hx hb d_X_chooseMode_47 (by decide) ?_
          refine va_zald hx hb hK hP 7 2 rfl rfl (by unfold vp_in; decide) d_X_chooseMode_48 ?_
          refine lv_if_ne (tgt := 70) hx hb d_X_chooseMode_49 (by decide) (fun c_5 => ?_) (fun c_5 => ?_)
          · exact absurd c_2 c_5
          · refine lv_aload_n hx hb d_X_chooseMode_52 rfl (lv_at hl 0 rfl) ?_
            refine va_get (D := (dC, dI)) (ci := 4) (v := .ref h7) (C := R_X) (T := F_X) (N := 19) hx hb hts in_X hown hK hP 0 rfl rfl 4 (by decide) (hts (.fieldLink R_X 37 "TorqueRows" "lost" "[Z") mw_36) (fun _ h9 => h9) rfl d_X_chooseMode_53 ?_
            refine lv_iconst (v := 1) hx hb d_X_chooseMode_56 (by decide) ?_
            refine va_zald hx hb hK hP 7 2 rfl rfl (by unfold vp_in; decide) d_X_chooseMode_57 ?_
            refine lv_if_ne (tgt := 70) hx hb d_X_chooseMode_58 (by decide) (fun c_6 => ?_) (fun c_6 => ?_)
            · refine lv_iconst (v := 2) hx hb d_X_chooseMode_70 (by decide) ?_
              have h9 : va_P (dC, dI) classes [(h0, .inr (4, [.ref h1, .ref h3, .ref h5, .ref h6, .ref h7, .int bn, .int cy, .int li, .int st, .int df, .int tm, .int tq, .int tp, .int pd, .int wa, .int ai, .int fu, .int mo, .int sp])), (h1, .inr (0, [.ref h2])), (h2, .inl (kT, 320, .inl tb)), (h3, .inr (1, [.ref h4, .int wt])), (h4, .inl (kW, 6, .inl le)), (h5, .inr (2, [.int am, .int sd])), (h6, .inr (3, [.long s0, .long s1, .long s2, .long s3])), (h7, .inl (kB, 3, .inl lo))] H ∧ va_D A [(h0, .inr (4, [.ref h1, .ref h3, .ref h5, .ref h6, .ref h7, .int bn, .int cy, .int li, .int st, .int df, .int tm, .int tq, .int tp, .int pd, .int wa, .int ai, .int fu, .int mo, .int sp])), (h1, .inr (0, [.ref h2])), (h2, .inl (kT, 320, .inl tb)), (h3, .inr (1, [.ref h4, .int wt])), (h4, .inl (kW, 6, .inl le)), (h5, .inr (2, [.int am, .int sd])), (h6, .inr (3, [.long s0, .long s1, .long s2, .long s3])), (h7, .inl (kB, 3, .inl lo))] := ⟨hP, hD⟩
              exact W.iret (v := 2) hx hb hr (fun t ht hW => ⟨⟨2, (), rfl, (((if_pos c_1).trans ((if_pos c_2).trans ((if_neg c_3).trans ((if_pos c_4).trans (if_neg c_6)))))).symm, by rw [ht]; exact h9.1, va_K.moved hW.alike hK, h9.2⟩, hS.F ht⟩) hS.2.2 d_X_chooseMode_71
            · refine lv_aload_n hx hb d_X_chooseMode_61 rfl (lv_at hl 0 rfl) ?_
              refine va_get (D := (dC, dI)) (ci := 4) (v := .ref h7) (C := R_X) (T := F_X) (N := 19) hx hb hts in_X hown hK hP 0 rfl rfl 4 (by decide) (hts (.fieldLink R_X 37 "TorqueRows" "lost" "[Z") mw_36) (fun _ h9 => h9) rfl d_X_chooseMode_62 ?_
              refine lv_iconst (v := 2) hx hb d_X_chooseMode_65 (by decide) ?_
              refine va_zald hx hb hK hP 7 2 rfl rfl (by unfold vp_in; decide) d_X_chooseMode_66 ?_
              refine lv_if_eq (tgt := 72) hx hb d_X_chooseMode_67 (by decide) (fun c_7 => ?_) (fun c_7 => ?_)
              · refine lv_aload_n hx hb d_X_chooseMode_72 rfl (lv_at hl 0 rfl) ?_
                refine va_get (D := (dC, dI)) (ci := 4) (v := .int df) (C := R_X) (T := F_X) (N := 19) hx hb hts in_X hown hK hP 0 rfl rfl 9 (by decide) (hts (.fieldLink R_X 130 "TorqueRows" "different" "I") mw_41) (fun _ h9 => h9) rfl d_X_chooseMode_73 ?_
                refine lv_if_le (tgt := 83) hx hb d_X_chooseMode_76 (by decide) (fun c_8 => ?_) (fun c_8 => ?_)
                · refine lv_iconst (v := 0) hx hb d_X_chooseMode_83 (by decide) ?_
                  have h9 : va_P (dC, dI) classes [(h0, .inr (4, [.ref h1, .ref h3, .ref h5, .ref h6, .ref h7, .int bn, .int cy, .int li, .int st, .int df, .int tm, .int tq, .int tp, .int pd, .int wa, .int ai, .int fu, .int mo, .int sp])), (h1, .inr (0, [.ref h2])), (h2, .inl (kT, 320, .inl tb)), (h3, .inr (1, [.ref h4, .int wt])), (h4, .inl (kW, 6, .inl le)), (h5, .inr (2, [.int am, .int sd])), (h6, .inr (3, [.long s0, .long s1, .long s2, .long s3])), (h7, .inl (kB, 3, .inl lo))] H ∧ va_D A [(h0, .inr (4, [.ref h1, .ref h3, .ref h5, .ref h6, .ref h7, .int bn, .int cy, .int li, .int st, .int df, .int tm, .int tq, .int tp, .int pd, .int wa, .int ai, .int fu, .int mo, .int sp])), (h1, .inr (0, [.ref h2])), (h2, .inl (kT, 320, .inl tb)), (h3, .inr (1, [.ref h4, .int wt])), (h4, .inl (kW, 6, .inl le)), (h5, .inr (2, [.int am, .int sd])), (h6, .inr (3, [.long s0, .long s1, .long s2, .long s3])), (h7, .inl (kB, 3, .inl lo))] := ⟨hP, hD⟩
                  exact W.iret (v := 0) hx hb hr (fun t ht hW => ⟨⟨0, (), rfl, (((if_pos c_1).trans ((if_pos c_2).trans ((if_neg c_3).trans ((if_pos c_4).trans ((if_pos c_6).trans ((if_pos c_7).trans (if_pos c_8)))))))).symm, by rw [ht]; exact h9.1, va_K.moved hW.alike hK, h9.2⟩, hS.F ht⟩) hS.2.2 d_X_chooseMode_84
                · refine lv_iconst (v := 1) hx hb d_X_chooseMode_79 (by decide) ?_
                  refine lv_goto (tgt := 84) hx hb d_X_chooseMode_80 (by decide) ?_
                  have h9 : va_P (dC, dI) classes [(h0, .inr (4, [.ref h1, .ref h3, .ref h5, .ref h6, .ref h7, .int bn, .int cy, .int li, .int st, .int df, .int tm, .int tq, .int tp, .int pd, .int wa, .int ai, .int fu, .int mo, .int sp])), (h1, .inr (0, [.ref h2])), (h2, .inl (kT, 320, .inl tb)), (h3, .inr (1, [.ref h4, .int wt])), (h4, .inl (kW, 6, .inl le)), (h5, .inr (2, [.int am, .int sd])), (h6, .inr (3, [.long s0, .long s1, .long s2, .long s3])), (h7, .inl (kB, 3, .inl lo))] H ∧ va_D A [(h0, .inr (4, [.ref h1, .ref h3, .ref h5, .ref h6, .ref h7, .int bn, .int cy, .int li, .int st, .int df, .int tm, .int tq, .int tp, .int pd, .int wa, .int ai, .int fu, .int mo, .int sp])), (h1, .inr (0, [.ref h2])), (h2, .inl (kT, 320, .inl tb)), (h3, .inr (1, [.ref h4, .int wt])), (h4, .inl (kW, 6, .inl le)), (h5, .inr (2, [.int am, .int sd])), (h6, .inr (3, [.long s0, .long s1, .long s2, .long s3])), (h7, .inl (kB, 3, .inl lo))] := ⟨hP, hD⟩
                  exact W.iret (v := 1) hx hb hr (fun t ht hW => ⟨⟨1, (), rfl, (((if_pos c_1).trans ((if_pos c_2).trans ((if_neg c_3).trans ((if_pos c_4).trans ((if_pos c_6).trans ((if_pos c_7).trans (if_neg c_8)))))))).symm, by rw [ht]; exact h9.1, va_K.moved hW.alike hK, h9.2⟩, hS.F ht⟩) hS.2.2 d_X_chooseMode_84
              · refine lv_iconst (v := 2) hx hb d_X_chooseMode_70 (by decide) ?_
                have h9 : va_P (dC, dI) classes [(h0, .inr (4, [.ref h1, .ref h3, .ref h5, .ref h6, .ref h7, .int bn, .int cy, .int li, .int st, .int df, .int tm, .int tq, .int tp, .int pd, .int wa, .int ai, .int fu, .int mo, .int sp])), (h1, .inr (0, [.ref h2])), (h2, .inl (kT, 320, .inl tb)), (h3, .inr (1, [.ref h4, .int wt])), (h4, .inl (kW, 6, .inl le)), (h5, .inr (2, [.int am, .int sd])), (h6, .inr (3, [.long s0, .long s1, .long s2, .long s3])), (h7, .inl (kB, 3, .inl lo))] H ∧ va_D A [(h0, .inr (4, [.ref h1, .ref h3, .ref h5, .ref h6, .ref h7, .int bn, .int cy, .int li, .int st, .int df, .int tm, .int tq, .int tp, .int pd, .int wa, .int ai, .int fu, .int mo, .int sp])), (h1, .inr (0, [.ref h2])), (h2, .inl (kT, 320, .inl tb)), (h3, .inr (1, [.ref h4, .int wt])), (h4, .inl (kW, 6, .inl le)), (h5, .inr (2, [.int am, .int sd])), (h6, .inr (3, [.long s0, .long s1, .long s2, .long s3])), (h7, .inl (kB, 3, .inl lo))] := ⟨hP, hD⟩
                exact W.iret (v := 2) hx hb hr (fun t ht hW => ⟨⟨2, (), rfl, (((if_pos c_1).trans ((if_pos c_2).trans ((if_neg c_3).trans ((if_pos c_4).trans ((if_pos c_6).trans (if_neg c_7))))))).symm, by rw [ht]; exact h9.1, va_K.moved hW.alike hK, h9.2⟩, hS.F ht⟩) hS.2.2 d_X_chooseMode_71
      · refine lv_iconst (v := 3) hx hb d_X_chooseMode_34 (by decide) ?_
        have h9 : va_P (dC, dI) classes [(h0, .inr (4, [.ref h1, .ref h3, .ref h5, .ref h6, .ref h7, .int bn, .int cy, .int li, .int st, .int df, .int tm, .int tq, .int tp, .int pd, .int wa, .int ai, .int fu, .int mo, .int sp])), (h1, .inr (0, [.ref h2])), (h2, .inl (kT, 320, .inl tb)), (h3, .inr (1, [.ref h4, .int wt])), (h4, .inl (kW, 6, .inl le)), (h5, .inr (2, [.int am, .int sd])), (h6, .inr (3, [.long s0, .long s1, .long s2, .long s3])), (h7, .inl (kB, 3, .inl lo))] H ∧ va_D A [(h0, .inr (4, [.ref h1, .ref h3, .ref h5, .ref h6, .ref h7, .int bn, .int cy, .int li, .int st, .int df, .int tm, .int tq, .int tp, .int pd, .int wa, .int ai, .int fu, .int mo, .int sp])), (h1, .inr (0, [.ref h2])), (h2, .inl (kT, 320, .inl tb)), (h3, .inr (1, [.ref h4, .int wt])), (h4, .inl (kW, 6, .inl le)), (h5, .inr (2, [.int am, .int sd])), (h6, .inr (3, [.long s0, .long s1, .long s2, .long s3])), (h7, .inl (kB, 3, .inl lo))] := ⟨hP, hD⟩
        exact W.iret (v := 3) hx hb hr (fun t ht hW => ⟨⟨3, (), rfl, (((if_pos c_1).trans ((if_pos c_2).trans (if_pos c_3)))).symm, by rw [ht]; exact h9.1, va_K.moved hW.alike hK, h9.2⟩, hS.F ht⟩) hS.2.2 d_X_chooseMode_35
    · refine lv_aload_n hx hb d_X_chooseMode_16 rfl (lv_at hl 0 rfl) ?_
      refine va_get (D := (dC, dI)) (ci := 4) (v := .ref h7) (C := R_X) (T := F_X) (N := 19) hx hb hts in_X hown hK hP 0 rfl rfl 4 (by decide) (hts (.fieldLink R_X 37 "TorqueRows" "lost" "[Z") mw_36) (fun _ h9 => h9) rfl d_X_chooseMode_17 ?_
      refine lv_iconst (v := 1) hx hb d_X_chooseMode_20 (by decide) ?_
      refine va_zald hx hb hK hP 7 2 rfl rfl (by unfold vp_in; decide) d_X_chooseMode_21 ?_
      refine lv_if_eq (tgt := 27) hx hb d_X_chooseMode_22 (by decide) (fun c_9 => ?_) (fun c_9 => ?_)
      · refine lv_aload_n hx hb d_X_chooseMode_27 rfl (lv_at hl 0 rfl) ?_
        refine va_get (D := (dC, dI)) (ci := 4) (v := .int sp) (C := R_X) (T := F_X) (N := 19) hx hb hts in_X hown hK hP 0 rfl rfl 18 (by decide) (hts (.fieldLink R_X 107 "TorqueRows" "lastSpeed" "I") mw_37) (fun _ h9 => h9) rfl d_X_chooseMode_28 ?_
        refine lv_if_ne (tgt := 36) hx hb d_X_chooseMode_31 (by decide) (fun c_10 => ?_) (fun c_10 => ?_)
        · refine lv_aload_n hx hb d_X_chooseMode_36 rfl (lv_at hl 0 rfl) ?_
          refine va_get (D := (dC, dI)) (ci := 4) (v := .int li) (C := R_X) (T := F_X) (N := 19) hx hb hts in_X hown hK hP 0 rfl rfl 7 (by decide) (hts (.fieldLink R_X 186 "TorqueRows" "limpOn" "Z") mw_44) (fun _ h9 => h9) rfl d_X_chooseMode_37 ?_
          refine lv_if_ne (tgt := 70) hx hb d_X_chooseMode_40 (by decide) (fun c_11 => ?_) (fun c_11 => ?_)
          · refine lv_iconst (v := 2) hx hb d_X_chooseMode_70 (by decide) ?_
            have h9 : va_P (dC, dI) classes [(h0, .inr (4, [.ref h1, .ref h3, .ref h5, .ref h6, .ref h7, .int bn, .int cy, .int li, .int st, .int df, .int tm, .int tq, .int tp, .int pd, .int wa, .int ai, .int fu, .int mo, .int sp])), (h1, .inr (0, [.ref h2])), (h2, .inl (kT, 320, .inl tb)), (h3, .inr (1, [.ref h4, .int wt])), (h4, .inl (kW, 6, .inl le)), (h5, .inr (2, [.int am, .int sd])), (h6, .inr (3, [.long s0, .long s1, .long s2, .long s3])), (h7, .inl (kB, 3, .inl lo))] H ∧ va_D A [(h0, .inr (4, [.ref h1, .ref h3, .ref h5, .ref h6, .ref h7, .int bn, .int cy, .int li, .int st, .int df, .int tm, .int tq, .int tp, .int pd, .int wa, .int ai, .int fu, .int mo, .int sp])), (h1, .inr (0, [.ref h2])), (h2, .inl (kT, 320, .inl tb)), (h3, .inr (1, [.ref h4, .int wt])), (h4, .inl (kW, 6, .inl le)), (h5, .inr (2, [.int am, .int sd])), (h6, .inr (3, [.long s0, .long s1, .long s2, .long s3])), (h7, .inl (kB, 3, .inl lo))] := ⟨hP, hD⟩
            exact W.iret (v := 2) hx hb hr (fun t ht hW => ⟨⟨2, (), rfl, (((if_pos c_1).trans ((if_neg c_2).trans ((if_pos c_9).trans ((if_neg c_10).trans (if_neg c_11)))))).symm, by rw [ht]; exact h9.1, va_K.moved hW.alike hK, h9.2⟩, hS.F ht⟩) hS.2.2 d_X_chooseMode_71
          · refine lv_aload_n hx hb d_X_chooseMode_43 rfl (lv_at hl 0 rfl) ?_
            refine va_get (D := (dC, dI)) (ci := 4) (v := .ref h7) (C := R_X) (T := F_X) (N := 19) hx hb hts in_X hown hK hP 0 rfl rfl 4 (by decide) (hts (.fieldLink R_X 37 "TorqueRows" "lost" "[Z") mw_36) (fun _ h9 => h9) rfl d_X_chooseMode_44 ?_
            refine lv_iconst (v := 0) hx hb d_X_chooseMode_47 (by decide) ?_
            refine va_zald hx hb hK hP 7 2 rfl rfl (by unfold vp_in; decide) d_X_chooseMode_48 ?_
            refine lv_if_ne (tgt := 70) hx hb d_X_chooseMode_49 (by decide) (fun c_12 => ?_) (fun c_12 => ?_)
            · refine lv_iconst (v := 2) hx hb d_X_chooseMode_70 (by decide) ?_
              have h9 : va_P (dC, dI) classes [(h0, .inr (4, [.ref h1, .ref h3, .ref h5, .ref h6, .ref h7, .int bn, .int cy, .int li, .int st, .int df, .int tm, .int tq, .int tp, .int pd, .int wa, .int ai, .int fu, .int mo, .int sp])), (h1, .inr (0, [.ref h2])), (h2, .inl (kT, 320, .inl tb)), (h3, .inr (1, [.ref h4, .int wt])), (h4, .inl (kW, 6, .inl le)), (h5, .inr (2, [.int am, .int sd])), (h6, .inr (3, [.long s0, .long s1, .long s2, .long s3])), (h7, .inl (kB, 3, .inl lo))] H ∧ va_D A [(h0, .inr (4, [.ref h1, .ref h3, .ref h5, .ref h6, .ref h7, .int bn, .int cy, .int li, .int st, .int df, .int tm, .int tq, .int tp, .int pd, .int wa, .int ai, .int fu, .int mo, .int sp])), (h1, .inr (0, [.ref h2])), (h2, .inl (kT, 320, .inl tb)), (h3, .inr (1, [.ref h4, .int wt])), (h4, .inl (kW, 6, .inl le)), (h5, .inr (2, [.int am, .int sd])), (h6, .inr (3, [.long s0, .long s1, .long s2, .long s3])), (h7, .inl (kB, 3, .inl lo))] := ⟨hP, hD⟩
              exact W.iret (v := 2) hx hb hr (fun t ht hW => ⟨⟨2, (), rfl, (((if_pos c_1).trans ((if_neg c_2).trans ((if_pos c_9).trans ((if_neg c_10).trans (if_pos c_11)))))).symm, by rw [ht]; exact h9.1, va_K.moved hW.alike hK, h9.2⟩, hS.F ht⟩) hS.2.2 d_X_chooseMode_71
            · exact absurd c_12 c_2
        · refine lv_iconst (v := 3) hx hb d_X_chooseMode_34 (by decide) ?_
          have h9 : va_P (dC, dI) classes [(h0, .inr (4, [.ref h1, .ref h3, .ref h5, .ref h6, .ref h7, .int bn, .int cy, .int li, .int st, .int df, .int tm, .int tq, .int tp, .int pd, .int wa, .int ai, .int fu, .int mo, .int sp])), (h1, .inr (0, [.ref h2])), (h2, .inl (kT, 320, .inl tb)), (h3, .inr (1, [.ref h4, .int wt])), (h4, .inl (kW, 6, .inl le)), (h5, .inr (2, [.int am, .int sd])), (h6, .inr (3, [.long s0, .long s1, .long s2, .long s3])), (h7, .inl (kB, 3, .inl lo))] H ∧ va_D A [(h0, .inr (4, [.ref h1, .ref h3, .ref h5, .ref h6, .ref h7, .int bn, .int cy, .int li, .int st, .int df, .int tm, .int tq, .int tp, .int pd, .int wa, .int ai, .int fu, .int mo, .int sp])), (h1, .inr (0, [.ref h2])), (h2, .inl (kT, 320, .inl tb)), (h3, .inr (1, [.ref h4, .int wt])), (h4, .inl (kW, 6, .inl le)), (h5, .inr (2, [.int am, .int sd])), (h6, .inr (3, [.long s0, .long s1, .long s2, .long s3])), (h7, .inl (kB, 3, .inl lo))] := ⟨hP, hD⟩
          exact W.iret (v := 3) hx hb hr (fun t ht hW => ⟨⟨3, (), rfl, (((if_pos c_1).trans ((if_neg c_2).trans ((if_pos c_9).trans (if_pos c_10))))).symm, by rw [ht]; exact h9.1, va_K.moved hW.alike hK, h9.2⟩, hS.F ht⟩) hS.2.2 d_X_chooseMode_35
      · refine lv_iconst (v := 4) hx hb d_X_chooseMode_25 (by decide) ?_
        have h9 : va_P (dC, dI) classes [(h0, .inr (4, [.ref h1, .ref h3, .ref h5, .ref h6, .ref h7, .int bn, .int cy, .int li, .int st, .int df, .int tm, .int tq, .int tp, .int pd, .int wa, .int ai, .int fu, .int mo, .int sp])), (h1, .inr (0, [.ref h2])), (h2, .inl (kT, 320, .inl tb)), (h3, .inr (1, [.ref h4, .int wt])), (h4, .inl (kW, 6, .inl le)), (h5, .inr (2, [.int am, .int sd])), (h6, .inr (3, [.long s0, .long s1, .long s2, .long s3])), (h7, .inl (kB, 3, .inl lo))] H ∧ va_D A [(h0, .inr (4, [.ref h1, .ref h3, .ref h5, .ref h6, .ref h7, .int bn, .int cy, .int li, .int st, .int df, .int tm, .int tq, .int tp, .int pd, .int wa, .int ai, .int fu, .int mo, .int sp])), (h1, .inr (0, [.ref h2])), (h2, .inl (kT, 320, .inl tb)), (h3, .inr (1, [.ref h4, .int wt])), (h4, .inl (kW, 6, .inl le)), (h5, .inr (2, [.int am, .int sd])), (h6, .inr (3, [.long s0, .long s1, .long s2, .long s3])), (h7, .inl (kB, 3, .inl lo))] := ⟨hP, hD⟩
        exact W.iret (v := 4) hx hb hr (fun t ht hW => ⟨⟨4, (), rfl, (((if_pos c_1).trans ((if_neg c_2).trans (if_neg c_9)))).symm, by rw [ht]; exact h9.1, va_K.moved hW.alike hK, h9.2⟩, hS.F ht⟩) hS.2.2 d_X_chooseMode_26
set_option maxHeartbeats 4000000 in
set_option maxRecDepth 100000 in
theorem c_X_pedalWanted (l : Launch) (dC : Nat → ClassId) (dI : Nat → Nat → Nat) (h0 h1 h2 h3 h4 h5 h6 h7 : Nat) (kT kW kB : ClassId) (sz : Nat) (bn : Int32) (cy : Int32) (li : Int32) (st : Int32) (df : Int32) (tm : Int32) (tq : Int32) (tp : Int32) (pd : Int32) (wa : Int32) (ai : Int32) (fu : Int32) (mo : Int32) (sp : Int32) (tb : Nat → Int32) (wt : Int32) (le : Nat → Int32) (am : Int32) (sd : Int32) (s0 : Int64) (s1 : Int64) (s2 : Int64) (s3 : Int64) (lo : Nat → Int32) : Met l y_X_pedalWanted w_X_pedalWanted { frames := 3, cells := 0, slots := 0, locals := 73 } (va_Pc [.ref h0] (pr_ (dC, dI) [(h0, .inr (4, [.ref h1, .ref h3, .ref h5, .ref h6, .ref h7, .int bn, .int cy, .int li, .int st, .int df, .int tm, .int tq, .int tp, .int pd, .int wa, .int ai, .int fu, .int mo, .int sp])), (h1, .inr (0, [.ref h2])), (h2, .inl (kT, 320, .inl tb)), (h3, .inr (1, [.ref h4, .int wt])), (h4, .inl (kW, 6, .inl le)), (h5, .inr (2, [.int am, .int sd])), (h6, .inr (3, [.long s0, .long s1, .long s2, .long s3])), (h7, .inl (kB, 3, .inl lo))] [(kT, .int), (kW, .int), (kB, .boolean)] sz)) (va_Qi (fun r (_ : Unit) => r = (fX_pedalWanted mo tb pd sp)) (fun _ t => at_ (dC, dI) (va_A [(h0, .inr (4, [.ref h1, .ref h3, .ref h5, .ref h6, .ref h7, .int bn, .int cy, .int li, .int st, .int df, .int tm, .int tq, .int tp, .int pd, .int wa, .int ai, .int fu, .int mo, .int sp])), (h1, .inr (0, [.ref h2])), (h2, .inl (kT, 320, .inl tb)), (h3, .inr (1, [.ref h4, .int wt])), (h4, .inl (kW, 6, .inl le)), (h5, .inr (2, [.int am, .int sd])), (h6, .inr (3, [.long s0, .long s1, .long s2, .long s3])), (h7, .inl (kB, 3, .inl lo))] sz) [(h0, .inr (4, [.ref h1, .ref h3, .ref h5, .ref h6, .ref h7, .int bn, .int cy, .int li, .int st, .int df, .int tm, .int tq, .int tp, .int pd, .int wa, .int ai, .int fu, .int mo, .int sp])), (h1, .inr (0, [.ref h2])), (h2, .inl (kT, 320, .inl tb)), (h3, .inr (1, [.ref h4, .int wt])), (h4, .inl (kW, 6, .inl le)), (h5, .inr (2, [.int am, .int sd])), (h6, .inr (3, [.long s0, .long s1, .long s2, .long s3])), (h7, .inl (kB, 3, .inl lo))] [(kT, .int), (kW, .int), (kB, .boolean)] t) (va_A [(h0, .inr (4, [.ref h1, .ref h3, .ref h5, .ref h6, .ref h7, .int bn, .int cy, .int li, .int st, .int df, .int tm, .int tq, .int tp, .int pd, .int wa, .int ai, .int fu, .int mo, .int sp])), (h1, .inr (0, [.ref h2])), (h2, .inl (kT, 320, .inl tb)), (h3, .inr (1, [.ref h4, .int wt])), (h4, .inl (kW, 6, .inl le)), (h5, .inr (2, [.int am, .int sd])), (h6, .inr (3, [.long s0, .long s1, .long s2, .long s3])), (h7, .inl (kB, 3, .inl lo))] sz)) 0 0 (va_A [(h0, .inr (4, [.ref h1, .ref h3, .ref h5, .ref h6, .ref h7, .int bn, .int cy, .int li, .int st, .int df, .int tm, .int tq, .int tp, .int pd, .int wa, .int ai, .int fu, .int mo, .int sp])), (h1, .inr (0, [.ref h2])), (h2, .inl (kT, 320, .inl tb)), (h3, .inr (1, [.ref h4, .int wt])), (h4, .inl (kW, 6, .inl le)), (h5, .inr (2, [.int am, .int sd])), (h6, .inr (3, [.long s0, .long s1, .long s2, .long s3])), (h7, .inl (kB, 3, .inl lo))] sz) := by
  refine Met.ofW (cc := b_X_pedalWanted) (maxL := 2) (ret := (some .int)) (by decide) rfl ?_
  intro p e s m args below meth c s₁ B hml hv
  obtain ⟨rfl, hsz, hP, hK, hD0, hN⟩ := hv
  have hx := B.exec
  have hb := B.bytes
  have hr := B.returns
  have hts0 := atoms_spec (ws := w_X_pedalWanted) B.pre
  have hts : ∀ w ∈ wA_, w.before _ s = true := fun w h => hts0 w (List.mem_cons_of_mem _ h)
  have hown : s.vm.findClass R_X = some m.cls := findClass_of_methodNamed B.named
  have hlocks := B.notSynchronized
  subst hsz
  have hD := hD0.self (sz := s.heap.size)
  generalize hAe : va_A [(h0, .inr (4, [.ref h1, .ref h3, .ref h5, .ref h6, .ref h7, .int bn, .int cy, .int li, .int st, .int df, .int tm, .int tq, .int tp, .int pd, .int wa, .int ai, .int fu, .int mo, .int sp])), (h1, .inr (0, [.ref h2])), (h2, .inl (kT, 320, .inl tb)), (h3, .inr (1, [.ref h4, .int wt])), (h4, .inl (kW, 6, .inl le)), (h5, .inr (2, [.int am, .int sd])), (h6, .inr (3, [.long s0, .long s1, .long s2, .long s3])), (h7, .inl (kB, 3, .inl lo))] s.heap.size = A at hD ⊢
  have hA : ∀ q : Nat, s.heap.size ≤ q → A q := fun q h => by rw [← hAe]; exact Or.inr h
  have hS : va_S A s.heap s.heap [] := va_S.rf
  have hP : va_P (dC, dI) classes [(h0, .inr (4, [.ref h1, .ref h3, .ref h5, .ref h6, .ref h7, .int bn, .int cy, .int li, .int st, .int df, .int tm, .int tq, .int tp, .int pd, .int wa, .int ai, .int fu, .int mo, .int sp])), (h1, .inr (0, [.ref h2])), (h2, .inl (kT, 320, .inl tb)), (h3, .inr (1, [.ref h4, .int wt])), (h4, .inl (kW, 6, .inl le)), (h5, .inr (2, [.int am, .int sd])), (h6, .inr (3, [.long s0, .long s1, .long s2, .long s3])), (h7, .inl (kB, 3, .inl lo))] s.heap := hP
  have hl := lv_entry ([.ref h0]) (n := 2) (Nat.le_of_ble_eq_true rfl)
  rw [lg_entry_eq]
  generalize (lg_sl ([.ref h0]) ++ List.replicate (2 - (lg_sl ([.ref h0])).length) Slot.unset).toArray = ls at hl ⊢
  have hl : lv_has ls 2 [(0, .ref h0)] := hl
  have hS : va_S A s.heap s.heap [] := hS
  refine st_ hP hS (fun H locs hP hS => ?_)
  refine lv_aload_n hx hb d_X_pedalWanted_0 rfl (lv_at hl 0 rfl) ?_
  refine va_get (D := (dC, dI)) (ci := 4) (v := .int mo) (C := R_X) (T := F_X) (N := 19) hx hb hts in_X hown hK hP 0 rfl rfl 17 (by decide) (hts (.fieldLink R_X 82 "TorqueRows" "lastMode" "I") mw_33) (fun _ h9 => h9) rfl d_X_pedalWanted_1 ?_
  refine lv_iconst (v := 2) hx hb d_X_pedalWanted_4 (by decide) ?_
  refine lv_icmp_ne (tgt := 25) hx hb d_X_pedalWanted_5 (by decide) (fun c_1 => ?_) (fun c_1 => ?_)
  · refine lv_aload_n hx hb d_X_pedalWanted_25 rfl (lv_at hl 0 rfl) ?_
    refine va_get (D := (dC, dI)) (ci := 4) (v := .ref h1) (C := R_X) (T := F_X) (N := 19) hx hb hts in_X hown hK hP 0 rfl rfl 0 (by decide) (hts (.fieldLink R_X 10 "TorqueRows" "tables" "LTorqueRows$Tables;") mw_45) (fun _ h9 => h9) rfl d_X_pedalWanted_26 ?_
    refine lv_iconst (v := 0) hx hb d_X_pedalWanted_29 (by decide) ?_
    refine lv_aload_n hx hb d_X_pedalWanted_30 rfl (lv_at hl 0 rfl) ?_
    refine va_get (D := (dC, dI)) (ci := 4) (v := .int pd) (C := R_X) (T := F_X) (N := 19) hx hb hts in_X hown hK hP 0 rfl rfl 13 (by decide) (hts (.fieldLink R_X 85 "TorqueRows" "lastPedal" "I") mw_43) (fun _ h9 => h9) rfl d_X_pedalWanted_31 ?_
    refine lv_aload_n hx hb d_X_pedalWanted_34 rfl (lv_at hl 0 rfl) ?_
    refine va_get (D := (dC, dI)) (ci := 4) (v := .int sp) (C := R_X) (T := F_X) (N := 19) hx hb hts in_X hown hK hP 0 rfl rfl 18 (by decide) (hts (.fieldLink R_X 107 "TorqueRows" "lastSpeed" "I") mw_37) (fun _ h9 => h9) rfl d_X_pedalWanted_35 ?_
    have hPc := hP.sub (ws' := [(h1, .inr (0, [.ref h2])), (h2, .inl (kT, 320, .inl tb))]) [1, 2] rfl
    have hDc := hD.sub (ws' := [(h1, .inr (0, [.ref h2])), (h2, .inl (kT, 320, .inl tb))]) [1, 2] (by decide) rfl
    have hKc := hK.sub (tys' := [(kT, .int)]) [0] rfl
    have hFc := va_free (wc := [(h1, .inr (0, [.ref h2])), (h2, .inl (kT, 320, .inl tb))]) hD hS hA [1, 2] rfl
    refine ca_i (va_runVN (As := [.int 0, .int pd, .int sp]) (rest := []) ⟨hx, hb, hml, hown, hts⟩ (c_Ta_joined l dC dI h1 h2 kT H.size tb 0 pd sp (by unfold vp_in; decide)) ⟨va_cnB 3 hts (gC_ mw_46) rfl rfl rfl (hN (.methodLinkNest R_X 110 y_Ta_joined "TorqueRows") nw_0) (hts _ mw_9) (by decide +kernel) ⟨Nat.le_of_ble_eq_true rfl, Nat.le_of_ble_eq_true rfl⟩, hts _ mw_47, hts _ mw_48⟩ ⟨fb_, va_recv hKc hPc (ci := 0) (q0 := 0) rfl rfl, pu_ hPc hKc hDc hN⟩ rfl rfl hl.1 rfl (lv_room (Nat.le_of_ble_eq_true rfl)) d_X_pedalWanted_38 ⟨Nat.le_of_ble_eq_true rfl, Nat.le_of_ble_eq_true rfl⟩) hS (fun q _ h => hFc q h) hFc (fun t H locs ht hvm hB hz1 hk1 hS => ?_)
    obtain ⟨hP, hD⟩ := aft_ (wr := [(h0, .inr (4, [.ref h1, .ref h3, .ref h5, .ref h6, .ref h7, .int bn, .int cy, .int li, .int st, .int df, .int tm, .int tq, .int tp, .int pd, .int wa, .int ai, .int fu, .int mo, .int sp])), (h3, .inr (1, [.ref h4, .int wt])), (h4, .inl (kW, 6, .inl le)), (h5, .inr (2, [.int am, .int sd])), (h6, .inr (3, [.long s0, .long s1, .long s2, .long s3])), (h7, .inl (kB, 3, .inl lo))]) (w1 := [(h1, .inr (0, [.ref h2])), (h2, .inl (kT, 320, .inl tb))]) (w2 := [(h0, .inr (4, [.ref h1, .ref h3, .ref h5, .ref h6, .ref h7, .int bn, .int cy, .int li, .int st, .int df, .int tm, .int tq, .int tp, .int pd, .int wa, .int ai, .int fu, .int mo, .int sp])), (h1, .inr (0, [.ref h2])), (h2, .inl (kT, 320, .inl tb)), (h3, .inr (1, [.ref h4, .int wt])), (h4, .inl (kW, 6, .inl le)), (h5, .inr (2, [.int am, .int sd])), (h6, .inr (3, [.long s0, .long s1, .long s2, .long s3])), (h7, .inl (kB, 3, .inl lo))]) hP hD [1, 2] [0, 3, 4, 5, 6, 7] [0, 6, 7, 1, 2, 3, 4, 5] rfl rfl (by decide) (by decide) hk1 hFc hB ht rfl (by decide)
    refine lv_istore_n (lv' := [(1, .int (fTa_joined tb 0 pd sp)), (0, .ref h0)]) hx hb d_X_pedalWanted_41 rfl hl (by decide) rfl (fun ls hl => ?_)
    refine lv_aload_n hx hb d_X_pedalWanted_42 rfl (lv_at hl 1 rfl) ?_
    refine va_get (D := (dC, dI)) (ci := 4) (v := .int mo) (C := R_X) (T := F_X) (N := 19) hx hb hts in_X hown hK hP 0 rfl rfl 17 (by decide) (hts (.fieldLink R_X 82 "TorqueRows" "lastMode" "I") mw_33) (fun _ h9 => h9) rfl d_X_pedalWanted_43 ?_
    refine lv_iconst (v := 1) hx hb d_X_pedalWanted_46 (by decide) ?_
    refine lv_icmp_ne (tgt := 56) hx hb d_X_pedalWanted_47 (by decide) (fun c_2 => ?_) (fun c_2 => ?_)
    · refine lv_iload_n hx hb d_X_pedalWanted_56 rfl (lv_at hl 0 rfl) ?_
      have h9 : va_P (dC, dI) classes [(h0, .inr (4, [.ref h1, .ref h3, .ref h5, .ref h6, .ref h7, .int bn, .int cy, .int li, .int st, .int df, .int tm, .int tq, .int tp, .int pd, .int wa, .int ai, .int fu, .int mo, .int sp])), (h1, .inr (0, [.ref h2])), (h2, .inl (kT, 320, .inl tb)), (h3, .inr (1, [.ref h4, .int wt])), (h4, .inl (kW, 6, .inl le)), (h5, .inr (2, [.int am, .int sd])), (h6, .inr (3, [.long s0, .long s1, .long s2, .long s3])), (h7, .inl (kB, 3, .inl lo))] H ∧ va_D A [(h0, .inr (4, [.ref h1, .ref h3, .ref h5, .ref h6, .ref h7, .int bn, .int cy, .int li, .int st, .int df, .int tm, .int tq, .int tp, .int pd, .int wa, .int ai, .int fu, .int mo, .int sp])), (h1, .inr (0, [.ref h2])), (h2, .inl (kT, 320, .inl tb)), (h3, .inr (1, [.ref h4, .int wt])), (h4, .inl (kW, 6, .inl le)), (h5, .inr (2, [.int am, .int sd])), (h6, .inr (3, [.long s0, .long s1, .long s2, .long s3])), (h7, .inl (kB, 3, .inl lo))] := ⟨hP, hD⟩
      exact W.iret (v := (fTa_joined tb 0 pd sp)) hx hb hr (fun t ht hW => ⟨⟨(fTa_joined tb 0 pd sp), (), rfl, (((if_neg c_1).trans (if_neg c_2))).symm, by rw [ht]; exact h9.1, va_K.moved hW.alike hK, h9.2⟩, hS.F ht⟩) hS.2.2 d_X_pedalWanted_57
    · refine lv_iload_n hx hb d_X_pedalWanted_50 rfl (lv_at hl 0 rfl) ?_
      refine lv_iconst (v := 2) hx hb d_X_pedalWanted_51 (by decide) ?_
      refine lv_idiv hx hb d_X_pedalWanted_52 (by decide) ?_
      refine lv_goto (tgt := 57) hx hb d_X_pedalWanted_53 (by decide) ?_
      have h9 : va_P (dC, dI) classes [(h0, .inr (4, [.ref h1, .ref h3, .ref h5, .ref h6, .ref h7, .int bn, .int cy, .int li, .int st, .int df, .int tm, .int tq, .int tp, .int pd, .int wa, .int ai, .int fu, .int mo, .int sp])), (h1, .inr (0, [.ref h2])), (h2, .inl (kT, 320, .inl tb)), (h3, .inr (1, [.ref h4, .int wt])), (h4, .inl (kW, 6, .inl le)), (h5, .inr (2, [.int am, .int sd])), (h6, .inr (3, [.long s0, .long s1, .long s2, .long s3])), (h7, .inl (kB, 3, .inl lo))] H ∧ va_D A [(h0, .inr (4, [.ref h1, .ref h3, .ref h5, .ref h6, .ref h7, .int bn, .int cy, .int li, .int st, .int df, .int tm, .int tq, .int tp, .int pd, .int wa, .int ai, .int fu, .int mo, .int sp])), (h1, .inr (0, [.ref h2])), (h2, .inl (kT, 320, .inl tb)), (h3, .inr (1, [.ref h4, .int wt])), (h4, .inl (kW, 6, .inl le)), (h5, .inr (2, [.int am, .int sd])), (h6, .inr (3, [.long s0, .long s1, .long s2, .long s3])), (h7, .inl (kB, 3, .inl lo))] := ⟨hP, hD⟩
      exact W.iret (v := ((fTa_joined tb 0 pd sp) / 2)) hx hb hr (fun t ht hW => ⟨⟨((fTa_joined tb 0 pd sp) / 2), (), rfl, (((if_neg c_1).trans (if_pos c_2))).symm, by rw [ht]; exact h9.1, va_K.moved hW.alike hK, h9.2⟩, hS.F ht⟩) hS.2.2 d_X_pedalWanted_57
  · refine lv_aload_n hx hb d_X_pedalWanted_8 rfl (lv_at hl 0 rfl) ?_
    refine va_get (D := (dC, dI)) (ci := 4) (v := .ref h1) (C := R_X) (T := F_X) (N := 19) hx hb hts in_X hown hK hP 0 rfl rfl 0 (by decide) (hts (.fieldLink R_X 10 "TorqueRows" "tables" "LTorqueRows$Tables;") mw_45) (fun _ h9 => h9) rfl d_X_pedalWanted_9 ?_
    refine lv_iconst (v := 1) hx hb d_X_pedalWanted_12 (by decide) ?_
    refine lv_aload_n hx hb d_X_pedalWanted_13 rfl (lv_at hl 0 rfl) ?_
    refine va_get (D := (dC, dI)) (ci := 4) (v := .int pd) (C := R_X) (T := F_X) (N := 19) hx hb hts in_X hown hK hP 0 rfl rfl 13 (by decide) (hts (.fieldLink R_X 85 "TorqueRows" "lastPedal" "I") mw_43) (fun _ h9 => h9) rfl d_X_pedalWanted_14 ?_
    refine lv_aload_n hx hb d_X_pedalWanted_17 rfl (lv_at hl 0 rfl) ?_
    refine va_get (D := (dC, dI)) (ci := 4) (v := .int sp) (C := R_X) (T := F_X) (N := 19) hx hb hts in_X hown hK hP 0 rfl rfl 18 (by decide) (hts (.fieldLink R_X 107 "TorqueRows" "lastSpeed" "I") mw_37) (fun _ h9 => h9) rfl d_X_pedalWanted_18 ?_
    have hPc := hP.sub (ws' := [(h1, .inr (0, [.ref h2])), (h2, .inl (kT, 320, .inl tb))]) [1, 2] rfl
    have hDc := hD.sub (ws' := [(h1, .inr (0, [.ref h2])), (h2, .inl (kT, 320, .inl tb))]) [1, 2] (by decide) rfl
    have hKc := hK.sub (tys' := [(kT, .int)]) [0] rfl
    have hFc := va_free (wc := [(h1, .inr (0, [.ref h2])), (h2, .inl (kT, 320, .inl tb))]) hD hS hA [1, 2] rfl
    refine ca_i (va_runVN (As := [.int 1, .int pd, .int sp]) (rest := []) ⟨hx, hb, hml, hown, hts⟩ (c_Ta_joined l dC dI h1 h2 kT H.size tb 1 pd sp (by unfold vp_in; decide)) ⟨va_cnB 3 hts (gC_ mw_46) rfl rfl rfl (hN (.methodLinkNest R_X 110 y_Ta_joined "TorqueRows") nw_0) (hts _ mw_9) (by decide +kernel) ⟨Nat.le_of_ble_eq_true rfl, Nat.le_of_ble_eq_true rfl⟩, hts _ mw_47, hts _ mw_48⟩ ⟨fb_, va_recv hKc hPc (ci := 0) (q0 := 0) rfl rfl, pu_ hPc hKc hDc hN⟩ rfl rfl hl.1 rfl (lv_room (Nat.le_of_ble_eq_true rfl)) d_X_pedalWanted_21 ⟨Nat.le_of_ble_eq_true rfl, Nat.le_of_ble_eq_true rfl⟩) hS (fun q _ h => hFc q h) hFc (fun t H locs ht hvm hB hz1 hk1 hS => ?_)
    obtain ⟨hP, hD⟩ := aft_ (wr := [(h0, .inr (4, [.ref h1, .ref h3, .ref h5, .ref h6, .ref h7, .int bn, .int cy, .int li, .int st, .int df, .int tm, .int tq, .int tp, .int pd, .int wa, .int ai, .int fu, .int mo, .int sp])), (h3, .inr (1, [.ref h4, .int wt])), (h4, .inl (kW, 6, .inl le)), (h5, .inr (2, [.int am, .int sd])), (h6, .inr (3, [.long s0, .long s1, .long s2, .long s3])), (h7, .inl (kB, 3, .inl lo))]) (w1 := [(h1, .inr (0, [.ref h2])), (h2, .inl (kT, 320, .inl tb))]) (w2 := [(h0, .inr (4, [.ref h1, .ref h3, .ref h5, .ref h6, .ref h7, .int bn, .int cy, .int li, .int st, .int df, .int tm, .int tq, .int tp, .int pd, .int wa, .int ai, .int fu, .int mo, .int sp])), (h1, .inr (0, [.ref h2])), (h2, .inl (kT, 320, .inl tb)), (h3, .inr (1, [.ref h4, .int wt])), (h4, .inl (kW, 6, .inl le)), (h5, .inr (2, [.int am, .int sd])), (h6, .inr (3, [.long s0, .long s1, .long s2, .long s3])), (h7, .inl (kB, 3, .inl lo))]) hP hD [1, 2] [0, 3, 4, 5, 6, 7] [0, 6, 7, 1, 2, 3, 4, 5] rfl rfl (by decide) (by decide) hk1 hFc hB ht rfl (by decide)
    have h9 : va_P (dC, dI) classes [(h0, .inr (4, [.ref h1, .ref h3, .ref h5, .ref h6, .ref h7, .int bn, .int cy, .int li, .int st, .int df, .int tm, .int tq, .int tp, .int pd, .int wa, .int ai, .int fu, .int mo, .int sp])), (h1, .inr (0, [.ref h2])), (h2, .inl (kT, 320, .inl tb)), (h3, .inr (1, [.ref h4, .int wt])), (h4, .inl (kW, 6, .inl le)), (h5, .inr (2, [.int am, .int sd])), (h6, .inr (3, [.long s0, .long s1, .long s2, .long s3])), (h7, .inl (kB, 3, .inl lo))] H ∧ va_D A [(h0, .inr (4, [.ref h1, .ref h3, .ref h5, .ref h6, .ref h7, .int bn, .int cy, .int li, .int st, .int df, .int tm, .int tq, .int tp, .int pd, .int wa, .int ai, .int fu, .int mo, .int sp])), (h1, .inr (0, [.ref h2])), (h2, .inl (kT, 320, .inl tb)), (h3, .inr (1, [.ref h4, .int wt])), (h4, .inl (kW, 6, .inl le)), (h5, .inr (2, [.int am, .int sd])), (h6, .inr (3, [.long s0, .long s1, .long s2, .long s3])), (h7, .inl (kB, 3, .inl lo))] := ⟨hP, hD⟩
    exact W.iret (v := (fTa_joined tb 1 pd sp)) hx hb hr (fun t ht hW => ⟨⟨(fTa_joined tb 1 pd sp), (), rfl, ((if_pos c_1)).symm, by rw [ht]; exact h9.1, va_K.moved hW.alike hK, h9.2⟩, hS.F ht⟩) hS.2.2 d_X_pedalWanted_24
set_option maxHeartbeats 4000000 in
set_option maxRecDepth 100000 in
theorem c_X_chooseWanted (l : Launch) (dC : Nat → ClassId) (dI : Nat → Nat → Nat) (h0 h1 h2 h3 h4 h5 h6 h7 : Nat) (kT kW kB : ClassId) (sz : Nat) (bn : Int32) (cy : Int32) (li : Int32) (st : Int32) (df : Int32) (tm : Int32) (tq : Int32) (tp : Int32) (pd : Int32) (wa : Int32) (ai : Int32) (fu : Int32) (mo : Int32) (sp : Int32) (tb : Nat → Int32) (wt : Int32) (le : Nat → Int32) (am : Int32) (sd : Int32) (s0 : Int64) (s1 : Int64) (s2 : Int64) (s3 : Int64) (lo : Nat → Int32) : Met l y_X_chooseWanted w_X_chooseWanted { frames := 4, cells := 0, slots := 0, locals := 94 } (va_Pc [.ref h0] (pr_ (dC, dI) [(h0, .inr (4, [.ref h1, .ref h3, .ref h5, .ref h6, .ref h7, .int bn, .int cy, .int li, .int st, .int df, .int tm, .int tq, .int tp, .int pd, .int wa, .int ai, .int fu, .int mo, .int sp])), (h1, .inr (0, [.ref h2])), (h2, .inl (kT, 320, .inl tb)), (h3, .inr (1, [.ref h4, .int wt])), (h4, .inl (kW, 6, .inl le)), (h5, .inr (2, [.int am, .int sd])), (h6, .inr (3, [.long s0, .long s1, .long s2, .long s3])), (h7, .inl (kB, 3, .inl lo))] [(kT, .int), (kW, .int), (kB, .boolean)] sz)) (va_Qi (fun r (_ : Unit) => r = (fX_chooseWanted mo le tb pd sp am sd)) (fun _ t => at_ (dC, dI) (va_A [(h0, .inr (4, [.ref h1, .ref h3, .ref h5, .ref h6, .ref h7, .int bn, .int cy, .int li, .int st, .int df, .int tm, .int tq, .int tp, .int pd, .int wa, .int ai, .int fu, .int mo, .int sp])), (h1, .inr (0, [.ref h2])), (h2, .inl (kT, 320, .inl tb)), (h3, .inr (1, [.ref h4, .int wt])), (h4, .inl (kW, 6, .inl le)), (h5, .inr (2, [.int am, .int sd])), (h6, .inr (3, [.long s0, .long s1, .long s2, .long s3])), (h7, .inl (kB, 3, .inl lo))] sz) [(h0, .inr (4, [.ref h1, .ref h3, .ref h5, .ref h6, .ref h7, .int bn, .int cy, .int li, .int st, .int df, .int tm, .int tq, .int tp, .int pd, .int wa, .int ai, .int fu, .int mo, .int sp])), (h1, .inr (0, [.ref h2])), (h2, .inl (kT, 320, .inl tb)), (h3, .inr (1, [.ref h4, .int 0])), (h4, .inl (kW, 6, .inl (vWi_clear_4 le))), (h5, .inr (2, [.int am, .int (gX_chooseWanted_5_1 mo pd am sp sd)])), (h6, .inr (3, [.long s0, .long s1, .long s2, .long s3])), (h7, .inl (kB, 3, .inl lo))] [(kT, .int), (kW, .int), (kB, .boolean)] t) (va_A [(h0, .inr (4, [.ref h1, .ref h3, .ref h5, .ref h6, .ref h7, .int bn, .int cy, .int li, .int st, .int df, .int tm, .int tq, .int tp, .int pd, .int wa, .int ai, .int fu, .int mo, .int sp])), (h1, .inr (0, [.ref h2])), (h2, .inl (kT, 320, .inl tb)), (h3, .inr (1, [.ref h4, .int wt])), (h4, .inl (kW, 6, .inl le)), (h5, .inr (2, [.int am, .int sd])), (h6, .inr (3, [.long s0, .long s1, .long s2, .long s3])), (h7, .inl (kB, 3, .inl lo))] sz)) 0 0 (va_A [(h0, .inr (4, [.ref h1, .ref h3, .ref h5, .ref h6, .ref h7, .int bn, .int cy, .int li, .int st, .int df, .int tm, .int tq, .int tp, .int pd, .int wa, .int ai, .int fu, .int mo, .int sp])), (h1, .inr (0, [.ref h2])), (h2, .inl (kT, 320, .inl tb)), (h3, .inr (1, [.ref h4, .int wt])), (h4, .inl (kW, 6, .inl le)), (h5, .inr (2, [.int am, .int sd])), (h6, .inr (3, [.long s0, .long s1, .long s2, .long s3])), (h7, .inl (kB, 3, .inl lo))] sz) := by
  refine Met.ofW (cc := b_X_chooseWanted) (maxL := 2) (ret := (some .int)) (by decide) rfl ?_
  intro p e s m args below meth c s₁ B hml hv
  obtain ⟨rfl, hsz, hP, hK, hD0, hN⟩ := hv
  have hx := B.exec
  have hb := B.bytes
  have hr := B.returns
  have hts0 := atoms_spec (ws := w_X_chooseWanted) B.pre
  have hts : ∀ w ∈ wA_, w.before _ s = true := fun w h => hts0 w (List.mem_cons_of_mem _ h)
  have hown : s.vm.findClass R_X = some m.cls := findClass_of_methodNamed B.named
  have hlocks := B.notSynchronized
  subst hsz
  have hD := hD0.self (sz := s.heap.size)
  generalize hAe : va_A [(h0, .inr (4, [.ref h1, .ref h3, .ref h5, .ref h6, .ref h7, .int bn, .int cy, .int li, .int st, .int df, .int tm, .int tq, .int tp, .int pd, .int wa, .int ai, .int fu, .int mo, .int sp])), (h1, .inr (0, [.ref h2])), (h2, .inl (kT, 320, .inl tb)), (h3, .inr (1, [.ref h4, .int wt])), (h4, .inl (kW, 6, .inl le)), (h5, .inr (2, [.int am, .int sd])), (h6, .inr (3, [.long s0, .long s1, .long s2, .long s3])), (h7, .inl (kB, 3, .inl lo))] s.heap.size = A at hD ⊢
  have hA : ∀ q : Nat, s.heap.size ≤ q → A q := fun q h => by rw [← hAe]; exact Or.inr h
  have hS : va_S A s.heap s.heap [] := va_S.rf
  have hP : va_P (dC, dI) classes [(h0, .inr (4, [.ref h1, .ref h3, .ref h5, .ref h6, .ref h7, .int bn, .int cy, .int li, .int st, .int df, .int tm, .int tq, .int tp, .int pd, .int wa, .int ai, .int fu, .int mo, .int sp])), (h1, .inr (0, [.ref h2])), (h2, .inl (kT, 320, .inl tb)), (h3, .inr (1, [.ref h4, .int wt])), (h4, .inl (kW, 6, .inl le)), (h5, .inr (2, [.int am, .int sd])), (h6, .inr (3, [.long s0, .long s1, .long s2, .long s3])), (h7, .inl (kB, 3, .inl lo))] s.heap := hP
  have hl := lv_entry ([.ref h0]) (n := 2) (Nat.le_of_ble_eq_true rfl)
  rw [lg_entry_eq]
  generalize (lg_sl ([.ref h0]) ++ List.replicate (2 - (lg_sl ([.ref h0])).length) Slot.unset).toArray = ls at hl ⊢
  have hl : lv_has ls 2 [(0, .ref h0)] := hl
  have hS : va_S A s.heap s.heap [] := hS
  refine st_ hP hS (fun H locs hP hS => ?_)
  refine lv_aload_n hx hb d_X_chooseWanted_0 rfl (lv_at hl 0 rfl) ?_
  have hPc := hP.sub (ws' := [(h0, .inr (4, [.ref h1, .ref h3, .ref h5, .ref h6, .ref h7, .int bn, .int cy, .int li, .int st, .int df, .int tm, .int tq, .int tp, .int pd, .int wa, .int ai, .int fu, .int mo, .int sp])), (h1, .inr (0, [.ref h2])), (h2, .inl (kT, 320, .inl tb)), (h3, .inr (1, [.ref h4, .int wt])), (h4, .inl (kW, 6, .inl le)), (h5, .inr (2, [.int am, .int sd])), (h6, .inr (3, [.long s0, .long s1, .long s2, .long s3])), (h7, .inl (kB, 3, .inl lo))]) [0, 1, 2, 3, 4, 5, 6, 7] rfl
  have hDc := hD.sub (ws' := [(h0, .inr (4, [.ref h1, .ref h3, .ref h5, .ref h6, .ref h7, .int bn, .int cy, .int li, .int st, .int df, .int tm, .int tq, .int tp, .int pd, .int wa, .int ai, .int fu, .int mo, .int sp])), (h1, .inr (0, [.ref h2])), (h2, .inl (kT, 320, .inl tb)), (h3, .inr (1, [.ref h4, .int wt])), (h4, .inl (kW, 6, .inl le)), (h5, .inr (2, [.int am, .int sd])), (h6, .inr (3, [.long s0, .long s1, .long s2, .long s3])), (h7, .inl (kB, 3, .inl lo))]) [0, 1, 2, 3, 4, 5, 6, 7] (by decide) rfl
  have hKc := hK.sub (tys' := [(kT, .int), (kW, .int), (kB, .boolean)]) [0, 1, 2] rfl
  have hFc := va_free (wc := [(h0, .inr (4, [.ref h1, .ref h3, .ref h5, .ref h6, .ref h7, .int bn, .int cy, .int li, .int st, .int df, .int tm, .int tq, .int tp, .int pd, .int wa, .int ai, .int fu, .int mo, .int sp])), (h1, .inr (0, [.ref h2])), (h2, .inl (kT, 320, .inl tb)), (h3, .inr (1, [.ref h4, .int wt])), (h4, .inl (kW, 6, .inl le)), (h5, .inr (2, [.int am, .int sd])), (h6, .inr (3, [.long s0, .long s1, .long s2, .long s3])), (h7, .inl (kB, 3, .inl lo))]) hD hS hA [0, 1, 2, 3, 4, 5, 6, 7] rfl
  refine ca_i (va_runV (As := []) (rest := []) ⟨hx, hb, hml, hown, hts⟩ (c_X_drives l dC dI h0 h1 h2 h3 h4 h5 h6 h7 kT kW kB H.size bn cy li st df tm tq tp pd wa ai fu mo sp tb wt le am sd s0 s1 s2 s3 lo) (cwV 0 hts (gV_ mw_55 mw_53 mw_54 mw_52 mw_51) rfl rfl rfl (by decide +kernel) ⟨Nat.le_of_ble_eq_true rfl, Nat.le_of_ble_eq_true rfl⟩) ⟨fb_, va_recv hKc hPc (ci := 4) (q0 := 0) rfl rfl, pu_ hPc hKc hDc hN⟩ rfl rfl hl.1 rfl (lv_room (Nat.le_of_ble_eq_true rfl)) d_X_chooseWanted_1 ⟨Nat.le_of_ble_eq_true rfl, Nat.le_of_ble_eq_true rfl⟩) hS (fun q _ h => hFc q h) hFc (fun t H locs ht hvm hB hz1 hk1 hS => ?_)
  obtain ⟨hP, hD⟩ := aft_ (wr := []) (w1 := [(h0, .inr (4, [.ref h1, .ref h3, .ref h5, .ref h6, .ref h7, .int bn, .int cy, .int li, .int st, .int df, .int tm, .int tq, .int tp, .int pd, .int wa, .int ai, .int fu, .int mo, .int sp])), (h1, .inr (0, [.ref h2])), (h2, .inl (kT, 320, .inl tb)), (h3, .inr (1, [.ref h4, .int wt])), (h4, .inl (kW, 6, .inl le)), (h5, .inr (2, [.int am, .int sd])), (h6, .inr (3, [.long s0, .long s1, .long s2, .long s3])), (h7, .inl (kB, 3, .inl lo))]) (w2 := [(h0, .inr (4, [.ref h1, .ref h3, .ref h5, .ref h6, .ref h7, .int bn, .int cy, .int li, .int st, .int df, .int tm, .int tq, .int tp, .int pd, .int wa, .int ai, .int fu, .int mo, .int sp])), (h1, .inr (0, [.ref h2])), (h2, .inl (kT, 320, .inl tb)), (h3, .inr (1, [.ref h4, .int wt])), (h4, .inl (kW, 6, .inl le)), (h5, .inr (2, [.int am, .int sd])), (h6, .inr (3, [.long s0, .long s1, .long s2, .long s3])), (h7, .inl (kB, 3, .inl lo))]) hP hD [0, 1, 2, 3, 4, 5, 6, 7] [] [0, 1, 2, 3, 4, 5, 6, 7] rfl rfl (by decide) (by decide) hk1 hFc hB ht rfl (by decide)
  refine jn 2 [(0, .ref h0)] [(h0, .inr (4, [.ref h1, .ref h3, .ref h5, .ref h6, .ref h7, .int bn, .int cy, .int li, .int st, .int df, .int tm, .int tq, .int tp, .int pd, .int wa, .int ai, .int fu, .int mo, .int sp])), (h1, .inr (0, [.ref h2])), (h2, .inl (kT, 320, .inl tb)), (h3, .inr (1, [.ref h4, .int wt])), (h4, .inl (kW, 6, .inl le)), (h5, .inr (2, [.int am, .int sd])), (h6, .inr (3, [.long s0, .long s1, .long s2, .long s3])), (h7, .inl (kB, 3, .inl lo))] 22 [.int (vX_chooseWanted_0 mo le tb pd sp)] (D := (dC, dI)) (A := A) (H0 := s.heap) (fun ls H locs hl hP hD hS => ?_) (fun J_2 => ?_)
  · refine lv_istore_n (lv' := [(1, .int (vX_chooseWanted_0 mo le tb pd sp)), (0, .ref h0)]) hx hb d_X_chooseWanted_22 rfl hl (by decide) rfl (fun ls hl => ?_)
    refine lv_aload_n hx hb d_X_chooseWanted_23 rfl (lv_at hl 1 rfl) ?_
    refine va_get (D := (dC, dI)) (ci := 4) (v := .ref h3) (C := R_X) (T := F_X) (N := 19) hx hb hts in_X hown hK hP 0 rfl rfl 1 (by decide) (hts (.fieldLink R_X 19 "TorqueRows" "wishes" "LTorqueRows$Wishes;") mw_49) (fun _ h9 => h9) rfl d_X_chooseWanted_24 ?_
    have hPc := hP.sub (ws' := [(h3, .inr (1, [.ref h4, .int wt])), (h4, .inl (kW, 6, .inl le))]) [3, 4] rfl
    have hDc := hD.sub (ws' := [(h3, .inr (1, [.ref h4, .int wt])), (h4, .inl (kW, 6, .inl le))]) [3, 4] (by decide) rfl
    have hKc := hK.sub (tys' := [(kW, .int)]) [1] rfl
    have hFc := va_free (wc := [(h3, .inr (1, [.ref h4, .int wt])), (h4, .inl (kW, 6, .inl le))]) hD hS hA [3, 4] rfl
    refine ca_v (va_runVN (As := []) (rest := []) ⟨hx, hb, hml, hown, hts⟩ (c_Wi_clear l dC dI h3 h4 kW H.size wt le) ⟨va_cnB 0 hts (gC_ mw_56) rfl rfl rfl (hN (.methodLinkNest R_X 198 y_Wi_clear "TorqueRows") nw_1) (hts _ mw_57) (by decide +kernel) ⟨Nat.le_of_ble_eq_true rfl, Nat.le_of_ble_eq_true rfl⟩, hts _ mw_58, hts _ mw_59⟩ ⟨fb_, va_recv hKc hPc (ci := 1) (q0 := 0) rfl rfl, pu_ hPc hKc hDc hN⟩ rfl rfl hl.1 rfl (lv_room (Nat.le_of_ble_eq_true rfl)) d_X_chooseWanted_27 ⟨Nat.le_of_ble_eq_true rfl, Nat.le_of_ble_eq_true rfl⟩) hS (fun q _ h => hFc q h) hFc (fun t H locs ht hvm hB hz1 hk1 hS => ?_)
    obtain ⟨hP, hD⟩ := aft_ (wr := [(h0, .inr (4, [.ref h1, .ref h3, .ref h5, .ref h6, .ref h7, .int bn, .int cy, .int li, .int st, .int df, .int tm, .int tq, .int tp, .int pd, .int wa, .int ai, .int fu, .int mo, .int sp])), (h1, .inr (0, [.ref h2])), (h2, .inl (kT, 320, .inl tb)), (h5, .inr (2, [.int am, .int sd])), (h6, .inr (3, [.long s0, .long s1, .long s2, .long s3])), (h7, .inl (kB, 3, .inl lo))]) (w1 := [(h3, .inr (1, [.ref h4, .int 0])), (h4, .inl (kW, 6, .inl (vWi_clear_4 le)))]) (w2 := [(h0, .inr (4, [.ref h1, .ref h3, .ref h5, .ref h6, .ref h7, .int bn, .int cy, .int li, .int st, .int df, .int tm, .int tq, .int tp, .int pd, .int wa, .int ai, .int fu, .int mo, .int sp])), (h1, .inr (0, [.ref h2])), (h2, .inl (kT, 320, .inl tb)), (h3, .inr (1, [.ref h4, .int 0])), (h4, .inl (kW, 6, .inl (vWi_clear_4 le))), (h5, .inr (2, [.int am, .int sd])), (h6, .inr (3, [.long s0, .long s1, .long s2, .long s3])), (h7, .inl (kB, 3, .inl lo))]) hP hD [3, 4] [0, 1, 2, 5, 6, 7] [0, 1, 2, 6, 7, 3, 4, 5] rfl rfl (by decide) (by decide) hk1 hFc hB ht rfl (by decide)
    refine lv_aload_n hx hb d_X_chooseWanted_30 rfl (lv_at hl 1 rfl) ?_
    have hPc := hP.sub (ws' := [(h0, .inr (4, [.ref h1, .ref h3, .ref h5, .ref h6, .ref h7, .int bn, .int cy, .int li, .int st, .int df, .int tm, .int tq, .int tp, .int pd, .int wa, .int ai, .int fu, .int mo, .int sp])), (h1, .inr (0, [.ref h2])), (h2, .inl (kT, 320, .inl tb)), (h3, .inr (1, [.ref h4, .int 0])), (h4, .inl (kW, 6, .inl (vWi_clear_4 le))), (h5, .inr (2, [.int am, .int sd])), (h6, .inr (3, [.long s0, .long s1, .long s2, .long s3])), (h7, .inl (kB, 3, .inl lo))]) [0, 1, 2, 3, 4, 5, 6, 7] rfl
    have hDc := hD.sub (ws' := [(h0, .inr (4, [.ref h1, .ref h3, .ref h5, .ref h6, .ref h7, .int bn, .int cy, .int li, .int st, .int df, .int tm, .int tq, .int tp, .int pd, .int wa, .int ai, .int fu, .int mo, .int sp])), (h1, .inr (0, [.ref h2])), (h2, .inl (kT, 320, .inl tb)), (h3, .inr (1, [.ref h4, .int 0])), (h4, .inl (kW, 6, .inl (vWi_clear_4 le))), (h5, .inr (2, [.int am, .int sd])), (h6, .inr (3, [.long s0, .long s1, .long s2, .long s3])), (h7, .inl (kB, 3, .inl lo))]) [0, 1, 2, 3, 4, 5, 6, 7] (by decide) rfl
    have hKc := hK.sub (tys' := [(kT, .int), (kW, .int), (kB, .boolean)]) [0, 1, 2] rfl
    have hFc := va_free (wc := [(h0, .inr (4, [.ref h1, .ref h3, .ref h5, .ref h6, .ref h7, .int bn, .int cy, .int li, .int st, .int df, .int tm, .int tq, .int tp, .int pd, .int wa, .int ai, .int fu, .int mo, .int sp])), (h1, .inr (0, [.ref h2])), (h2, .inl (kT, 320, .inl tb)), (h3, .inr (1, [.ref h4, .int 0])), (h4, .inl (kW, 6, .inl (vWi_clear_4 le))), (h5, .inr (2, [.int am, .int sd])), (h6, .inr (3, [.long s0, .long s1, .long s2, .long s3])), (h7, .inl (kB, 3, .inl lo))]) hD hS hA [0, 1, 2, 3, 4, 5, 6, 7] rfl
    refine ca_i (va_runV (As := []) (rest := []) ⟨hx, hb, hml, hown, hts⟩ (c_X_drives l dC dI h0 h1 h2 h3 h4 h5 h6 h7 kT kW kB H.size bn cy li st df tm tq tp pd wa ai fu mo sp tb 0 (vWi_clear_4 le) am sd s0 s1 s2 s3 lo) (cwV 0 hts (gV_ mw_55 mw_53 mw_54 mw_52 mw_51) rfl rfl rfl (by decide +kernel) ⟨Nat.le_of_ble_eq_true rfl, Nat.le_of_ble_eq_true rfl⟩) ⟨fb_, va_recv hKc hPc (ci := 4) (q0 := 0) rfl rfl, pu_ hPc hKc hDc hN⟩ rfl rfl hl.1 rfl (lv_room (Nat.le_of_ble_eq_true rfl)) d_X_chooseWanted_31 ⟨Nat.le_of_ble_eq_true rfl, Nat.le_of_ble_eq_true rfl⟩) hS (fun q _ h => hFc q h) hFc (fun t H locs ht hvm hB hz1 hk1 hS => ?_)
    obtain ⟨hP, hD⟩ := aft_ (wr := []) (w1 := [(h0, .inr (4, [.ref h1, .ref h3, .ref h5, .ref h6, .ref h7, .int bn, .int cy, .int li, .int st, .int df, .int tm, .int tq, .int tp, .int pd, .int wa, .int ai, .int fu, .int mo, .int sp])), (h1, .inr (0, [.ref h2])), (h2, .inl (kT, 320, .inl tb)), (h3, .inr (1, [.ref h4, .int 0])), (h4, .inl (kW, 6, .inl (vWi_clear_4 le))), (h5, .inr (2, [.int am, .int sd])), (h6, .inr (3, [.long s0, .long s1, .long s2, .long s3])), (h7, .inl (kB, 3, .inl lo))]) (w2 := [(h0, .inr (4, [.ref h1, .ref h3, .ref h5, .ref h6, .ref h7, .int bn, .int cy, .int li, .int st, .int df, .int tm, .int tq, .int tp, .int pd, .int wa, .int ai, .int fu, .int mo, .int sp])), (h1, .inr (0, [.ref h2])), (h2, .inl (kT, 320, .inl tb)), (h3, .inr (1, [.ref h4, .int 0])), (h4, .inl (kW, 6, .inl (vWi_clear_4 le))), (h5, .inr (2, [.int am, .int sd])), (h6, .inr (3, [.long s0, .long s1, .long s2, .long s3])), (h7, .inl (kB, 3, .inl lo))]) hP hD [0, 1, 2, 3, 4, 5, 6, 7] [] [0, 1, 2, 3, 4, 5, 6, 7] rfl rfl (by decide) (by decide) hk1 hFc hB ht rfl (by decide)
    refine lv_if_eq (tgt := 44) hx hb d_X_chooseWanted_34 (by decide) (fun c_3 => ?_) (fun c_3 => ?_)
    · refine lv_aload_n hx hb d_X_chooseWanted_44 rfl (lv_at hl 1 rfl) ?_
      refine va_get (D := (dC, dI)) (ci := 4) (v := .ref h5) (C := R_X) (T := F_X) (N := 19) hx hb hts in_X hown hK hP 0 rfl rfl 2 (by decide) (hts (.fieldLink R_X 26 "TorqueRows" "idling" "LTorqueRows$Idling;") mw_50) (fun _ h9 => h9) rfl d_X_chooseWanted_45 ?_
      have hPc := hP.sub (ws' := [(h5, .inr (2, [.int am, .int sd]))]) [5] rfl
      have hDc := hD.sub (ws' := [(h5, .inr (2, [.int am, .int sd]))]) [5] (by decide) rfl
      have hKc := hK.sub (tys' := []) [] rfl
      have hFc := va_free (wc := [(h5, .inr (2, [.int am, .int sd]))]) hD hS hA [5] rfl
      refine ca_v (va_runVN (As := []) (rest := []) ⟨hx, hb, hml, hown, hts⟩ (c_Id_forget l dC dI h5 H.size am sd) ⟨va_cnB 0 hts (gC_ mw_60) rfl rfl rfl (hN (.methodLinkNest R_X 201 y_Id_forget "TorqueRows") nw_2) (hts _ mw_61) (by decide +kernel) ⟨Nat.le_of_ble_eq_true rfl, Nat.le_of_ble_eq_true rfl⟩, hts _ mw_62, hts _ mw_63⟩ ⟨fb_, va_recv hKc hPc (ci := 2) (q0 := 0) rfl rfl, pu_ hPc hKc hDc hN⟩ rfl rfl hl.1 rfl (lv_room (Nat.le_of_ble_eq_true rfl)) d_X_chooseWanted_48 ⟨Nat.le_of_ble_eq_true rfl, Nat.le_of_ble_eq_true rfl⟩) hS (fun q _ h => hFc q h) hFc (fun t H locs ht hvm hB hz1 hk1 hS => ?_)
      obtain ⟨hP, hD⟩ := aft_ (wr := [(h0, .inr (4, [.ref h1, .ref h3, .ref h5, .ref h6, .ref h7, .int bn, .int cy, .int li, .int st, .int df, .int tm, .int tq, .int tp, .int pd, .int wa, .int ai, .int fu, .int mo, .int sp])), (h1, .inr (0, [.ref h2])), (h2, .inl (kT, 320, .inl tb)), (h3, .inr (1, [.ref h4, .int 0])), (h4, .inl (kW, 6, .inl (vWi_clear_4 le))), (h6, .inr (3, [.long s0, .long s1, .long s2, .long s3])), (h7, .inl (kB, 3, .inl lo))]) (w1 := [(h5, .inr (2, [.int am, .int 0]))]) (w2 := [(h0, .inr (4, [.ref h1, .ref h3, .ref h5, .ref h6, .ref h7, .int bn, .int cy, .int li, .int st, .int df, .int tm, .int tq, .int tp, .int pd, .int wa, .int ai, .int fu, .int mo, .int sp])), (h1, .inr (0, [.ref h2])), (h2, .inl (kT, 320, .inl tb)), (h3, .inr (1, [.ref h4, .int 0])), (h4, .inl (kW, 6, .inl (vWi_clear_4 le))), (h5, .inr (2, [.int am, .int 0])), (h6, .inr (3, [.long s0, .long s1, .long s2, .long s3])), (h7, .inl (kB, 3, .inl lo))]) hP hD [5] [0, 1, 2, 3, 4, 6, 7] [0, 1, 2, 3, 4, 7, 5, 6] rfl rfl (by decide) (by decide) hk1 hFc hB ht rfl (by decide)
      refine lv_iload_n hx hb d_X_chooseWanted_51 rfl (lv_at hl 0 rfl) ?_
      have h9 : va_P (dC, dI) classes [(h0, .inr (4, [.ref h1, .ref h3, .ref h5, .ref h6, .ref h7, .int bn, .int cy, .int li, .int st, .int df, .int tm, .int tq, .int tp, .int pd, .int wa, .int ai, .int fu, .int mo, .int sp])), (h1, .inr (0, [.ref h2])), (h2, .inl (kT, 320, .inl tb)), (h3, .inr (1, [.ref h4, .int 0])), (h4, .inl (kW, 6, .inl (vWi_clear_4 le))), (h5, .inr (2, [.int am, .int (gX_chooseWanted_5_1 mo pd am sp sd)])), (h6, .inr (3, [.long s0, .long s1, .long s2, .long s3])), (h7, .inl (kB, 3, .inl lo))] H ∧ va_D A [(h0, .inr (4, [.ref h1, .ref h3, .ref h5, .ref h6, .ref h7, .int bn, .int cy, .int li, .int st, .int df, .int tm, .int tq, .int tp, .int pd, .int wa, .int ai, .int fu, .int mo, .int sp])), (h1, .inr (0, [.ref h2])), (h2, .inl (kT, 320, .inl tb)), (h3, .inr (1, [.ref h4, .int 0])), (h4, .inl (kW, 6, .inl (vWi_clear_4 le))), (h5, .inr (2, [.int am, .int (gX_chooseWanted_5_1 mo pd am sp sd)])), (h6, .inr (3, [.long s0, .long s1, .long s2, .long s3])), (h7, .inl (kB, 3, .inl lo))] := by rw [show (gX_chooseWanted_5_1 mo pd am sp sd) = 0 from (if_pos c_3)]; exact ⟨hP, hD⟩
      exact W.iret (v := (vX_chooseWanted_0 mo le tb pd sp)) hx hb hr (fun t ht hW => ⟨⟨(vX_chooseWanted_0 mo le tb pd sp), (), rfl, ((if_pos c_3)).symm, by rw [ht]; exact h9.1, va_K.moved hW.alike hK, h9.2⟩, hS.F ht⟩) hS.2.2 d_X_chooseWanted_52
    · refine lv_aload_n hx hb d_X_chooseWanted_37 rfl (lv_at hl 1 rfl) ?_
      refine va_get (D := (dC, dI)) (ci := 4) (v := .int pd) (C := R_X) (T := F_X) (N := 19) hx hb hts in_X hown hK hP 0 rfl rfl 13 (by decide) (hts (.fieldLink R_X 85 "TorqueRows" "lastPedal" "I") mw_43) (fun _ h9 => h9) rfl d_X_chooseWanted_38 ?_
      refine lv_if_le (tgt := 53) hx hb d_X_chooseWanted_41 (by decide) (fun c_4 => ?_) (fun c_4 => ?_)
      · refine lv_iload_n hx hb d_X_chooseWanted_53 rfl (lv_at hl 0 rfl) ?_
        refine lv_aload_n hx hb d_X_chooseWanted_54 rfl (lv_at hl 1 rfl) ?_
        refine va_get (D := (dC, dI)) (ci := 4) (v := .ref h5) (C := R_X) (T := F_X) (N := 19) hx hb hts in_X hown hK hP 0 rfl rfl 2 (by decide) (hts (.fieldLink R_X 26 "TorqueRows" "idling" "LTorqueRows$Idling;") mw_50) (fun _ h9 => h9) rfl d_X_chooseWanted_55 ?_
        refine lv_aload_n hx hb d_X_chooseWanted_58 rfl (lv_at hl 1 rfl) ?_
        refine va_get (D := (dC, dI)) (ci := 4) (v := .int sp) (C := R_X) (T := F_X) (N := 19) hx hb hts in_X hown hK hP 0 rfl rfl 18 (by decide) (hts (.fieldLink R_X 107 "TorqueRows" "lastSpeed" "I") mw_37) (fun _ h9 => h9) rfl d_X_chooseWanted_59 ?_
        have hPc := hP.sub (ws' := [(h5, .inr (2, [.int am, .int sd]))]) [5] rfl
        have hDc := hD.sub (ws' := [(h5, .inr (2, [.int am, .int sd]))]) [5] (by decide) rfl
        have hKc := hK.sub (tys' := []) [] rfl
        have hFc := va_free (wc := [(h5, .inr (2, [.int am, .int sd]))]) hD hS hA [5] rfl
        refine ca_i (va_runVN (As := [.int sp]) (rest := [.int (vX_chooseWanted_0 mo le tb pd sp)]) ⟨hx, hb, hml, hown, hts⟩ (c_Id_torqueAt l dC dI h5 H.size am sd sp) ⟨va_cnB 1 hts (gC_ mw_64) rfl rfl rfl (hN (.methodLinkNest R_X 204 y_Id_torqueAt "TorqueRows") nw_3) (hts _ mw_61) (by decide +kernel) ⟨Nat.le_of_ble_eq_true rfl, Nat.le_of_ble_eq_true rfl⟩, hts _ mw_65, hts _ mw_66⟩ ⟨fb_, va_recv hKc hPc (ci := 2) (q0 := 0) rfl rfl, pu_ hPc hKc hDc hN⟩ rfl rfl hl.1 rfl (lv_room (Nat.le_of_ble_eq_true rfl)) d_X_chooseWanted_62 ⟨Nat.le_of_ble_eq_true rfl, Nat.le_of_ble_eq_true rfl⟩) hS (fun q _ h => hFc q h) hFc (fun t H locs ht hvm hB hz1 hk1 hS => ?_)
        obtain ⟨hP, hD⟩ := aft_ (wr := [(h0, .inr (4, [.ref h1, .ref h3, .ref h5, .ref h6, .ref h7, .int bn, .int cy, .int li, .int st, .int df, .int tm, .int tq, .int tp, .int pd, .int wa, .int ai, .int fu, .int mo, .int sp])), (h1, .inr (0, [.ref h2])), (h2, .inl (kT, 320, .inl tb)), (h3, .inr (1, [.ref h4, .int 0])), (h4, .inl (kW, 6, .inl (vWi_clear_4 le))), (h6, .inr (3, [.long s0, .long s1, .long s2, .long s3])), (h7, .inl (kB, 3, .inl lo))]) (w1 := [(h5, .inr (2, [.int am, .int (vId_torqueAt_1 am sp sd)]))]) (w2 := [(h0, .inr (4, [.ref h1, .ref h3, .ref h5, .ref h6, .ref h7, .int bn, .int cy, .int li, .int st, .int df, .int tm, .int tq, .int tp, .int pd, .int wa, .int ai, .int fu, .int mo, .int sp])), (h1, .inr (0, [.ref h2])), (h2, .inl (kT, 320, .inl tb)), (h3, .inr (1, [.ref h4, .int 0])), (h4, .inl (kW, 6, .inl (vWi_clear_4 le))), (h5, .inr (2, [.int am, .int (vId_torqueAt_1 am sp sd)])), (h6, .inr (3, [.long s0, .long s1, .long s2, .long s3])), (h7, .inl (kB, 3, .inl lo))]) hP hD [5] [0, 1, 2, 3, 4, 6, 7] [0, 1, 2, 3, 4, 7, 5, 6] rfl rfl (by decide) (by decide) hk1 hFc hB ht rfl (by decide)
        refine va_mmax hx hb (by rw [hml]; exact hl.1.symm) hown (hts (.methodLink R_X 207 Lib.Math.max.name) mw_32) (hts (.static Lib.Math.max.name) mw_5) (hts (.initialized "java/lang/Math") mw_2) (hts (.code Lib.Math.max.name Lib.Math.max.code 2 (some .int)) mw_6) (Nat.le_of_ble_eq_true rfl) (Nat.le_of_ble_eq_true rfl) (Nat.le_of_ble_eq_true rfl) (Nat.le_of_ble_eq_true rfl) d_X_chooseWanted_65 ?_
        refine tpi (y := (mx (vX_chooseWanted_0 mo le tb pd sp) (fId_torqueAt am sp sd))) rfl ?_
        have h9 : va_P (dC, dI) classes [(h0, .inr (4, [.ref h1, .ref h3, .ref h5, .ref h6, .ref h7, .int bn, .int cy, .int li, .int st, .int df, .int tm, .int tq, .int tp, .int pd, .int wa, .int ai, .int fu, .int mo, .int sp])), (h1, .inr (0, [.ref h2])), (h2, .inl (kT, 320, .inl tb)), (h3, .inr (1, [.ref h4, .int 0])), (h4, .inl (kW, 6, .inl (vWi_clear_4 le))), (h5, .inr (2, [.int am, .int (gX_chooseWanted_5_1 mo pd am sp sd)])), (h6, .inr (3, [.long s0, .long s1, .long s2, .long s3])), (h7, .inl (kB, 3, .inl lo))] H ∧ va_D A [(h0, .inr (4, [.ref h1, .ref h3, .ref h5, .ref h6, .ref h7, .int bn, .int cy, .int li, .int st, .int df, .int tm, .int tq, .int tp, .int pd, .int wa, .int ai, .int fu, .int mo, .int sp])), (h1, .inr (0, [.ref h2])), (h2, .inl (kT, 320, .inl tb)), (h3, .inr (1, [.ref h4, .int 0])), (h4, .inl (kW, 6, .inl (vWi_clear_4 le))), (h5, .inr (2, [.int am, .int (gX_chooseWanted_5_1 mo pd am sp sd)])), (h6, .inr (3, [.long s0, .long s1, .long s2, .long s3])), (h7, .inl (kB, 3, .inl lo))] := by rw [show (gX_chooseWanted_5_1 mo pd am sp sd) = (vId_torqueAt_1 am sp sd) from ((if_neg c_3).trans (if_pos c_4))]; exact ⟨hP, hD⟩
        exact W.iret (v := (mx (vX_chooseWanted_0 mo le tb pd sp) (fId_torqueAt am sp sd))) hx hb hr (fun t ht hW => ⟨⟨(mx (vX_chooseWanted_0 mo le tb pd sp) (fId_torqueAt am sp sd)), (), rfl, (((if_neg c_3).trans (if_pos c_4))).symm, by rw [ht]; exact h9.1, va_K.moved hW.alike hK, h9.2⟩, hS.F ht⟩) hS.2.2 d_X_chooseWanted_68
      · refine lv_aload_n hx hb d_X_chooseWanted_44 rfl (lv_at hl 1 rfl) ?_
        refine va_get (D := (dC, dI)) (ci := 4) (v := .ref h5) (C := R_X) (T := F_X) (N := 19) hx hb hts in_X hown hK hP 0 rfl rfl 2 (by decide) (hts (.fieldLink R_X 26 "TorqueRows" "idling" "LTorqueRows$Idling;") mw_50) (fun _ h9 => h9) rfl d_X_chooseWanted_45 ?_
        have hPc := hP.sub (ws' := [(h5, .inr (2, [.int am, .int sd]))]) [5] rfl
        have hDc := hD.sub (ws' := [(h5, .inr (2, [.int am, .int sd]))]) [5] (by decide) rfl
        have hKc := hK.sub (tys' := []) [] rfl
        have hFc := va_free (wc := [(h5, .inr (2, [.int am, .int sd]))]) hD hS hA [5] rfl
        refine ca_v (va_runVN (As := []) (rest := []) ⟨hx, hb, hml, hown, hts⟩ (c_Id_forget l dC dI h5 H.size am sd) ⟨va_cnB 0 hts (gC_ mw_60) rfl rfl rfl (hN (.methodLinkNest R_X 201 y_Id_forget "TorqueRows") nw_2) (hts _ mw_61) (by decide +kernel) ⟨Nat.le_of_ble_eq_true rfl, Nat.le_of_ble_eq_true rfl⟩, hts _ mw_62, hts _ mw_63⟩ ⟨fb_, va_recv hKc hPc (ci := 2) (q0 := 0) rfl rfl, pu_ hPc hKc hDc hN⟩ rfl rfl hl.1 rfl (lv_room (Nat.le_of_ble_eq_true rfl)) d_X_chooseWanted_48 ⟨Nat.le_of_ble_eq_true rfl, Nat.le_of_ble_eq_true rfl⟩) hS (fun q _ h => hFc q h) hFc (fun t H locs ht hvm hB hz1 hk1 hS => ?_)
        obtain ⟨hP, hD⟩ := aft_ (wr := [(h0, .inr (4, [.ref h1, .ref h3, .ref h5, .ref h6, .ref h7, .int bn, .int cy, .int li, .int st, .int df, .int tm, .int tq, .int tp, .int pd, .int wa, .int ai, .int fu, .int mo, .int sp])), (h1, .inr (0, [.ref h2])), (h2, .inl (kT, 320, .inl tb)), (h3, .inr (1, [.ref h4, .int 0])), (h4, .inl (kW, 6, .inl (vWi_clear_4 le))), (h6, .inr (3, [.long s0, .long s1, .long s2, .long s3])), (h7, .inl (kB, 3, .inl lo))]) (w1 := [(h5, .inr (2, [.int am, .int 0]))]) (w2 := [(h0, .inr (4, [.ref h1, .ref h3, .ref h5, .ref h6, .ref h7, .int bn, .int cy, .int li, .int st, .int df, .int tm, .int tq, .int tp, .int pd, .int wa, .int ai, .int fu, .int mo, .int sp])), (h1, .inr (0, [.ref h2])), (h2, .inl (kT, 320, .inl tb)), (h3, .inr (1, [.ref h4, .int 0])), (h4, .inl (kW, 6, .inl (vWi_clear_4 le))), (h5, .inr (2, [.int am, .int 0])), (h6, .inr (3, [.long s0, .long s1, .long s2, .long s3])), (h7, .inl (kB, 3, .inl lo))]) hP hD [5] [0, 1, 2, 3, 4, 6, 7] [0, 1, 2, 3, 4, 7, 5, 6] rfl rfl (by decide) (by decide) hk1 hFc hB ht rfl (by decide)
        refine lv_iload_n hx hb d_X_chooseWanted_51 rfl (lv_at hl 0 rfl) ?_
        have h9 : va_P (dC, dI) classes [(h0, .inr (4, [.ref h1, .ref h3, .ref h5, .ref h6, .ref h7, .int bn, .int cy, .int li, .int st, .int df, .int tm, .int tq, .int tp, .int pd, .int wa, .int ai, .int fu, .int mo, .int sp])), (h1, .inr (0, [.ref h2])), (h2, .inl (kT, 320, .inl tb)), (h3, .inr (1, [.ref h4, .int 0])), (h4, .inl (kW, 6, .inl (vWi_clear_4 le))), (h5, .inr (2, [.int am, .int (gX_chooseWanted_5_1 mo pd am sp sd)])), (h6, .inr (3, [.long s0, .long s1, .long s2, .long s3])), (h7, .inl (kB, 3, .inl lo))] H ∧ va_D A [(h0, .inr (4, [.ref h1, .ref h3, .ref h5, .ref h6, .ref h7, .int bn, .int cy, .int li, .int st, .int df, .int tm, .int tq, .int tp, .int pd, .int wa, .int ai, .int fu, .int mo, .int sp])), (h1, .inr (0, [.ref h2])), (h2, .inl (kT, 320, .inl tb)), (h3, .inr (1, [.ref h4, .int 0])), (h4, .inl (kW, 6, .inl (vWi_clear_4 le))), (h5, .inr (2, [.int am, .int (gX_chooseWanted_5_1 mo pd am sp sd)])), (h6, .inr (3, [.long s0, .long s1, .long s2, .long s3])), (h7, .inl (kB, 3, .inl lo))] := by rw [show (gX_chooseWanted_5_1 mo pd am sp sd) = 0 from ((if_neg c_3).trans (if_neg c_4))]; exact ⟨hP, hD⟩
        exact W.iret (v := (vX_chooseWanted_0 mo le tb pd sp)) hx hb hr (fun t ht hW => ⟨⟨(vX_chooseWanted_0 mo le tb pd sp), (), rfl, (((if_neg c_3).trans (if_neg c_4))).symm, by rw [ht]; exact h9.1, va_K.moved hW.alike hK, h9.2⟩, hS.F ht⟩) hS.2.2 d_X_chooseWanted_52
  · refine lv_if_eq (tgt := 21) hx hb d_X_chooseWanted_4 (by decide) (fun c_1 => ?_) (fun c_1 => ?_)
    · refine lv_iconst (v := 0) hx hb d_X_chooseWanted_21 (by decide) ?_
      refine W.eq (g2 := F0 m 22 ls [.int (vX_chooseWanted_0 mo le tb pd sp)]) (by rw [show (vX_chooseWanted_0 mo le tb pd sp) = 0 from (if_pos c_1)]) ?_
      exact J_2 _ _ _ (lv_sub hl [0] rfl) hP hD hS
    · refine lv_aload_n hx hb d_X_chooseWanted_7 rfl (lv_at hl 0 rfl) ?_
      refine va_get (D := (dC, dI)) (ci := 4) (v := .ref h3) (C := R_X) (T := F_X) (N := 19) hx hb hts in_X hown hK hP 0 rfl rfl 1 (by decide) (hts (.fieldLink R_X 19 "TorqueRows" "wishes" "LTorqueRows$Wishes;") mw_49) (fun _ h9 => h9) rfl d_X_chooseWanted_8 ?_
      refine lv_aload_n hx hb d_X_chooseWanted_11 rfl (lv_at hl 0 rfl) ?_
      have hPc := hP.sub (ws' := [(h0, .inr (4, [.ref h1, .ref h3, .ref h5, .ref h6, .ref h7, .int bn, .int cy, .int li, .int st, .int df, .int tm, .int tq, .int tp, .int pd, .int wa, .int ai, .int fu, .int mo, .int sp])), (h1, .inr (0, [.ref h2])), (h2, .inl (kT, 320, .inl tb)), (h3, .inr (1, [.ref h4, .int wt])), (h4, .inl (kW, 6, .inl le)), (h5, .inr (2, [.int am, .int sd])), (h6, .inr (3, [.long s0, .long s1, .long s2, .long s3])), (h7, .inl (kB, 3, .inl lo))]) [0, 1, 2, 3, 4, 5, 6, 7] rfl
      have hDc := hD.sub (ws' := [(h0, .inr (4, [.ref h1, .ref h3, .ref h5, .ref h6, .ref h7, .int bn, .int cy, .int li, .int st, .int df, .int tm, .int tq, .int tp, .int pd, .int wa, .int ai, .int fu, .int mo, .int sp])), (h1, .inr (0, [.ref h2])), (h2, .inl (kT, 320, .inl tb)), (h3, .inr (1, [.ref h4, .int wt])), (h4, .inl (kW, 6, .inl le)), (h5, .inr (2, [.int am, .int sd])), (h6, .inr (3, [.long s0, .long s1, .long s2, .long s3])), (h7, .inl (kB, 3, .inl lo))]) [0, 1, 2, 3, 4, 5, 6, 7] (by decide) rfl
      have hKc := hK.sub (tys' := [(kT, .int), (kW, .int), (kB, .boolean)]) [0, 1, 2] rfl
      have hFc := va_free (wc := [(h0, .inr (4, [.ref h1, .ref h3, .ref h5, .ref h6, .ref h7, .int bn, .int cy, .int li, .int st, .int df, .int tm, .int tq, .int tp, .int pd, .int wa, .int ai, .int fu, .int mo, .int sp])), (h1, .inr (0, [.ref h2])), (h2, .inl (kT, 320, .inl tb)), (h3, .inr (1, [.ref h4, .int wt])), (h4, .inl (kW, 6, .inl le)), (h5, .inr (2, [.int am, .int sd])), (h6, .inr (3, [.long s0, .long s1, .long s2, .long s3])), (h7, .inl (kB, 3, .inl lo))]) hD hS hA [0, 1, 2, 3, 4, 5, 6, 7] rfl
      refine ca_i (va_runV (As := []) (rest := [.ref h3]) ⟨hx, hb, hml, hown, hts⟩ (c_X_pedalWanted l dC dI h0 h1 h2 h3 h4 h5 h6 h7 kT kW kB H.size bn cy li st df tm tq tp pd wa ai fu mo sp tb wt le am sd s0 s1 s2 s3 lo) (cwV 0 hts (gV_ mw_70 mw_68 mw_69 mw_52 mw_67) rfl rfl rfl (by decide +kernel) ⟨Nat.le_of_ble_eq_true rfl, Nat.le_of_ble_eq_true rfl⟩) ⟨fb_, va_recv hKc hPc (ci := 4) (q0 := 0) rfl rfl, pu_ hPc hKc hDc hN⟩ rfl rfl hl.1 rfl (lv_room (Nat.le_of_ble_eq_true rfl)) d_X_chooseWanted_12 ⟨Nat.le_of_ble_eq_true rfl, Nat.le_of_ble_eq_true rfl⟩) hS (fun q _ h => hFc q h) hFc (fun t H locs ht hvm hB hz1 hk1 hS => ?_)
      obtain ⟨hP, hD⟩ := aft_ (wr := []) (w1 := [(h0, .inr (4, [.ref h1, .ref h3, .ref h5, .ref h6, .ref h7, .int bn, .int cy, .int li, .int st, .int df, .int tm, .int tq, .int tp, .int pd, .int wa, .int ai, .int fu, .int mo, .int sp])), (h1, .inr (0, [.ref h2])), (h2, .inl (kT, 320, .inl tb)), (h3, .inr (1, [.ref h4, .int wt])), (h4, .inl (kW, 6, .inl le)), (h5, .inr (2, [.int am, .int sd])), (h6, .inr (3, [.long s0, .long s1, .long s2, .long s3])), (h7, .inl (kB, 3, .inl lo))]) (w2 := [(h0, .inr (4, [.ref h1, .ref h3, .ref h5, .ref h6, .ref h7, .int bn, .int cy, .int li, .int st, .int df, .int tm, .int tq, .int tp, .int pd, .int wa, .int ai, .int fu, .int mo, .int sp])), (h1, .inr (0, [.ref h2])), (h2, .inl (kT, 320, .inl tb)), (h3, .inr (1, [.ref h4, .int wt])), (h4, .inl (kW, 6, .inl le)), (h5, .inr (2, [.int am, .int sd])), (h6, .inr (3, [.long s0, .long s1, .long s2, .long s3])), (h7, .inl (kB, 3, .inl lo))]) hP hD [0, 1, 2, 3, 4, 5, 6, 7] [] [0, 1, 2, 3, 4, 5, 6, 7] rfl rfl (by decide) (by decide) hk1 hFc hB ht rfl (by decide)
      have hPc := hP.sub (ws' := [(h3, .inr (1, [.ref h4, .int wt])), (h4, .inl (kW, 6, .inl le))]) [3, 4] rfl
      have hDc := hD.sub (ws' := [(h3, .inr (1, [.ref h4, .int wt])), (h4, .inl (kW, 6, .inl le))]) [3, 4] (by decide) rfl
      have hKc := hK.sub (tys' := [(kW, .int)]) [1] rfl
      have hFc := va_free (wc := [(h3, .inr (1, [.ref h4, .int wt])), (h4, .inl (kW, 6, .inl le))]) hD hS hA [3, 4] rfl
      refine ca_i (va_runVN (As := [.int (fX_pedalWanted mo tb pd sp)]) (rest := []) ⟨hx, hb, hml, hown, hts⟩ (c_Wi_appliedTo l dC dI h3 h4 kW H.size wt le (fX_pedalWanted mo tb pd sp)) ⟨va_cnB 1 hts (gC_ mw_71) rfl rfl rfl (hN (.methodLinkNest R_X 195 y_Wi_appliedTo "TorqueRows") nw_4) (hts _ mw_57) (by decide +kernel) ⟨Nat.le_of_ble_eq_true rfl, Nat.le_of_ble_eq_true rfl⟩, hts _ mw_72, hts _ mw_73⟩ ⟨fb_, va_recv hKc hPc (ci := 1) (q0 := 0) rfl rfl, pu_ hPc hKc hDc hN⟩ rfl rfl hl.1 rfl (lv_room (Nat.le_of_ble_eq_true rfl)) d_X_chooseWanted_15 ⟨Nat.le_of_ble_eq_true rfl, Nat.le_of_ble_eq_true rfl⟩) hS (fun q _ h => hFc q h) hFc (fun t H locs ht hvm hB hz1 hk1 hS => ?_)
      obtain ⟨hP, hD⟩ := aft_ (wr := [(h0, .inr (4, [.ref h1, .ref h3, .ref h5, .ref h6, .ref h7, .int bn, .int cy, .int li, .int st, .int df, .int tm, .int tq, .int tp, .int pd, .int wa, .int ai, .int fu, .int mo, .int sp])), (h1, .inr (0, [.ref h2])), (h2, .inl (kT, 320, .inl tb)), (h5, .inr (2, [.int am, .int sd])), (h6, .inr (3, [.long s0, .long s1, .long s2, .long s3])), (h7, .inl (kB, 3, .inl lo))]) (w1 := [(h3, .inr (1, [.ref h4, .int wt])), (h4, .inl (kW, 6, .inl le))]) (w2 := [(h0, .inr (4, [.ref h1, .ref h3, .ref h5, .ref h6, .ref h7, .int bn, .int cy, .int li, .int st, .int df, .int tm, .int tq, .int tp, .int pd, .int wa, .int ai, .int fu, .int mo, .int sp])), (h1, .inr (0, [.ref h2])), (h2, .inl (kT, 320, .inl tb)), (h3, .inr (1, [.ref h4, .int wt])), (h4, .inl (kW, 6, .inl le)), (h5, .inr (2, [.int am, .int sd])), (h6, .inr (3, [.long s0, .long s1, .long s2, .long s3])), (h7, .inl (kB, 3, .inl lo))]) hP hD [3, 4] [0, 1, 2, 5, 6, 7] [0, 1, 2, 6, 7, 3, 4, 5] rfl rfl (by decide) (by decide) hk1 hFc hB ht rfl (by decide)
      refine lv_goto (tgt := 22) hx hb d_X_chooseWanted_18 (by decide) ?_
      refine W.eq (g2 := F0 m 22 ls [.int (vX_chooseWanted_0 mo le tb pd sp)]) (by rw [show (vX_chooseWanted_0 mo le tb pd sp) = (fWi_appliedTo le (fX_pedalWanted mo tb pd sp)) from (if_neg c_1)]) ?_
      exact J_2 _ _ _ (lv_sub hl [0] rfl) hP hD hS
set_option maxHeartbeats 4000000 in
set_option maxRecDepth 100000 in
theorem c_X_isFuelCut (l : Launch) (dC : Nat → ClassId) (dI : Nat → Nat → Nat) (h0 h1 h2 h3 h4 h5 h6 h7 : Nat) (kT kW kB : ClassId) (sz : Nat) (bn : Int32) (cy : Int32) (li : Int32) (st : Int32) (df : Int32) (tm : Int32) (tq : Int32) (tp : Int32) (pd : Int32) (wa : Int32) (ai : Int32) (fu : Int32) (mo : Int32) (sp : Int32) (tb : Nat → Int32) (wt : Int32) (le : Nat → Int32) (am : Int32) (sd : Int32) (s0 : Int64) (s1 : Int64) (s2 : Int64) (s3 : Int64) (lo : Nat → Int32) : Met l y_X_isFuelCut w_X_isFuelCut { frames := 1, cells := 0, slots := 0, locals := 20 } (va_Pc [.ref h0] (pr_ (dC, dI) [(h0, .inr (4, [.ref h1, .ref h3, .ref h5, .ref h6, .ref h7, .int bn, .int cy, .int li, .int st, .int df, .int tm, .int tq, .int tp, .int pd, .int wa, .int ai, .int fu, .int mo, .int sp])), (h1, .inr (0, [.ref h2])), (h2, .inl (kT, 320, .inl tb)), (h3, .inr (1, [.ref h4, .int wt])), (h4, .inl (kW, 6, .inl le)), (h5, .inr (2, [.int am, .int sd])), (h6, .inr (3, [.long s0, .long s1, .long s2, .long s3])), (h7, .inl (kB, 3, .inl lo))] [(kT, .int), (kW, .int), (kB, .boolean)] sz)) (va_Qi (fun r (_ : Unit) => r = (fX_isFuelCut pd tq sp mo)) (fun _ t => at_ (dC, dI) (va_A [(h0, .inr (4, [.ref h1, .ref h3, .ref h5, .ref h6, .ref h7, .int bn, .int cy, .int li, .int st, .int df, .int tm, .int tq, .int tp, .int pd, .int wa, .int ai, .int fu, .int mo, .int sp])), (h1, .inr (0, [.ref h2])), (h2, .inl (kT, 320, .inl tb)), (h3, .inr (1, [.ref h4, .int wt])), (h4, .inl (kW, 6, .inl le)), (h5, .inr (2, [.int am, .int sd])), (h6, .inr (3, [.long s0, .long s1, .long s2, .long s3])), (h7, .inl (kB, 3, .inl lo))] sz) [(h0, .inr (4, [.ref h1, .ref h3, .ref h5, .ref h6, .ref h7, .int bn, .int cy, .int li, .int st, .int df, .int tm, .int tq, .int tp, .int pd, .int wa, .int ai, .int fu, .int mo, .int sp])), (h1, .inr (0, [.ref h2])), (h2, .inl (kT, 320, .inl tb)), (h3, .inr (1, [.ref h4, .int wt])), (h4, .inl (kW, 6, .inl le)), (h5, .inr (2, [.int am, .int sd])), (h6, .inr (3, [.long s0, .long s1, .long s2, .long s3])), (h7, .inl (kB, 3, .inl lo))] [(kT, .int), (kW, .int), (kB, .boolean)] t) (va_A [(h0, .inr (4, [.ref h1, .ref h3, .ref h5, .ref h6, .ref h7, .int bn, .int cy, .int li, .int st, .int df, .int tm, .int tq, .int tp, .int pd, .int wa, .int ai, .int fu, .int mo, .int sp])), (h1, .inr (0, [.ref h2])), (h2, .inl (kT, 320, .inl tb)), (h3, .inr (1, [.ref h4, .int wt])), (h4, .inl (kW, 6, .inl le)), (h5, .inr (2, [.int am, .int sd])), (h6, .inr (3, [.long s0, .long s1, .long s2, .long s3])), (h7, .inl (kB, 3, .inl lo))] sz)) 0 0 (va_A [(h0, .inr (4, [.ref h1, .ref h3, .ref h5, .ref h6, .ref h7, .int bn, .int cy, .int li, .int st, .int df, .int tm, .int tq, .int tp, .int pd, .int wa, .int ai, .int fu, .int mo, .int sp])), (h1, .inr (0, [.ref h2])), (h2, .inl (kT, 320, .inl tb)), (h3, .inr (1, [.ref h4, .int wt])), (h4, .inl (kW, 6, .inl le)), (h5, .inr (2, [.int am, .int sd])), (h6, .inr (3, [.long s0, .long s1, .long s2, .long s3])), (h7, .inl (kB, 3, .inl lo))] sz) := by
  refine Met.ofW (cc := b_X_isFuelCut) (maxL := 2) (ret := (some .boolean)) (by decide) rfl ?_
  intro p e s m args below meth c s₁ B hml hv
  obtain ⟨rfl, hsz, hP, hK, hD0, hN⟩ := hv
  have hx := B.exec
  have hb := B.bytes
  have hr := B.returns
  have hts0 := atoms_spec (ws := w_X_isFuelCut) B.pre
  have hts : ∀ w ∈ wA_, w.before _ s = true := fun w h => hts0 w (List.mem_cons_of_mem _ h)
  have hown : s.vm.findClass R_X = some m.cls := findClass_of_methodNamed B.named
  have hlocks := B.notSynchronized
  subst hsz
  have hD := hD0.self (sz := s.heap.size)
  generalize hAe : va_A [(h0, .inr (4, [.ref h1, .ref h3, .ref h5, .ref h6, .ref h7, .int bn, .int cy, .int li, .int st, .int df, .int tm, .int tq, .int tp, .int pd, .int wa, .int ai, .int fu, .int mo, .int sp])), (h1, .inr (0, [.ref h2])), (h2, .inl (kT, 320, .inl tb)), (h3, .inr (1, [.ref h4, .int wt])), (h4, .inl (kW, 6, .inl le)), (h5, .inr (2, [.int am, .int sd])), (h6, .inr (3, [.long s0, .long s1, .long s2, .long s3])), (h7, .inl (kB, 3, .inl lo))] s.heap.size = A at hD ⊢
  have hA : ∀ q : Nat, s.heap.size ≤ q → A q := fun q h => by rw [← hAe]; exact Or.inr h
  have hS : va_S A s.heap s.heap [] := va_S.rf
  have hP : va_P (dC, dI) classes [(h0, .inr (4, [.ref h1, .ref h3, .ref h5, .ref h6, .ref h7, .int bn, .int cy, .int li, .int st, .int df, .int tm, .int tq, .int tp, .int pd, .int wa, .int ai, .int fu, .int mo, .int sp])), (h1, .inr (0, [.ref h2])), (h2, .inl (kT, 320, .inl tb)), (h3, .inr (1, [.ref h4, .int wt])), (h4, .inl (kW, 6, .inl le)), (h5, .inr (2, [.int am, .int sd])), (h6, .inr (3, [.long s0, .long s1, .long s2, .long s3])), (h7, .inl (kB, 3, .inl lo))] s.heap := hP
  have hl := lv_entry ([.ref h0]) (n := 2) (Nat.le_of_ble_eq_true rfl)
  rw [lg_entry_eq]
  generalize (lg_sl ([.ref h0]) ++ List.replicate (2 - (lg_sl ([.ref h0])).length) Slot.unset).toArray = ls at hl ⊢
  have hl : lv_has ls 2 [(0, .ref h0)] := hl
  have hS : va_S A s.heap s.heap [] := hS
  refine st_ hP hS (fun H locs hP hS => ?_)
  refine lv_aload_n hx hb d_X_isFuelCut_0 rfl (lv_at hl 0 rfl) ?_
  refine va_get (D := (dC, dI)) (ci := 4) (v := .int pd) (C := R_X) (T := F_X) (N := 19) hx hb hts in_X hown hK hP 0 rfl rfl 13 (by decide) (hts (.fieldLink R_X 85 "TorqueRows" "lastPedal" "I") mw_43) (fun _ h9 => h9) rfl d_X_isFuelCut_1 ?_
  refine jn 2 [(0, .ref h0)] [(h0, .inr (4, [.ref h1, .ref h3, .ref h5, .ref h6, .ref h7, .int bn, .int cy, .int li, .int st, .int df, .int tm, .int tq, .int tp, .int pd, .int wa, .int ai, .int fu, .int mo, .int sp])), (h1, .inr (0, [.ref h2])), (h2, .inl (kT, 320, .inl tb)), (h3, .inr (1, [.ref h4, .int wt])), (h4, .inl (kW, 6, .inl le)), (h5, .inr (2, [.int am, .int sd])), (h6, .inr (3, [.long s0, .long s1, .long s2, .long s3])), (h7, .inl (kB, 3, .inl lo))] 29 [.int (vX_isFuelCut_0 pd tq sp)] (D := (dC, dI)) (A := A) (H0 := s.heap) (fun ls H locs hl hP hD hS => ?_) (fun J_4 => ?_)
  · refine lv_istore_n (lv' := [(1, .int (vX_isFuelCut_0 pd tq sp)), (0, .ref h0)]) hx hb d_X_isFuelCut_29 rfl hl (by decide) rfl (fun ls hl => ?_)
    refine lv_iload_n hx hb d_X_isFuelCut_30 rfl (lv_at hl 0 rfl) ?_
    refine lv_if_ne (tgt := 41) hx hb d_X_isFuelCut_31 (by decide) (fun c_5 => ?_) (fun c_5 => ?_)
    · refine lv_iconst (v := 1) hx hb d_X_isFuelCut_41 (by decide) ?_
      refine lv_goto (tgt := 46) hx hb d_X_isFuelCut_42 (by decide) ?_
      have h9 : va_P (dC, dI) classes [(h0, .inr (4, [.ref h1, .ref h3, .ref h5, .ref h6, .ref h7, .int bn, .int cy, .int li, .int st, .int df, .int tm, .int tq, .int tp, .int pd, .int wa, .int ai, .int fu, .int mo, .int sp])), (h1, .inr (0, [.ref h2])), (h2, .inl (kT, 320, .inl tb)), (h3, .inr (1, [.ref h4, .int wt])), (h4, .inl (kW, 6, .inl le)), (h5, .inr (2, [.int am, .int sd])), (h6, .inr (3, [.long s0, .long s1, .long s2, .long s3])), (h7, .inl (kB, 3, .inl lo))] H ∧ va_D A [(h0, .inr (4, [.ref h1, .ref h3, .ref h5, .ref h6, .ref h7, .int bn, .int cy, .int li, .int st, .int df, .int tm, .int tq, .int tp, .int pd, .int wa, .int ai, .int fu, .int mo, .int sp])), (h1, .inr (0, [.ref h2])), (h2, .inl (kT, 320, .inl tb)), (h3, .inr (1, [.ref h4, .int wt])), (h4, .inl (kW, 6, .inl le)), (h5, .inr (2, [.int am, .int sd])), (h6, .inr (3, [.long s0, .long s1, .long s2, .long s3])), (h7, .inl (kB, 3, .inl lo))] := ⟨hP, hD⟩
      exact W.zret (v := 1) hx hb hr rfl (fun t ht hW => ⟨⟨1, (), rfl, ((if_neg c_5)).symm, by rw [ht]; exact h9.1, va_K.moved hW.alike hK, h9.2⟩, hS.F ht⟩) hS.2.2 d_X_isFuelCut_46
    · refine lv_aload_n hx hb d_X_isFuelCut_34 rfl (lv_at hl 1 rfl) ?_
      have hPc := hP.sub (ws' := [(h0, .inr (4, [.ref h1, .ref h3, .ref h5, .ref h6, .ref h7, .int bn, .int cy, .int li, .int st, .int df, .int tm, .int tq, .int tp, .int pd, .int wa, .int ai, .int fu, .int mo, .int sp])), (h1, .inr (0, [.ref h2])), (h2, .inl (kT, 320, .inl tb)), (h3, .inr (1, [.ref h4, .int wt])), (h4, .inl (kW, 6, .inl le)), (h5, .inr (2, [.int am, .int sd])), (h6, .inr (3, [.long s0, .long s1, .long s2, .long s3])), (h7, .inl (kB, 3, .inl lo))]) [0, 1, 2, 3, 4, 5, 6, 7] rfl
      have hDc := hD.sub (ws' := [(h0, .inr (4, [.ref h1, .ref h3, .ref h5, .ref h6, .ref h7, .int bn, .int cy, .int li, .int st, .int df, .int tm, .int tq, .int tp, .int pd, .int wa, .int ai, .int fu, .int mo, .int sp])), (h1, .inr (0, [.ref h2])), (h2, .inl (kT, 320, .inl tb)), (h3, .inr (1, [.ref h4, .int wt])), (h4, .inl (kW, 6, .inl le)), (h5, .inr (2, [.int am, .int sd])), (h6, .inr (3, [.long s0, .long s1, .long s2, .long s3])), (h7, .inl (kB, 3, .inl lo))]) [0, 1, 2, 3, 4, 5, 6, 7] (by decide) rfl
      have hKc := hK.sub (tys' := [(kT, .int), (kW, .int), (kB, .boolean)]) [0, 1, 2] rfl
      have hFc := va_free (wc := [(h0, .inr (4, [.ref h1, .ref h3, .ref h5, .ref h6, .ref h7, .int bn, .int cy, .int li, .int st, .int df, .int tm, .int tq, .int tp, .int pd, .int wa, .int ai, .int fu, .int mo, .int sp])), (h1, .inr (0, [.ref h2])), (h2, .inl (kT, 320, .inl tb)), (h3, .inr (1, [.ref h4, .int wt])), (h4, .inl (kW, 6, .inl le)), (h5, .inr (2, [.int am, .int sd])), (h6, .inr (3, [.long s0, .long s1, .long s2, .long s3])), (h7, .inl (kB, 3, .inl lo))]) hD hS hA [0, 1, 2, 3, 4, 5, 6, 7] rfl
      refine ca_i (va_runV (As := []) (rest := []) ⟨hx, hb, hml, hown, hts⟩ (c_X_drives l dC dI h0 h1 h2 h3 h4 h5 h6 h7 kT kW kB H.size bn cy li st df tm tq tp pd wa ai fu mo sp tb wt le am sd s0 s1 s2 s3 lo) (cwV 0 hts (gV_ mw_55 mw_53 mw_54 mw_52 mw_51) rfl rfl rfl (by decide +kernel) ⟨Nat.le_of_ble_eq_true rfl, Nat.le_of_ble_eq_true rfl⟩) ⟨fb_, va_recv hKc hPc (ci := 4) (q0 := 0) rfl rfl, pu_ hPc hKc hDc hN⟩ rfl rfl hl.1 rfl (lv_room (Nat.le_of_ble_eq_true rfl)) d_X_isFuelCut_35 ⟨Nat.le_of_ble_eq_true rfl, Nat.le_of_ble_eq_true rfl⟩) hS (fun q _ h => hFc q h) hFc (fun t H locs ht hvm hB hz1 hk1 hS => ?_)
      obtain ⟨hP, hD⟩ := aft_ (wr := []) (w1 := [(h0, .inr (4, [.ref h1, .ref h3, .ref h5, .ref h6, .ref h7, .int bn, .int cy, .int li, .int st, .int df, .int tm, .int tq, .int tp, .int pd, .int wa, .int ai, .int fu, .int mo, .int sp])), (h1, .inr (0, [.ref h2])), (h2, .inl (kT, 320, .inl tb)), (h3, .inr (1, [.ref h4, .int wt])), (h4, .inl (kW, 6, .inl le)), (h5, .inr (2, [.int am, .int sd])), (h6, .inr (3, [.long s0, .long s1, .long s2, .long s3])), (h7, .inl (kB, 3, .inl lo))]) (w2 := [(h0, .inr (4, [.ref h1, .ref h3, .ref h5, .ref h6, .ref h7, .int bn, .int cy, .int li, .int st, .int df, .int tm, .int tq, .int tp, .int pd, .int wa, .int ai, .int fu, .int mo, .int sp])), (h1, .inr (0, [.ref h2])), (h2, .inl (kT, 320, .inl tb)), (h3, .inr (1, [.ref h4, .int wt])), (h4, .inl (kW, 6, .inl le)), (h5, .inr (2, [.int am, .int sd])), (h6, .inr (3, [.long s0, .long s1, .long s2, .long s3])), (h7, .inl (kB, 3, .inl lo))]) hP hD [0, 1, 2, 3, 4, 5, 6, 7] [] [0, 1, 2, 3, 4, 5, 6, 7] rfl rfl (by decide) (by decide) hk1 hFc hB ht rfl (by decide)
      refine lv_if_ne (tgt := 45) hx hb d_X_isFuelCut_38 (by decide) (fun c_6 => ?_) (fun c_6 => ?_)
      · refine lv_iconst (v := 0) hx hb d_X_isFuelCut_45 (by decide) ?_
        have h9 : va_P (dC, dI) classes [(h0, .inr (4, [.ref h1, .ref h3, .ref h5, .ref h6, .ref h7, .int bn, .int cy, .int li, .int st, .int df, .int tm, .int tq, .int tp, .int pd, .int wa, .int ai, .int fu, .int mo, .int sp])), (h1, .inr (0, [.ref h2])), (h2, .inl (kT, 320, .inl tb)), (h3, .inr (1, [.ref h4, .int wt])), (h4, .inl (kW, 6, .inl le)), (h5, .inr (2, [.int am, .int sd])), (h6, .inr (3, [.long s0, .long s1, .long s2, .long s3])), (h7, .inl (kB, 3, .inl lo))] H ∧ va_D A [(h0, .inr (4, [.ref h1, .ref h3, .ref h5, .ref h6, .ref h7, .int bn, .int cy, .int li, .int st, .int df, .int tm, .int tq, .int tp, .int pd, .int wa, .int ai, .int fu, .int mo, .int sp])), (h1, .inr (0, [.ref h2])), (h2, .inl (kT, 320, .inl tb)), (h3, .inr (1, [.ref h4, .int wt])), (h4, .inl (kW, 6, .inl le)), (h5, .inr (2, [.int am, .int sd])), (h6, .inr (3, [.long s0, .long s1, .long s2, .long s3])), (h7, .inl (kB, 3, .inl lo))] := ⟨hP, hD⟩
        exact W.zret (v := 0) hx hb hr rfl (fun t ht hW => ⟨⟨0, (), rfl, (((if_pos c_5).trans (if_neg c_6))).symm, by rw [ht]; exact h9.1, va_K.moved hW.alike hK, h9.2⟩, hS.F ht⟩) hS.2.2 d_X_isFuelCut_46
      · refine lv_iconst (v := 1) hx hb d_X_isFuelCut_41 (by decide) ?_
        refine lv_goto (tgt := 46) hx hb d_X_isFuelCut_42 (by decide) ?_
        have h9 : va_P (dC, dI) classes [(h0, .inr (4, [.ref h1, .ref h3, .ref h5, .ref h6, .ref h7, .int bn, .int cy, .int li, .int st, .int df, .int tm, .int tq, .int tp, .int pd, .int wa, .int ai, .int fu, .int mo, .int sp])), (h1, .inr (0, [.ref h2])), (h2, .inl (kT, 320, .inl tb)), (h3, .inr (1, [.ref h4, .int wt])), (h4, .inl (kW, 6, .inl le)), (h5, .inr (2, [.int am, .int sd])), (h6, .inr (3, [.long s0, .long s1, .long s2, .long s3])), (h7, .inl (kB, 3, .inl lo))] H ∧ va_D A [(h0, .inr (4, [.ref h1, .ref h3, .ref h5, .ref h6, .ref h7, .int bn, .int cy, .int li, .int st, .int df, .int tm, .int tq, .int tp, .int pd, .int wa, .int ai, .int fu, .int mo, .int sp])), (h1, .inr (0, [.ref h2])), (h2, .inl (kT, 320, .inl tb)), (h3, .inr (1, [.ref h4, .int wt])), (h4, .inl (kW, 6, .inl le)), (h5, .inr (2, [.int am, .int sd])), (h6, .inr (3, [.long s0, .long s1, .long s2, .long s3])), (h7, .inl (kB, 3, .inl lo))] := ⟨hP, hD⟩
        exact W.zret (v := 1) hx hb hr rfl (fun t ht hW => ⟨⟨1, (), rfl, (((if_pos c_5).trans (if_pos c_6))).symm, by rw [ht]; exact h9.1, va_K.moved hW.alike hK, h9.2⟩, hS.F ht⟩) hS.2.2 d_X_isFuelCut_46
  · refine lv_if_ne (tgt := 28) hx hb d_X_isFuelCut_4 (by decide) (fun c_1 => ?_) (fun c_1 => ?_)
    · refine lv_iconst (v := 0) hx hb d_X_isFuelCut_28 (by decide) ?_
      refine W.eq (g2 := F0 m 29 ls [.int (vX_isFuelCut_0 pd tq sp)]) (by rw [show (vX_isFuelCut_0 pd tq sp) = 0 from (if_neg c_1)]) ?_
      exact J_4 _ _ _ (lv_sub hl [0] rfl) hP hD hS
    · refine lv_aload_n hx hb d_X_isFuelCut_7 rfl (lv_at hl 0 rfl) ?_
      refine va_get (D := (dC, dI)) (ci := 4) (v := .int tq) (C := R_X) (T := F_X) (N := 19) hx hb hts in_X hown hK hP 0 rfl rfl 11 (by decide) (hts (.fieldLink R_X 64 "TorqueRows" "torqueNow" "I") mw_74) (fun _ h9 => h9) rfl d_X_isFuelCut_8 ?_
      refine lv_if_ne (tgt := 28) hx hb d_X_isFuelCut_11 (by decide) (fun c_7 => ?_) (fun c_7 => ?_)
      · refine lv_iconst (v := 0) hx hb d_X_isFuelCut_28 (by decide) ?_
        refine W.eq (g2 := F0 m 29 ls [.int (vX_isFuelCut_0 pd tq sp)]) (by rw [show (vX_isFuelCut_0 pd tq sp) = 0 from ((if_pos c_1).trans (if_neg c_7))]) ?_
        exact J_4 _ _ _ (lv_sub hl [0] rfl) hP hD hS
      · refine lv_aload_n hx hb d_X_isFuelCut_14 rfl (lv_at hl 0 rfl) ?_
        refine va_get (D := (dC, dI)) (ci := 4) (v := .int sp) (C := R_X) (T := F_X) (N := 19) hx hb hts in_X hown hK hP 0 rfl rfl 18 (by decide) (hts (.fieldLink R_X 107 "TorqueRows" "lastSpeed" "I") mw_37) (fun _ h9 => h9) rfl d_X_isFuelCut_15 ?_
        refine lv_sipush (v := 1500) hx hb d_X_isFuelCut_18 (by decide) ?_
        refine lv_icmp_le (tgt := 28) hx hb d_X_isFuelCut_21 (by decide) (fun c_8 => ?_) (fun c_8 => ?_)
        · refine lv_iconst (v := 0) hx hb d_X_isFuelCut_28 (by decide) ?_
          refine W.eq (g2 := F0 m 29 ls [.int (vX_isFuelCut_0 pd tq sp)]) (by rw [show (vX_isFuelCut_0 pd tq sp) = 0 from ((if_pos c_1).trans ((if_pos c_7).trans (if_pos c_8)))]) ?_
          exact J_4 _ _ _ (lv_sub hl [0] rfl) hP hD hS
        · refine lv_iconst (v := 1) hx hb d_X_isFuelCut_24 (by decide) ?_
          refine lv_goto (tgt := 29) hx hb d_X_isFuelCut_25 (by decide) ?_
          refine W.eq (g2 := F0 m 29 ls [.int (vX_isFuelCut_0 pd tq sp)]) (by rw [show (vX_isFuelCut_0 pd tq sp) = 1 from ((if_pos c_1).trans ((if_pos c_7).trans (if_neg c_8)))]) ?_
          exact J_4 _ _ _ (lv_sub hl [0] rfl) hP hD hS
end
section
set_option maxHeartbeats 4000000 in
set_option maxRecDepth 100000 in
theorem c_X_step (l : Launch) (dC : Nat → ClassId) (dI : Nat → Nat → Nat) (h0 h1 h2 h3 h4 h5 h6 h7 : Nat) (kT kW kB : ClassId) (sz : Nat) (bn : Int32) (cy : Int32) (li : Int32) (st : Int32) (df : Int32) (tm : Int32) (tq : Int32) (tp : Int32) (pd : Int32) (wa : Int32) (ai : Int32) (fu : Int32) (mo : Int32) (sp : Int32) (tb : Nat → Int32) (wt : Int32) (le : Nat → Int32) (am : Int32) (sd : Int32) (s0 : Int64) (s1 : Int64) (s2 : Int64) (s3 : Int64) (lo : Nat → Int32) (pp : Int64) (po : Int64) (pz : Int64) : Met l y_X_step w_X_step { frames := 5, cells := 0, slots := 0, locals := 115 } (va_Pc [.ref h0, .long pp, .long po, .long pz] (pr_ (dC, dI) [(h0, .inr (4, [.ref h1, .ref h3, .ref h5, .ref h6, .ref h7, .int bn, .int cy, .int li, .int st, .int df, .int tm, .int tq, .int tp, .int pd, .int wa, .int ai, .int fu, .int mo, .int sp])), (h1, .inr (0, [.ref h2])), (h2, .inl (kT, 320, .inl tb)), (h3, .inr (1, [.ref h4, .int wt])), (h4, .inl (kW, 6, .inl le)), (h5, .inr (2, [.int am, .int sd])), (h6, .inr (3, [.long s0, .long s1, .long s2, .long s3])), (h7, .inl (kB, 3, .inl lo))] [(kT, .int), (kW, .int), (kB, .boolean)] sz)) (va_Qi (fun r (_ : Unit) => r = (fX_step pp po pz lo df st sp li)) (fun _ t => at_ (dC, dI) (va_A [(h0, .inr (4, [.ref h1, .ref h3, .ref h5, .ref h6, .ref h7, .int bn, .int cy, .int li, .int st, .int df, .int tm, .int tq, .int tp, .int pd, .int wa, .int ai, .int fu, .int mo, .int sp])), (h1, .inr (0, [.ref h2])), (h2, .inl (kT, 320, .inl tb)), (h3, .inr (1, [.ref h4, .int wt])), (h4, .inl (kW, 6, .inl le)), (h5, .inr (2, [.int am, .int sd])), (h6, .inr (3, [.long s0, .long s1, .long s2, .long s3])), (h7, .inl (kB, 3, .inl lo))] sz) [(h0, .inr (4, [.ref h1, .ref h3, .ref h5, .ref h6, .ref h7, .int bn, .int cy, .int li, .int (gX_step_0_8 pp st po pz lo df), .int (gX_step_0_9 pp df po pz lo), .int tm, .int (gX_step_0_11 pp tq po pz lo df st sp li le tb am sd bn), .int (gX_step_0_12 pp tp po pz tq), .int (gX_step_0_13 pp pd po pz lo df st sp li), .int (gX_step_0_14 pp wa po pz lo df st sp li le tb am sd bn), .int (gX_step_0_15 pp ai po pz tb lo df st sp li tq le am sd bn), .int (gX_step_0_16 pp fu po pz lo df st sp li tq le tb am sd bn), .int (gX_step_0_17 pp mo po pz lo df st sp li), .int (gX_step_0_18 pp sp po pz lo)])), (h1, .inr (0, [.ref h2])), (h2, .inl (kT, 320, .inl tb)), (h3, .inr (1, [.ref h4, .int (gX_step_3_1 pp wt po pz)])), (h4, .inl (kW, 6, .inl (gX_step_4 pp le po pz))), (h5, .inr (2, [.int am, .int (gX_step_5_1 pp sd po pz lo df st sp li am)])), (h6, .inr (3, [.long (gX_step_6_0 pp s0 po pz), .long (gX_step_6_1 pp s1 po pz lo df st sp li tq le tb am sd bn), .long (gX_step_6_2 pp s2 po pz lo df st sp li tq le tb am sd bn), .long (gX_step_6_3 pp s3 po pz lo df st sp li)])), (h7, .inl (kB, 3, .inl lo))] [(kT, .int), (kW, .int), (kB, .boolean)] t) (va_A [(h0, .inr (4, [.ref h1, .ref h3, .ref h5, .ref h6, .ref h7, .int bn, .int cy, .int li, .int st, .int df, .int tm, .int tq, .int tp, .int pd, .int wa, .int ai, .int fu, .int mo, .int sp])), (h1, .inr (0, [.ref h2])), (h2, .inl (kT, 320, .inl tb)), (h3, .inr (1, [.ref h4, .int wt])), (h4, .inl (kW, 6, .inl le)), (h5, .inr (2, [.int am, .int sd])), (h6, .inr (3, [.long s0, .long s1, .long s2, .long s3])), (h7, .inl (kB, 3, .inl lo))] sz)) 0 0 (va_A [(h0, .inr (4, [.ref h1, .ref h3, .ref h5, .ref h6, .ref h7, .int bn, .int cy, .int li, .int st, .int df, .int tm, .int tq, .int tp, .int pd, .int wa, .int ai, .int fu, .int mo, .int sp])), (h1, .inr (0, [.ref h2])), (h2, .inl (kT, 320, .inl tb)), (h3, .inr (1, [.ref h4, .int wt])), (h4, .inl (kW, 6, .inl le)), (h5, .inr (2, [.int am, .int sd])), (h6, .inr (3, [.long s0, .long s1, .long s2, .long s3])), (h7, .inl (kB, 3, .inl lo))] sz) := by
  refine Met.ofW (cc := b_X_step) (maxL := 7) (ret := (some .int)) (by decide) rfl ?_
  intro p e s m args below meth c s₁ B hml hv
  obtain ⟨rfl, hsz, hP, hK, hD0, hN⟩ := hv
  have hx := B.exec
  have hb := B.bytes
  have hr := B.returns
  have hts0 := atoms_spec (ws := w_X_step) B.pre
  have hts : ∀ w ∈ wA_, w.before _ s = true := fun w h => hts0 w (List.mem_cons_of_mem _ h)
  have hown : s.vm.findClass R_X = some m.cls := findClass_of_methodNamed B.named
  have hlocks := B.notSynchronized
  subst hsz
  have hD := hD0.self (sz := s.heap.size)
  generalize hAe : va_A [(h0, .inr (4, [.ref h1, .ref h3, .ref h5, .ref h6, .ref h7, .int bn, .int cy, .int li, .int st, .int df, .int tm, .int tq, .int tp, .int pd, .int wa, .int ai, .int fu, .int mo, .int sp])), (h1, .inr (0, [.ref h2])), (h2, .inl (kT, 320, .inl tb)), (h3, .inr (1, [.ref h4, .int wt])), (h4, .inl (kW, 6, .inl le)), (h5, .inr (2, [.int am, .int sd])), (h6, .inr (3, [.long s0, .long s1, .long s2, .long s3])), (h7, .inl (kB, 3, .inl lo))] s.heap.size = A at hD ⊢
  have hA : ∀ q : Nat, s.heap.size ≤ q → A q := fun q h => by rw [← hAe]; exact Or.inr h
  have hS : va_S A s.heap s.heap [] := va_S.rf
  have hP : va_P (dC, dI) classes [(h0, .inr (4, [.ref h1, .ref h3, .ref h5, .ref h6, .ref h7, .int bn, .int cy, .int li, .int st, .int df, .int tm, .int tq, .int tp, .int pd, .int wa, .int ai, .int fu, .int mo, .int sp])), (h1, .inr (0, [.ref h2])), (h2, .inl (kT, 320, .inl tb)), (h3, .inr (1, [.ref h4, .int wt])), (h4, .inl (kW, 6, .inl le)), (h5, .inr (2, [.int am, .int sd])), (h6, .inr (3, [.long s0, .long s1, .long s2, .long s3])), (h7, .inl (kB, 3, .inl lo))] s.heap := hP
  have hl := lv_entry ([.ref h0, .long pp, .long po, .long pz]) (n := 7) (Nat.le_of_ble_eq_true rfl)
  rw [lg_entry_eq]
  generalize (lg_sl ([.ref h0, .long pp, .long po, .long pz]) ++ List.replicate (7 - (lg_sl ([.ref h0, .long pp, .long po, .long pz])).length) Slot.unset).toArray = ls at hl ⊢
  have hl : lv_has ls 7 [(0, .ref h0), (1, .long pp), (3, .long po), (5, .long pz)] := hl
  have hS : va_S A s.heap s.heap [] := hS
  refine st_ hP hS (fun H locs hP hS => ?_)
  refine lv_lload_n hx hb d_X_step_0 rfl (lv_at hl 1 rfl) ?_
  refine lv_ldc2 (v := 1000) hx hb hown (hts (.constantLong R_X 52 1000) mw_79) d_X_step_1 ?_
  have hPc := hP.sub (ws' := []) [] rfl
  have hDc := hD.sub (ws' := []) [] (by decide) rfl
  have hKc := hK.sub (tys' := []) [] rfl
  have hFc := va_free (wc := []) hD hS hA [] rfl
  refine ca_i (va_runS (As := [.long pp, .long 1000]) (rest := []) ⟨hx, hb, hml, hown, hts⟩ (c_X_isUpTo l dC dI H.size pp 1000) (va_cwS 2 hts (gS_ mw_84 mw_83 mw_52 mw_82) rfl rfl rfl (by decide +kernel) ⟨Nat.le_of_ble_eq_true rfl, Nat.le_of_ble_eq_true rfl⟩) ⟨fb_, pu_ hPc hKc hDc hN⟩ rfl rfl hl.1 rfl (lv_room (Nat.le_of_ble_eq_true rfl)) d_X_step_4 ⟨Nat.le_of_ble_eq_true rfl, Nat.le_of_ble_eq_true rfl⟩) hS (fun q _ h => hFc q h) hFc (fun t H locs ht hvm hB hz1 hk1 hS => ?_)
  obtain ⟨hP, hD⟩ := aft_ (wr := [(h0, .inr (4, [.ref h1, .ref h3, .ref h5, .ref h6, .ref h7, .int bn, .int cy, .int li, .int st, .int df, .int tm, .int tq, .int tp, .int pd, .int wa, .int ai, .int fu, .int mo, .int sp])), (h1, .inr (0, [.ref h2])), (h2, .inl (kT, 320, .inl tb)), (h3, .inr (1, [.ref h4, .int wt])), (h4, .inl (kW, 6, .inl le)), (h5, .inr (2, [.int am, .int sd])), (h6, .inr (3, [.long s0, .long s1, .long s2, .long s3])), (h7, .inl (kB, 3, .inl lo))]) (w1 := []) (w2 := [(h0, .inr (4, [.ref h1, .ref h3, .ref h5, .ref h6, .ref h7, .int bn, .int cy, .int li, .int st, .int df, .int tm, .int tq, .int tp, .int pd, .int wa, .int ai, .int fu, .int mo, .int sp])), (h1, .inr (0, [.ref h2])), (h2, .inl (kT, 320, .inl tb)), (h3, .inr (1, [.ref h4, .int wt])), (h4, .inl (kW, 6, .inl le)), (h5, .inr (2, [.int am, .int sd])), (h6, .inr (3, [.long s0, .long s1, .long s2, .long s3])), (h7, .inl (kB, 3, .inl lo))]) hP hD [] [0, 1, 2, 3, 4, 5, 6, 7] [0, 1, 2, 3, 4, 5, 6, 7] rfl rfl (by decide) (by decide) hk1 hFc hB ht rfl (by decide)
  refine lv_if_eq (tgt := 31) hx hb d_X_step_7 (by decide) (fun c_1 => ?_) (fun c_1 => ?_)
  · refine lv_bipush (v := (-2)) hx hb d_X_step_31 (by decide) ?_
    have h9 : va_P (dC, dI) classes [(h0, .inr (4, [.ref h1, .ref h3, .ref h5, .ref h6, .ref h7, .int bn, .int cy, .int li, .int (gX_step_0_8 pp st po pz lo df), .int (gX_step_0_9 pp df po pz lo), .int tm, .int (gX_step_0_11 pp tq po pz lo df st sp li le tb am sd bn), .int (gX_step_0_12 pp tp po pz tq), .int (gX_step_0_13 pp pd po pz lo df st sp li), .int (gX_step_0_14 pp wa po pz lo df st sp li le tb am sd bn), .int (gX_step_0_15 pp ai po pz tb lo df st sp li tq le am sd bn), .int (gX_step_0_16 pp fu po pz lo df st sp li tq le tb am sd bn), .int (gX_step_0_17 pp mo po pz lo df st sp li), .int (gX_step_0_18 pp sp po pz lo)])), (h1, .inr (0, [.ref h2])), (h2, .inl (kT, 320, .inl tb)), (h3, .inr (1, [.ref h4, .int (gX_step_3_1 pp wt po pz)])), (h4, .inl (kW, 6, .inl (gX_step_4 pp le po pz))), (h5, .inr (2, [.int am, .int (gX_step_5_1 pp sd po pz lo df st sp li am)])), (h6, .inr (3, [.long (gX_step_6_0 pp s0 po pz), .long (gX_step_6_1 pp s1 po pz lo df st sp li tq le tb am sd bn), .long (gX_step_6_2 pp s2 po pz lo df st sp li tq le tb am sd bn), .long (gX_step_6_3 pp s3 po pz lo df st sp li)])), (h7, .inl (kB, 3, .inl lo))] H ∧ va_D A [(h0, .inr (4, [.ref h1, .ref h3, .ref h5, .ref h6, .ref h7, .int bn, .int cy, .int li, .int (gX_step_0_8 pp st po pz lo df), .int (gX_step_0_9 pp df po pz lo), .int tm, .int (gX_step_0_11 pp tq po pz lo df st sp li le tb am sd bn), .int (gX_step_0_12 pp tp po pz tq), .int (gX_step_0_13 pp pd po pz lo df st sp li), .int (gX_step_0_14 pp wa po pz lo df st sp li le tb am sd bn), .int (gX_step_0_15 pp ai po pz tb lo df st sp li tq le am sd bn), .int (gX_step_0_16 pp fu po pz lo df st sp li tq le tb am sd bn), .int (gX_step_0_17 pp mo po pz lo df st sp li), .int (gX_step_0_18 pp sp po pz lo)])), (h1, .inr (0, [.ref h2])), (h2, .inl (kT, 320, .inl tb)), (h3, .inr (1, [.ref h4, .int (gX_step_3_1 pp wt po pz)])), (h4, .inl (kW, 6, .inl (gX_step_4 pp le po pz))), (h5, .inr (2, [.int am, .int (gX_step_5_1 pp sd po pz lo df st sp li am)])), (h6, .inr (3, [.long (gX_step_6_0 pp s0 po pz), .long (gX_step_6_1 pp s1 po pz lo df st sp li tq le tb am sd bn), .long (gX_step_6_2 pp s2 po pz lo df st sp li tq le tb am sd bn), .long (gX_step_6_3 pp s3 po pz lo df st sp li)])), (h7, .inl (kB, 3, .inl lo))] := by rw [show (gX_step_0_8 pp st po pz lo df) = st from (if_pos c_1), show (gX_step_0_9 pp df po pz lo) = df from (if_pos c_1), show (gX_step_0_11 pp tq po pz lo df st sp li le tb am sd bn) = tq from (if_pos c_1), show (gX_step_0_12 pp tp po pz tq) = tp from (if_pos c_1), show (gX_step_0_13 pp pd po pz lo df st sp li) = pd from (if_pos c_1), show (gX_step_0_14 pp wa po pz lo df st sp li le tb am sd bn) = wa from (if_pos c_1), show (gX_step_0_15 pp ai po pz tb lo df st sp li tq le am sd bn) = ai from (if_pos c_1), show (gX_step_0_16 pp fu po pz lo df st sp li tq le tb am sd bn) = fu from (if_pos c_1), show (gX_step_0_17 pp mo po pz lo df st sp li) = mo from (if_pos c_1), show (gX_step_0_18 pp sp po pz lo) = sp from (if_pos c_1), show (gX_step_3_1 pp wt po pz) = wt from (if_pos c_1), show (gX_step_4 pp le po pz) = le from (if_pos c_1), show (gX_step_5_1 pp sd po pz lo df st sp li am) = sd from (if_pos c_1), show (gX_step_6_0 pp s0 po pz) = s0 from (if_pos c_1), show (gX_step_6_1 pp s1 po pz lo df st sp li tq le tb am sd bn) = s1 from (if_pos c_1), show (gX_step_6_2 pp s2 po pz lo df st sp li tq le tb am sd bn) = s2 from (if_pos c_1), show (gX_step_6_3 pp s3 po pz lo df st sp li) = s3 from (if_pos c_1)]; exact ⟨hP, hD⟩
    exact W.iret (v := (-2)) hx hb hr (fun t ht hW => ⟨⟨(-2), (), rfl, ((if_pos c_1)).symm, by rw [ht]; exact h9.1, va_K.moved hW.alike hK, h9.2⟩, hS.F ht⟩) hS.2.2 d_X_step_33
  · refine lv_lload_n hx hb d_X_step_10 rfl (lv_at hl 2 rfl) ?_
    refine lv_ldc2 (v := 1000) hx hb hown (hts (.constantLong R_X 52 1000) mw_79) d_X_step_11 ?_
    have hPc := hP.sub (ws' := []) [] rfl
    have hDc := hD.sub (ws' := []) [] (by decide) rfl
    have hKc := hK.sub (tys' := []) [] rfl
    have hFc := va_free (wc := []) hD hS hA [] rfl
    refine ca_i (va_runS (As := [.long po, .long 1000]) (rest := []) ⟨hx, hb, hml, hown, hts⟩ (c_X_isUpTo l dC dI H.size po 1000) (va_cwS 2 hts (gS_ mw_84 mw_83 mw_52 mw_82) rfl rfl rfl (by decide +kernel) ⟨Nat.le_of_ble_eq_true rfl, Nat.le_of_ble_eq_true rfl⟩) ⟨fb_, pu_ hPc hKc hDc hN⟩ rfl rfl hl.1 rfl (lv_room (Nat.le_of_ble_eq_true rfl)) d_X_step_14 ⟨Nat.le_of_ble_eq_true rfl, Nat.le_of_ble_eq_true rfl⟩) hS (fun q _ h => hFc q h) hFc (fun t H locs ht hvm hB hz1 hk1 hS => ?_)
    obtain ⟨hP, hD⟩ := aft_ (wr := [(h0, .inr (4, [.ref h1, .ref h3, .ref h5, .ref h6, .ref h7, .int bn, .int cy, .int li, .int st, .int df, .int tm, .int tq, .int tp, .int pd, .int wa, .int ai, .int fu, .int mo, .int sp])), (h1, .inr (0, [.ref h2])), (h2, .inl (kT, 320, .inl tb)), (h3, .inr (1, [.ref h4, .int wt])), (h4, .inl (kW, 6, .inl le)), (h5, .inr (2, [.int am, .int sd])), (h6, .inr (3, [.long s0, .long s1, .long s2, .long s3])), (h7, .inl (kB, 3, .inl lo))]) (w1 := []) (w2 := [(h0, .inr (4, [.ref h1, .ref h3, .ref h5, .ref h6, .ref h7, .int bn, .int cy, .int li, .int st, .int df, .int tm, .int tq, .int tp, .int pd, .int wa, .int ai, .int fu, .int mo, .int sp])), (h1, .inr (0, [.ref h2])), (h2, .inl (kT, 320, .inl tb)), (h3, .inr (1, [.ref h4, .int wt])), (h4, .inl (kW, 6, .inl le)), (h5, .inr (2, [.int am, .int sd])), (h6, .inr (3, [.long s0, .long s1, .long s2, .long s3])), (h7, .inl (kB, 3, .inl lo))]) hP hD [] [0, 1, 2, 3, 4, 5, 6, 7] [0, 1, 2, 3, 4, 5, 6, 7] rfl rfl (by decide) (by decide) hk1 hFc hB ht rfl (by decide)
    refine lv_if_eq (tgt := 31) hx hb d_X_step_17 (by decide) (fun c_2 => ?_) (fun c_2 => ?_)
    · refine lv_bipush (v := (-2)) hx hb d_X_step_31 (by decide) ?_
      have h9 : va_P (dC, dI) classes [(h0, .inr (4, [.ref h1, .ref h3, .ref h5, .ref h6, .ref h7, .int bn, .int cy, .int li, .int (gX_step_0_8 pp st po pz lo df), .int (gX_step_0_9 pp df po pz lo), .int tm, .int (gX_step_0_11 pp tq po pz lo df st sp li le tb am sd bn), .int (gX_step_0_12 pp tp po pz tq), .int (gX_step_0_13 pp pd po pz lo df st sp li), .int (gX_step_0_14 pp wa po pz lo df st sp li le tb am sd bn), .int (gX_step_0_15 pp ai po pz tb lo df st sp li tq le am sd bn), .int (gX_step_0_16 pp fu po pz lo df st sp li tq le tb am sd bn), .int (gX_step_0_17 pp mo po pz lo df st sp li), .int (gX_step_0_18 pp sp po pz lo)])), (h1, .inr (0, [.ref h2])), (h2, .inl (kT, 320, .inl tb)), (h3, .inr (1, [.ref h4, .int (gX_step_3_1 pp wt po pz)])), (h4, .inl (kW, 6, .inl (gX_step_4 pp le po pz))), (h5, .inr (2, [.int am, .int (gX_step_5_1 pp sd po pz lo df st sp li am)])), (h6, .inr (3, [.long (gX_step_6_0 pp s0 po pz), .long (gX_step_6_1 pp s1 po pz lo df st sp li tq le tb am sd bn), .long (gX_step_6_2 pp s2 po pz lo df st sp li tq le tb am sd bn), .long (gX_step_6_3 pp s3 po pz lo df st sp li)])), (h7, .inl (kB, 3, .inl lo))] H ∧ va_D A [(h0, .inr (4, [.ref h1, .ref h3, .ref h5, .ref h6, .ref h7, .int bn, .int cy, .int li, .int (gX_step_0_8 pp st po pz lo df), .int (gX_step_0_9 pp df po pz lo), .int tm, .int (gX_step_0_11 pp tq po pz lo df st sp li le tb am sd bn), .int (gX_step_0_12 pp tp po pz tq), .int (gX_step_0_13 pp pd po pz lo df st sp li), .int (gX_step_0_14 pp wa po pz lo df st sp li le tb am sd bn), .int (gX_step_0_15 pp ai po pz tb lo df st sp li tq le am sd bn), .int (gX_step_0_16 pp fu po pz lo df st sp li tq le tb am sd bn), .int (gX_step_0_17 pp mo po pz lo df st sp li), .int (gX_step_0_18 pp sp po pz lo)])), (h1, .inr (0, [.ref h2])), (h2, .inl (kT, 320, .inl tb)), (h3, .inr (1, [.ref h4, .int (gX_step_3_1 pp wt po pz)])), (h4, .inl (kW, 6, .inl (gX_step_4 pp le po pz))), (h5, .inr (2, [.int am, .int (gX_step_5_1 pp sd po pz lo df st sp li am)])), (h6, .inr (3, [.long (gX_step_6_0 pp s0 po pz), .long (gX_step_6_1 pp s1 po pz lo df st sp li tq le tb am sd bn), .long (gX_step_6_2 pp s2 po pz lo df st sp li tq le tb am sd bn), .long (gX_step_6_3 pp s3 po pz lo df st sp li)])), (h7, .inl (kB, 3, .inl lo))] := by rw [show (gX_step_0_8 pp st po pz lo df) = st from ((if_neg c_1).trans (if_pos c_2)), show (gX_step_0_9 pp df po pz lo) = df from ((if_neg c_1).trans (if_pos c_2)), show (gX_step_0_11 pp tq po pz lo df st sp li le tb am sd bn) = tq from ((if_neg c_1).trans (if_pos c_2)), show (gX_step_0_12 pp tp po pz tq) = tp from ((if_neg c_1).trans (if_pos c_2)), show (gX_step_0_13 pp pd po pz lo df st sp li) = pd from ((if_neg c_1).trans (if_pos c_2)), show (gX_step_0_14 pp wa po pz lo df st sp li le tb am sd bn) = wa from ((if_neg c_1).trans (if_pos c_2)), show (gX_step_0_15 pp ai po pz tb lo df st sp li tq le am sd bn) = ai from ((if_neg c_1).trans (if_pos c_2)), show (gX_step_0_16 pp fu po pz lo df st sp li tq le tb am sd bn) = fu from ((if_neg c_1).trans (if_pos c_2)), show (gX_step_0_17 pp mo po pz lo df st sp li) = mo from ((if_neg c_1).trans (if_pos c_2)), show (gX_step_0_18 pp sp po pz lo) = sp from ((if_neg c_1).trans (if_pos c_2)), show (gX_step_3_1 pp wt po pz) = wt from ((if_neg c_1).trans (if_pos c_2)), show (gX_step_4 pp le po pz) = le from ((if_neg c_1).trans (if_pos c_2)), show (gX_step_5_1 pp sd po pz lo df st sp li am) = sd from ((if_neg c_1).trans (if_pos c_2)), show (gX_step_6_0 pp s0 po pz) = s0 from ((if_neg c_1).trans (if_pos c_2)), show (gX_step_6_1 pp s1 po pz lo df st sp li tq le tb am sd bn) = s1 from ((if_neg c_1).trans (if_pos c_2)), show (gX_step_6_2 pp s2 po pz lo df st sp li tq le tb am sd bn) = s2 from ((if_neg c_1).trans (if_pos c_2)), show (gX_step_6_3 pp s3 po pz lo df st sp li) = s3 from ((if_neg c_1).trans (if_pos c_2))]; exact ⟨hP, hD⟩
      exact W.iret (v := (-2)) hx hb hr (fun t ht hW => ⟨⟨(-2), (), rfl, (((if_neg c_1).trans (if_pos c_2))).symm, by rw [ht]; exact h9.1, va_K.moved hW.alike hK, h9.2⟩, hS.F ht⟩) hS.2.2 d_X_step_33
    · refine lv_lload hx hb d_X_step_20 (lv_at hl 3 rfl) ?_
      refine lv_ldc2 (v := 10000) hx hb hown (hts (.constantLong R_X 62 10000) mw_88) d_X_step_22 ?_
      have hPc := hP.sub (ws' := []) [] rfl
      have hDc := hD.sub (ws' := []) [] (by decide) rfl
      have hKc := hK.sub (tys' := []) [] rfl
      have hFc := va_free (wc := []) hD hS hA [] rfl
      refine ca_i (va_runS (As := [.long pz, .long 10000]) (rest := []) ⟨hx, hb, hml, hown, hts⟩ (c_X_isUpTo l dC dI H.size pz 10000) (va_cwS 2 hts (gS_ mw_84 mw_83 mw_52 mw_82) rfl rfl rfl (by decide +kernel) ⟨Nat.le_of_ble_eq_true rfl, Nat.le_of_ble_eq_true rfl⟩) ⟨fb_, pu_ hPc hKc hDc hN⟩ rfl rfl hl.1 rfl (lv_room (Nat.le_of_ble_eq_true rfl)) d_X_step_25 ⟨Nat.le_of_ble_eq_true rfl, Nat.le_of_ble_eq_true rfl⟩) hS (fun q _ h => hFc q h) hFc (fun t H locs ht hvm hB hz1 hk1 hS => ?_)
      obtain ⟨hP, hD⟩ := aft_ (wr := [(h0, .inr (4, [.ref h1, .ref h3, .ref h5, .ref h6, .ref h7, .int bn, .int cy, .int li, .int st, .int df, .int tm, .int tq, .int tp, .int pd, .int wa, .int ai, .int fu, .int mo, .int sp])), (h1, .inr (0, [.ref h2])), (h2, .inl (kT, 320, .inl tb)), (h3, .inr (1, [.ref h4, .int wt])), (h4, .inl (kW, 6, .inl le)), (h5, .inr (2, [.int am, .int sd])), (h6, .inr (3, [.long s0, .long s1, .long s2, .long s3])), (h7, .inl (kB, 3, .inl lo))]) (w1 := []) (w2 := [(h0, .inr (4, [.ref h1, .ref h3, .ref h5, .ref h6, .ref h7, .int bn, .int cy, .int li, .int st, .int df, .int tm, .int tq, .int tp, .int pd, .int wa, .int ai, .int fu, .int mo, .int sp])), (h1, .inr (0, [.ref h2])), (h2, .inl (kT, 320, .inl tb)), (h3, .inr (1, [.ref h4, .int wt])), (h4, .inl (kW, 6, .inl le)), (h5, .inr (2, [.int am, .int sd])), (h6, .inr (3, [.long s0, .long s1, .long s2, .long s3])), (h7, .inl (kB, 3, .inl lo))]) hP hD [] [0, 1, 2, 3, 4, 5, 6, 7] [0, 1, 2, 3, 4, 5, 6, 7] rfl rfl (by decide) (by decide) hk1 hFc hB ht rfl (by decide)
      refine lv_if_ne (tgt := 34) hx hb d_X_step_28 (by decide) (fun c_3 => ?_) (fun c_3 => ?_)
      · refine lv_aload_n hx hb d_X_step_34 rfl (lv_at hl 0 rfl) ?_
        refine lv_aload_n hx hb d_X_step_35 rfl (lv_at hl 0 rfl) ?_
        refine va_get (D := (dC, dI)) (ci := 4) (v := .int tq) (C := R_X) (T := F_X) (N := 19) hx hb hts in_X hown hK hP 0 rfl rfl 11 (by decide) (hts (.fieldLink R_X 64 "TorqueRows" "torqueNow" "I") mw_74) (fun _ h9 => h9) rfl d_X_step_36 ?_
        refine va_put (D := (dC, dI)) (ci := 4) (v := .int tq) (ty := .int) (C := R_X) (T := F_X) (N := 19) hx hb hts in_X t_X t_X_ok n_X hown hK hP hD hS 0 rfl rfl 12 (by decide) (hts (.fieldLink R_X 67 "TorqueRows" "torqueBefore" "I") mw_35) (fun _ h9 => h9) rfl (by decide +kernel) rfl rfl (Nat.le_of_ble_eq_true rfl) d_X_step_39 (fun H locs hP hD hS => ?_)
        have hP : va_P (dC, dI) classes [(h0, .inr (4, [.ref h1, .ref h3, .ref h5, .ref h6, .ref h7, .int bn, .int cy, .int li, .int st, .int df, .int tm, .int tq, .int tq, .int pd, .int wa, .int ai, .int fu, .int mo, .int sp])), (h1, .inr (0, [.ref h2])), (h2, .inl (kT, 320, .inl tb)), (h3, .inr (1, [.ref h4, .int wt])), (h4, .inl (kW, 6, .inl le)), (h5, .inr (2, [.int am, .int sd])), (h6, .inr (3, [.long s0, .long s1, .long s2, .long s3])), (h7, .inl (kB, 3, .inl lo))] H := hP
        have hD : va_D A [(h0, .inr (4, [.ref h1, .ref h3, .ref h5, .ref h6, .ref h7, .int bn, .int cy, .int li, .int st, .int df, .int tm, .int tq, .int tq, .int pd, .int wa, .int ai, .int fu, .int mo, .int sp])), (h1, .inr (0, [.ref h2])), (h2, .inl (kT, 320, .inl tb)), (h3, .inr (1, [.ref h4, .int wt])), (h4, .inl (kW, 6, .inl le)), (h5, .inr (2, [.int am, .int sd])), (h6, .inr (3, [.long s0, .long s1, .long s2, .long s3])), (h7, .inl (kB, 3, .inl lo))] := hD
        refine lv_aload_n hx hb d_X_step_42 rfl (lv_at hl 0 rfl) ?_
        refine lv_lload hx hb d_X_step_43 (lv_at hl 3 rfl) ?_
        refine lv_l2i (v := (pz.toInt32)) hx hb d_X_step_45 rfl ?_
        have hPc := hP.sub (ws' := [(h0, .inr (4, [.ref h1, .ref h3, .ref h5, .ref h6, .ref h7, .int bn, .int cy, .int li, .int st, .int df, .int tm, .int tq, .int tq, .int pd, .int wa, .int ai, .int fu, .int mo, .int sp])), (h1, .inr (0, [.ref h2])), (h2, .inl (kT, 320, .inl tb)), (h3, .inr (1, [.ref h4, .int wt])), (h4, .inl (kW, 6, .inl le)), (h5, .inr (2, [.int am, .int sd])), (h6, .inr (3, [.long s0, .long s1, .long s2, .long s3])), (h7, .inl (kB, 3, .inl lo))]) [0, 1, 2, 3, 4, 5, 6, 7] rfl
        have hDc := hD.sub (ws' := [(h0, .inr (4, [.ref h1, .ref h3, .ref h5, .ref h6, .ref h7, .int bn, .int cy, .int li, .int st, .int df, .int tm, .int tq, .int tq, .int pd, .int wa, .int ai, .int fu, .int mo, .int sp])), (h1, .inr (0, [.ref h2])), (h2, .inl (kT, 320, .inl tb)), (h3, .inr (1, [.ref h4, .int wt])), (h4, .inl (kW, 6, .inl le)), (h5, .inr (2, [.int am, .int sd])), (h6, .inr (3, [.long s0, .long s1, .long s2, .long s3])), (h7, .inl (kB, 3, .inl lo))]) [0, 1, 2, 3, 4, 5, 6, 7] (by decide) rfl
        have hKc := hK.sub (tys' := [(kT, .int), (kW, .int), (kB, .boolean)]) [0, 1, 2] rfl
        have hFc := va_free (wc := [(h0, .inr (4, [.ref h1, .ref h3, .ref h5, .ref h6, .ref h7, .int bn, .int cy, .int li, .int st, .int df, .int tm, .int tq, .int tq, .int pd, .int wa, .int ai, .int fu, .int mo, .int sp])), (h1, .inr (0, [.ref h2])), (h2, .inl (kT, 320, .inl tb)), (h3, .inr (1, [.ref h4, .int wt])), (h4, .inl (kW, 6, .inl le)), (h5, .inr (2, [.int am, .int sd])), (h6, .inr (3, [.long s0, .long s1, .long s2, .long s3])), (h7, .inl (kB, 3, .inl lo))]) hD hS hA [0, 1, 2, 3, 4, 5, 6, 7] rfl
        refine ca_v (va_runV (As := [.int (pz.toInt32)]) (rest := []) ⟨hx, hb, hml, hown, hts⟩ (c_X_takeSpeed l dC dI h0 h1 h2 h3 h4 h5 h6 h7 kT kW kB H.size bn cy li st df tm tq tq pd wa ai fu mo sp tb wt le am sd s0 s1 s2 s3 lo (pz.toInt32)) (cwV 1 hts (gV_ mw_96 mw_94 mw_95 mw_52 mw_93) rfl rfl rfl (by decide +kernel) ⟨Nat.le_of_ble_eq_true rfl, Nat.le_of_ble_eq_true rfl⟩) ⟨fb_, va_recv hKc hPc (ci := 4) (q0 := 0) rfl rfl, pu_ hPc hKc hDc hN⟩ rfl rfl hl.1 rfl (lv_room (Nat.le_of_ble_eq_true rfl)) d_X_step_46 ⟨Nat.le_of_ble_eq_true rfl, Nat.le_of_ble_eq_true rfl⟩) hS (fun q _ h => hFc q h) hFc (fun t H locs ht hvm hB hz1 hk1 hS => ?_)
        obtain ⟨hP, hD⟩ := aft_ (wr := []) (w1 := [(h0, .inr (4, [.ref h1, .ref h3, .ref h5, .ref h6, .ref h7, .int bn, .int cy, .int li, .int st, .int df, .int tm, .int tq, .int tq, .int pd, .int wa, .int ai, .int fu, .int mo, .int (gX_takeSpeed_0_18 lo (pz.toInt32) sp)])), (h1, .inr (0, [.ref h2])), (h2, .inl (kT, 320, .inl tb)), (h3, .inr (1, [.ref h4, .int wt])), (h4, .inl (kW, 6, .inl le)), (h5, .inr (2, [.int am, .int sd])), (h6, .inr (3, [.long s0, .long s1, .long s2, .long s3])), (h7, .inl (kB, 3, .inl lo))]) (w2 := [(h0, .inr (4, [.ref h1, .ref h3, .ref h5, .ref h6, .ref h7, .int bn, .int cy, .int li, .int st, .int df, .int tm, .int tq, .int tq, .int pd, .int wa, .int ai, .int fu, .int mo, .int (gX_takeSpeed_0_18 lo (pz.toInt32) sp)])), (h1, .inr (0, [.ref h2])), (h2, .inl (kT, 320, .inl tb)), (h3, .inr (1, [.ref h4, .int wt])), (h4, .inl (kW, 6, .inl le)), (h5, .inr (2, [.int am, .int sd])), (h6, .inr (3, [.long s0, .long s1, .long s2, .long s3])), (h7, .inl (kB, 3, .inl lo))]) hP hD [0, 1, 2, 3, 4, 5, 6, 7] [] [0, 1, 2, 3, 4, 5, 6, 7] rfl rfl (by decide) (by decide) hk1 hFc hB ht rfl (by decide)
        refine lv_aload_n hx hb d_X_step_49 rfl (lv_at hl 0 rfl) ?_
        refine lv_lload_n hx hb d_X_step_50 rfl (lv_at hl 1 rfl) ?_
        refine lv_l2i (v := (pp.toInt32)) hx hb d_X_step_51 rfl ?_
        refine lv_lload_n hx hb d_X_step_52 rfl (lv_at hl 2 rfl) ?_
        refine lv_l2i (v := (po.toInt32)) hx hb d_X_step_53 rfl ?_
        have hPc := hP.sub (ws' := [(h0, .inr (4, [.ref h1, .ref h3, .ref h5, .ref h6, .ref h7, .int bn, .int cy, .int li, .int st, .int df, .int tm, .int tq, .int tq, .int pd, .int wa, .int ai, .int fu, .int mo, .int (gX_takeSpeed_0_18 lo (pz.toInt32) sp)])), (h1, .inr (0, [.ref h2])), (h2, .inl (kT, 320, .inl tb)), (h3, .inr (1, [.ref h4, .int wt])), (h4, .inl (kW, 6, .inl le)), (h5, .inr (2, [.int am, .int sd])), (h6, .inr (3, [.long s0, .long s1, .long s2, .long s3])), (h7, .inl (kB, 3, .inl lo))]) [0, 1, 2, 3, 4, 5, 6, 7] rfl
        have hDc := hD.sub (ws' := [(h0, .inr (4, [.ref h1, .ref h3, .ref h5, .ref h6, .ref h7, .int bn, .int cy, .int li, .int st, .int df, .int tm, .int tq, .int tq, .int pd, .int wa, .int ai, .int fu, .int mo, .int (gX_takeSpeed_0_18 lo (pz.toInt32) sp)])), (h1, .inr (0, [.ref h2])), (h2, .inl (kT, 320, .inl tb)), (h3, .inr (1, [.ref h4, .int wt])), (h4, .inl (kW, 6, .inl le)), (h5, .inr (2, [.int am, .int sd])), (h6, .inr (3, [.long s0, .long s1, .long s2, .long s3])), (h7, .inl (kB, 3, .inl lo))]) [0, 1, 2, 3, 4, 5, 6, 7] (by decide) rfl
        have hKc := hK.sub (tys' := [(kT, .int), (kW, .int), (kB, .boolean)]) [0, 1, 2] rfl
        have hFc := va_free (wc := [(h0, .inr (4, [.ref h1, .ref h3, .ref h5, .ref h6, .ref h7, .int bn, .int cy, .int li, .int st, .int df, .int tm, .int tq, .int tq, .int pd, .int wa, .int ai, .int fu, .int mo, .int (gX_takeSpeed_0_18 lo (pz.toInt32) sp)])), (h1, .inr (0, [.ref h2])), (h2, .inl (kT, 320, .inl tb)), (h3, .inr (1, [.ref h4, .int wt])), (h4, .inl (kW, 6, .inl le)), (h5, .inr (2, [.int am, .int sd])), (h6, .inr (3, [.long s0, .long s1, .long s2, .long s3])), (h7, .inl (kB, 3, .inl lo))]) hD hS hA [0, 1, 2, 3, 4, 5, 6, 7] rfl
        refine ca_v (va_runV (As := [.int (pp.toInt32), .int (po.toInt32)]) (rest := []) ⟨hx, hb, hml, hown, hts⟩ (c_X_takeTracks l dC dI h0 h1 h2 h3 h4 h5 h6 h7 kT kW kB H.size bn cy li st df tm tq tq pd wa ai fu mo (gX_takeSpeed_0_18 lo (pz.toInt32) sp) tb wt le am sd s0 s1 s2 s3 lo (pp.toInt32) (po.toInt32)) (cwV 2 hts (gV_ mw_100 mw_98 mw_99 mw_52 mw_97) rfl rfl rfl (by decide +kernel) ⟨Nat.le_of_ble_eq_true rfl, Nat.le_of_ble_eq_true rfl⟩) ⟨fb_, va_recv hKc hPc (ci := 4) (q0 := 0) rfl rfl, pu_ hPc hKc hDc hN⟩ rfl rfl hl.1 rfl (lv_room (Nat.le_of_ble_eq_true rfl)) d_X_step_54 ⟨Nat.le_of_ble_eq_true rfl, Nat.le_of_ble_eq_true rfl⟩) hS (fun q _ h => hFc q h) hFc (fun t H locs ht hvm hB hz1 hk1 hS => ?_)
        obtain ⟨hP, hD⟩ := aft_ (wr := []) (w1 := [(h0, .inr (4, [.ref h1, .ref h3, .ref h5, .ref h6, .ref h7, .int bn, .int cy, .int li, .int (vX_step_0 lo pp po df st), .int (vX_step_1 lo pp po df), .int tm, .int tq, .int tq, .int (vX_takeTracks_5 lo (pp.toInt32) (po.toInt32)), .int wa, .int ai, .int fu, .int mo, .int (gX_takeSpeed_0_18 lo (pz.toInt32) sp)])), (h1, .inr (0, [.ref h2])), (h2, .inl (kT, 320, .inl tb)), (h3, .inr (1, [.ref h4, .int wt])), (h4, .inl (kW, 6, .inl le)), (h5, .inr (2, [.int am, .int sd])), (h6, .inr (3, [.long s0, .long s1, .long s2, .long s3])), (h7, .inl (kB, 3, .inl lo))]) (w2 := [(h0, .inr (4, [.ref h1, .ref h3, .ref h5, .ref h6, .ref h7, .int bn, .int cy, .int li, .int (vX_step_0 lo pp po df st), .int (vX_step_1 lo pp po df), .int tm, .int tq, .int tq, .int (vX_takeTracks_5 lo (pp.toInt32) (po.toInt32)), .int wa, .int ai, .int fu, .int mo, .int (gX_takeSpeed_0_18 lo (pz.toInt32) sp)])), (h1, .inr (0, [.ref h2])), (h2, .inl (kT, 320, .inl tb)), (h3, .inr (1, [.ref h4, .int wt])), (h4, .inl (kW, 6, .inl le)), (h5, .inr (2, [.int am, .int sd])), (h6, .inr (3, [.long s0, .long s1, .long s2, .long s3])), (h7, .inl (kB, 3, .inl lo))]) hP hD [0, 1, 2, 3, 4, 5, 6, 7] [] [0, 1, 2, 3, 4, 5, 6, 7] rfl rfl (by decide) (by decide) hk1 hFc hB ht rfl (by decide)
        refine lv_aload_n hx hb d_X_step_57 rfl (lv_at hl 0 rfl) ?_
        refine lv_aload_n hx hb d_X_step_58 rfl (lv_at hl 0 rfl) ?_
        have hPc := hP.sub (ws' := [(h0, .inr (4, [.ref h1, .ref h3, .ref h5, .ref h6, .ref h7, .int bn, .int cy, .int li, .int (vX_step_0 lo pp po df st), .int (vX_step_1 lo pp po df), .int tm, .int tq, .int tq, .int (vX_takeTracks_5 lo (pp.toInt32) (po.toInt32)), .int wa, .int ai, .int fu, .int mo, .int (gX_takeSpeed_0_18 lo (pz.toInt32) sp)])), (h1, .inr (0, [.ref h2])), (h2, .inl (kT, 320, .inl tb)), (h3, .inr (1, [.ref h4, .int wt])), (h4, .inl (kW, 6, .inl le)), (h5, .inr (2, [.int am, .int sd])), (h6, .inr (3, [.long s0, .long s1, .long s2, .long s3])), (h7, .inl (kB, 3, .inl lo))]) [0, 1, 2, 3, 4, 5, 6, 7] rfl
        have hDc := hD.sub (ws' := [(h0, .inr (4, [.ref h1, .ref h3, .ref h5, .ref h6, .ref h7, .int bn, .int cy, .int li, .int (vX_step_0 lo pp po df st), .int (vX_step_1 lo pp po df), .int tm, .int tq, .int tq, .int (vX_takeTracks_5 lo (pp.toInt32) (po.toInt32)), .int wa, .int ai, .int fu, .int mo, .int (gX_takeSpeed_0_18 lo (pz.toInt32) sp)])), (h1, .inr (0, [.ref h2])), (h2, .inl (kT, 320, .inl tb)), (h3, .inr (1, [.ref h4, .int wt])), (h4, .inl (kW, 6, .inl le)), (h5, .inr (2, [.int am, .int sd])), (h6, .inr (3, [.long s0, .long s1, .long s2, .long s3])), (h7, .inl (kB, 3, .inl lo))]) [0, 1, 2, 3, 4, 5, 6, 7] (by decide) rfl
        have hKc := hK.sub (tys' := [(kT, .int), (kW, .int), (kB, .boolean)]) [0, 1, 2] rfl
        have hFc := va_free (wc := [(h0, .inr (4, [.ref h1, .ref h3, .ref h5, .ref h6, .ref h7, .int bn, .int cy, .int li, .int (vX_step_0 lo pp po df st), .int (vX_step_1 lo pp po df), .int tm, .int tq, .int tq, .int (vX_takeTracks_5 lo (pp.toInt32) (po.toInt32)), .int wa, .int ai, .int fu, .int mo, .int (gX_takeSpeed_0_18 lo (pz.toInt32) sp)])), (h1, .inr (0, [.ref h2])), (h2, .inl (kT, 320, .inl tb)), (h3, .inr (1, [.ref h4, .int wt])), (h4, .inl (kW, 6, .inl le)), (h5, .inr (2, [.int am, .int sd])), (h6, .inr (3, [.long s0, .long s1, .long s2, .long s3])), (h7, .inl (kB, 3, .inl lo))]) hD hS hA [0, 1, 2, 3, 4, 5, 6, 7] rfl
        refine ca_i (va_runV (As := []) (rest := [.ref h0]) ⟨hx, hb, hml, hown, hts⟩ (c_X_chooseMode l dC dI h0 h1 h2 h3 h4 h5 h6 h7 kT kW kB H.size bn cy li (vX_step_0 lo pp po df st) (vX_step_1 lo pp po df) tm tq tq (vX_takeTracks_5 lo (pp.toInt32) (po.toInt32)) wa ai fu mo (gX_takeSpeed_0_18 lo (pz.toInt32) sp) tb wt le am sd s0 s1 s2 s3 lo) (cwV 0 hts (gV_ mw_104 mw_102 mw_103 mw_52 mw_101) rfl rfl rfl (by decide +kernel) ⟨Nat.le_of_ble_eq_true rfl, Nat.le_of_ble_eq_true rfl⟩) ⟨fb_, va_recv hKc hPc (ci := 4) (q0 := 0) rfl rfl, pu_ hPc hKc hDc hN⟩ rfl rfl hl.1 rfl (lv_room (Nat.le_of_ble_eq_true rfl)) d_X_step_59 ⟨Nat.le_of_ble_eq_true rfl, Nat.le_of_ble_eq_true rfl⟩) hS (fun q _ h => hFc q h) hFc (fun t H locs ht hvm hB hz1 hk1 hS => ?_)
        obtain ⟨hP, hD⟩ := aft_ (wr := []) (w1 := [(h0, .inr (4, [.ref h1, .ref h3, .ref h5, .ref h6, .ref h7, .int bn, .int cy, .int li, .int (vX_step_0 lo pp po df st), .int (vX_step_1 lo pp po df), .int tm, .int tq, .int tq, .int (vX_takeTracks_5 lo (pp.toInt32) (po.toInt32)), .int wa, .int ai, .int fu, .int mo, .int (gX_takeSpeed_0_18 lo (pz.toInt32) sp)])), (h1, .inr (0, [.ref h2])), (h2, .inl (kT, 320, .inl tb)), (h3, .inr (1, [.ref h4, .int wt])), (h4, .inl (kW, 6, .inl le)), (h5, .inr (2, [.int am, .int sd])), (h6, .inr (3, [.long s0, .long s1, .long s2, .long s3])), (h7, .inl (kB, 3, .inl lo))]) (w2 := [(h0, .inr (4, [.ref h1, .ref h3, .ref h5, .ref h6, .ref h7, .int bn, .int cy, .int li, .int (vX_step_0 lo pp po df st), .int (vX_step_1 lo pp po df), .int tm, .int tq, .int tq, .int (vX_takeTracks_5 lo (pp.toInt32) (po.toInt32)), .int wa, .int ai, .int fu, .int mo, .int (gX_takeSpeed_0_18 lo (pz.toInt32) sp)])), (h1, .inr (0, [.ref h2])), (h2, .inl (kT, 320, .inl tb)), (h3, .inr (1, [.ref h4, .int wt])), (h4, .inl (kW, 6, .inl le)), (h5, .inr (2, [.int am, .int sd])), (h6, .inr (3, [.long s0, .long s1, .long s2, .long s3])), (h7, .inl (kB, 3, .inl lo))]) hP hD [0, 1, 2, 3, 4, 5, 6, 7] [] [0, 1, 2, 3, 4, 5, 6, 7] rfl rfl (by decide) (by decide) hk1 hFc hB ht rfl (by decide)
        refine va_put (D := (dC, dI)) (ci := 4) (v := .int (vX_step_2 lo pp po df st pz sp li)) (ty := .int) (C := R_X) (T := F_X) (N := 19) hx hb hts in_X t_X t_X_ok n_X hown hK hP hD hS 0 rfl rfl 17 (by decide) (hts (.fieldLink R_X 82 "TorqueRows" "lastMode" "I") mw_33) (fun _ h9 => h9) rfl (by decide +kernel) rfl rfl (Nat.le_of_ble_eq_true rfl) d_X_step_62 (fun H locs hP hD hS => ?_)
        have hP : va_P (dC, dI) classes [(h0, .inr (4, [.ref h1, .ref h3, .ref h5, .ref h6, .ref h7, .int bn, .int cy, .int li, .int (vX_step_0 lo pp po df st), .int (vX_step_1 lo pp po df), .int tm, .int tq, .int tq, .int (vX_takeTracks_5 lo (pp.toInt32) (po.toInt32)), .int wa, .int ai, .int fu, .int (vX_step_2 lo pp po df st pz sp li), .int (gX_takeSpeed_0_18 lo (pz.toInt32) sp)])), (h1, .inr (0, [.ref h2])), (h2, .inl (kT, 320, .inl tb)), (h3, .inr (1, [.ref h4, .int wt])), (h4, .inl (kW, 6, .inl le)), (h5, .inr (2, [.int am, .int sd])), (h6, .inr (3, [.long s0, .long s1, .long s2, .long s3])), (h7, .inl (kB, 3, .inl lo))] H := hP
        have hD : va_D A [(h0, .inr (4, [.ref h1, .ref h3, .ref h5, .ref h6, .ref h7, .int bn, .int cy, .int li, .int (vX_step_0 lo pp po df st), .int (vX_step_1 lo pp po df), .int tm, .int tq, .int tq, .int (vX_takeTracks_5 lo (pp.toInt32) (po.toInt32)), .int wa, .int ai, .int fu, .int (vX_step_2 lo pp po df st pz sp li), .int (gX_takeSpeed_0_18 lo (pz.toInt32) sp)])), (h1, .inr (0, [.ref h2])), (h2, .inl (kT, 320, .inl tb)), (h3, .inr (1, [.ref h4, .int wt])), (h4, .inl (kW, 6, .inl le)), (h5, .inr (2, [.int am, .int sd])), (h6, .inr (3, [.long s0, .long s1, .long s2, .long s3])), (h7, .inl (kB, 3, .inl lo))] := hD
        refine lv_aload_n hx hb d_X_step_65 rfl (lv_at hl 0 rfl) ?_
        refine va_get (D := (dC, dI)) (ci := 4) (v := .int (vX_step_2 lo pp po df st pz sp li)) (C := R_X) (T := F_X) (N := 19) hx hb hts in_X hown hK hP 0 rfl rfl 17 (by decide) (hts (.fieldLink R_X 82 "TorqueRows" "lastMode" "I") mw_33) (fun _ h9 => h9) rfl d_X_step_66 ?_
        refine lv_iconst (v := 4) hx hb d_X_step_69 (by decide) ?_
        refine jn 7 [(0, .ref h0), (1, .long pp), (3, .long po), (5, .long pz)] [(h0, .inr (4, [.ref h1, .ref h3, .ref h5, .ref h6, .ref h7, .int bn, .int cy, .int li, .int (vX_step_0 lo pp po df st), .int (vX_step_1 lo pp po df), .int tm, .int tq, .int tq, .int (vX_step_3 lo pp po df st pz sp li), .int wa, .int ai, .int fu, .int (vX_step_2 lo pp po df st pz sp li), .int (gX_takeSpeed_0_18 lo (pz.toInt32) sp)])), (h1, .inr (0, [.ref h2])), (h2, .inl (kT, 320, .inl tb)), (h3, .inr (1, [.ref h4, .int wt])), (h4, .inl (kW, 6, .inl le)), (h5, .inr (2, [.int am, .int sd])), (h6, .inr (3, [.long s0, .long s1, .long s2, .long s3])), (h7, .inl (kB, 3, .inl lo))] 78 [] (D := (dC, dI)) (A := A) (H0 := s.heap) (fun ls H locs hl hP hD hS => ?_) (fun J_5 => ?_)
        · refine lv_aload_n hx hb d_X_step_78 rfl (lv_at hl 0 rfl) ?_
          refine lv_aload_n hx hb d_X_step_79 rfl (lv_at hl 0 rfl) ?_
          have hPc := hP.sub (ws' := [(h0, .inr (4, [.ref h1, .ref h3, .ref h5, .ref h6, .ref h7, .int bn, .int cy, .int li, .int (vX_step_0 lo pp po df st), .int (vX_step_1 lo pp po df), .int tm, .int tq, .int tq, .int (vX_step_3 lo pp po df st pz sp li), .int wa, .int ai, .int fu, .int (vX_step_2 lo pp po df st pz sp li), .int (gX_takeSpeed_0_18 lo (pz.toInt32) sp)])), (h1, .inr (0, [.ref h2])), (h2, .inl (kT, 320, .inl tb)), (h3, .inr (1, [.ref h4, .int wt])), (h4, .inl (kW, 6, .inl le)), (h5, .inr (2, [.int am, .int sd])), (h6, .inr (3, [.long s0, .long s1, .long s2, .long s3])), (h7, .inl (kB, 3, .inl lo))]) [0, 1, 2, 3, 4, 5, 6, 7] rfl
          have hDc := hD.sub (ws' := [(h0, .inr (4, [.ref h1, .ref h3, .ref h5, .ref h6, .ref h7, .int bn, .int cy, .int li, .int (vX_step_0 lo pp po df st), .int (vX_step_1 lo pp po df), .int tm, .int tq, .int tq, .int (vX_step_3 lo pp po df st pz sp li), .int wa, .int ai, .int fu, .int (vX_step_2 lo pp po df st pz sp li), .int (gX_takeSpeed_0_18 lo (pz.toInt32) sp)])), (h1, .inr (0, [.ref h2])), (h2, .inl (kT, 320, .inl tb)), (h3, .inr (1, [.ref h4, .int wt])), (h4, .inl (kW, 6, .inl le)), (h5, .inr (2, [.int am, .int sd])), (h6, .inr (3, [.long s0, .long s1, .long s2, .long s3])), (h7, .inl (kB, 3, .inl lo))]) [0, 1, 2, 3, 4, 5, 6, 7] (by decide) rfl
          have hKc := hK.sub (tys' := [(kT, .int), (kW, .int), (kB, .boolean)]) [0, 1, 2] rfl
          have hFc := va_free (wc := [(h0, .inr (4, [.ref h1, .ref h3, .ref h5, .ref h6, .ref h7, .int bn, .int cy, .int li, .int (vX_step_0 lo pp po df st), .int (vX_step_1 lo pp po df), .int tm, .int tq, .int tq, .int (vX_step_3 lo pp po df st pz sp li), .int wa, .int ai, .int fu, .int (vX_step_2 lo pp po df st pz sp li), .int (gX_takeSpeed_0_18 lo (pz.toInt32) sp)])), (h1, .inr (0, [.ref h2])), (h2, .inl (kT, 320, .inl tb)), (h3, .inr (1, [.ref h4, .int wt])), (h4, .inl (kW, 6, .inl le)), (h5, .inr (2, [.int am, .int sd])), (h6, .inr (3, [.long s0, .long s1, .long s2, .long s3])), (h7, .inl (kB, 3, .inl lo))]) hD hS hA [0, 1, 2, 3, 4, 5, 6, 7] rfl
          refine ca_i (va_runV (As := []) (rest := [.ref h0]) ⟨hx, hb, hml, hown, hts⟩ (c_X_chooseWanted l dC dI h0 h1 h2 h3 h4 h5 h6 h7 kT kW kB H.size bn cy li (vX_step_0 lo pp po df st) (vX_step_1 lo pp po df) tm tq tq (vX_step_3 lo pp po df st pz sp li) wa ai fu (vX_step_2 lo pp po df st pz sp li) (gX_takeSpeed_0_18 lo (pz.toInt32) sp) tb wt le am sd s0 s1 s2 s3 lo) (cwV 0 hts (gV_ mw_108 mw_106 mw_107 mw_52 mw_105) rfl rfl rfl (by decide +kernel) ⟨Nat.le_of_ble_eq_true rfl, Nat.le_of_ble_eq_true rfl⟩) ⟨fb_, va_recv hKc hPc (ci := 4) (q0 := 0) rfl rfl, pu_ hPc hKc hDc hN⟩ rfl rfl hl.1 rfl (lv_room (Nat.le_of_ble_eq_true rfl)) d_X_step_80 ⟨Nat.le_of_ble_eq_true rfl, Nat.le_of_ble_eq_true rfl⟩) hS (fun q _ h => hFc q h) hFc (fun t H locs ht hvm hB hz1 hk1 hS => ?_)
          obtain ⟨hP, hD⟩ := aft_ (wr := []) (w1 := [(h0, .inr (4, [.ref h1, .ref h3, .ref h5, .ref h6, .ref h7, .int bn, .int cy, .int li, .int (vX_step_0 lo pp po df st), .int (vX_step_1 lo pp po df), .int tm, .int tq, .int tq, .int (vX_step_3 lo pp po df st pz sp li), .int wa, .int ai, .int fu, .int (vX_step_2 lo pp po df st pz sp li), .int (gX_takeSpeed_0_18 lo (pz.toInt32) sp)])), (h1, .inr (0, [.ref h2])), (h2, .inl (kT, 320, .inl tb)), (h3, .inr (1, [.ref h4, .int 0])), (h4, .inl (kW, 6, .inl (vWi_clear_4 le))), (h5, .inr (2, [.int am, .int (vX_step_4 lo pp po df st pz sp li am sd)])), (h6, .inr (3, [.long s0, .long s1, .long s2, .long s3])), (h7, .inl (kB, 3, .inl lo))]) (w2 := [(h0, .inr (4, [.ref h1, .ref h3, .ref h5, .ref h6, .ref h7, .int bn, .int cy, .int li, .int (vX_step_0 lo pp po df st), .int (vX_step_1 lo pp po df), .int tm, .int tq, .int tq, .int (vX_step_3 lo pp po df st pz sp li), .int wa, .int ai, .int fu, .int (vX_step_2 lo pp po df st pz sp li), .int (gX_takeSpeed_0_18 lo (pz.toInt32) sp)])), (h1, .inr (0, [.ref h2])), (h2, .inl (kT, 320, .inl tb)), (h3, .inr (1, [.ref h4, .int 0])), (h4, .inl (kW, 6, .inl (vWi_clear_4 le))), (h5, .inr (2, [.int am, .int (vX_step_4 lo pp po df st pz sp li am sd)])), (h6, .inr (3, [.long s0, .long s1, .long s2, .long s3])), (h7, .inl (kB, 3, .inl lo))]) hP hD [0, 1, 2, 3, 4, 5, 6, 7] [] [0, 1, 2, 3, 4, 5, 6, 7] rfl rfl (by decide) (by decide) hk1 hFc hB ht rfl (by decide)
          refine lv_aload_n hx hb d_X_step_83 rfl (lv_at hl 0 rfl) ?_
          refine va_get (D := (dC, dI)) (ci := 4) (v := .int bn) (C := R_X) (T := F_X) (N := 19) hx hb hts in_X hown hK hP 0 rfl rfl 5 (by decide) (hts (.fieldLink R_X 41 "TorqueRows" "boundNow" "I") mw_89) (fun _ h9 => h9) rfl d_X_step_84 ?_
          refine va_mmin hx hb (by rw [hml]; exact hl.1.symm) hown (hts (.methodLink R_X 91 Lib.Math.min.name) mw_31) (hts (.static Lib.Math.min.name) mw_1) (hts (.initialized "java/lang/Math") mw_2) (hts (.code Lib.Math.min.name Lib.Math.min.code 2 (some .int)) mw_3) (Nat.le_of_ble_eq_true rfl) (Nat.le_of_ble_eq_true rfl) (Nat.le_of_ble_eq_true rfl) (Nat.le_of_ble_eq_true rfl) d_X_step_87 ?_
          refine tpi (y := (mn (fX_chooseWanted (vX_step_2 lo pp po df st pz sp li) le tb (vX_step_3 lo pp po df st pz sp li) (gX_takeSpeed_0_18 lo (pz.toInt32) sp) am sd) bn)) rfl ?_
          refine va_put (D := (dC, dI)) (ci := 4) (v := .int (vX_step_5 lo pp po df st pz sp li le tb am sd bn)) (ty := .int) (C := R_X) (T := F_X) (N := 19) hx hb hts in_X t_X t_X_ok n_X hown hK hP hD hS 0 rfl rfl 14 (by decide) (hts (.fieldLink R_X 97 "TorqueRows" "lastWanted" "I") mw_34) (fun _ h9 => h9) rfl (by decide +kernel) rfl rfl (Nat.le_of_ble_eq_true rfl) d_X_step_90 (fun H locs hP hD hS => ?_)
          have hP : va_P (dC, dI) classes [(h0, .inr (4, [.ref h1, .ref h3, .ref h5, .ref h6, .ref h7, .int bn, .int cy, .int li, .int (vX_step_0 lo pp po df st), .int (vX_step_1 lo pp po df), .int tm, .int tq, .int tq, .int (vX_step_3 lo pp po df st pz sp li), .int (vX_step_5 lo pp po df st pz sp li le tb am sd bn), .int ai, .int fu, .int (vX_step_2 lo pp po df st pz sp li), .int (gX_takeSpeed_0_18 lo (pz.toInt32) sp)])), (h1, .inr (0, [.ref h2])), (h2, .inl (kT, 320, .inl tb)), (h3, .inr (1, [.ref h4, .int 0])), (h4, .inl (kW, 6, .inl (vWi_clear_4 le))), (h5, .inr (2, [.int am, .int (vX_step_4 lo pp po df st pz sp li am sd)])), (h6, .inr (3, [.long s0, .long s1, .long s2, .long s3])), (h7, .inl (kB, 3, .inl lo))] H := hP
          have hD : va_D A [(h0, .inr (4, [.ref h1, .ref h3, .ref h5, .ref h6, .ref h7, .int bn, .int cy, .int li, .int (vX_step_0 lo pp po df st), .int (vX_step_1 lo pp po df), .int tm, .int tq, .int tq, .int (vX_step_3 lo pp po df st pz sp li), .int (vX_step_5 lo pp po df st pz sp li le tb am sd bn), .int ai, .int fu, .int (vX_step_2 lo pp po df st pz sp li), .int (gX_takeSpeed_0_18 lo (pz.toInt32) sp)])), (h1, .inr (0, [.ref h2])), (h2, .inl (kT, 320, .inl tb)), (h3, .inr (1, [.ref h4, .int 0])), (h4, .inl (kW, 6, .inl (vWi_clear_4 le))), (h5, .inr (2, [.int am, .int (vX_step_4 lo pp po df st pz sp li am sd)])), (h6, .inr (3, [.long s0, .long s1, .long s2, .long s3])), (h7, .inl (kB, 3, .inl lo))] := hD
          refine lv_aload_n hx hb d_X_step_93 rfl (lv_at hl 0 rfl) ?_
          refine lv_aload_n hx hb d_X_step_94 rfl (lv_at hl 0 rfl) ?_
          have hPc := hP.sub (ws' := [(h0, .inr (4, [.ref h1, .ref h3, .ref h5, .ref h6, .ref h7, .int bn, .int cy, .int li, .int (vX_step_0 lo pp po df st), .int (vX_step_1 lo pp po df), .int tm, .int tq, .int tq, .int (vX_step_3 lo pp po df st pz sp li), .int (vX_step_5 lo pp po df st pz sp li le tb am sd bn), .int ai, .int fu, .int (vX_step_2 lo pp po df st pz sp li), .int (gX_takeSpeed_0_18 lo (pz.toInt32) sp)])), (h1, .inr (0, [.ref h2])), (h2, .inl (kT, 320, .inl tb)), (h3, .inr (1, [.ref h4, .int 0])), (h4, .inl (kW, 6, .inl (vWi_clear_4 le))), (h5, .inr (2, [.int am, .int (vX_step_4 lo pp po df st pz sp li am sd)])), (h6, .inr (3, [.long s0, .long s1, .long s2, .long s3])), (h7, .inl (kB, 3, .inl lo))]) [0, 1, 2, 3, 4, 5, 6, 7] rfl
          have hDc := hD.sub (ws' := [(h0, .inr (4, [.ref h1, .ref h3, .ref h5, .ref h6, .ref h7, .int bn, .int cy, .int li, .int (vX_step_0 lo pp po df st), .int (vX_step_1 lo pp po df), .int tm, .int tq, .int tq, .int (vX_step_3 lo pp po df st pz sp li), .int (vX_step_5 lo pp po df st pz sp li le tb am sd bn), .int ai, .int fu, .int (vX_step_2 lo pp po df st pz sp li), .int (gX_takeSpeed_0_18 lo (pz.toInt32) sp)])), (h1, .inr (0, [.ref h2])), (h2, .inl (kT, 320, .inl tb)), (h3, .inr (1, [.ref h4, .int 0])), (h4, .inl (kW, 6, .inl (vWi_clear_4 le))), (h5, .inr (2, [.int am, .int (vX_step_4 lo pp po df st pz sp li am sd)])), (h6, .inr (3, [.long s0, .long s1, .long s2, .long s3])), (h7, .inl (kB, 3, .inl lo))]) [0, 1, 2, 3, 4, 5, 6, 7] (by decide) rfl
          have hKc := hK.sub (tys' := [(kT, .int), (kW, .int), (kB, .boolean)]) [0, 1, 2] rfl
          have hFc := va_free (wc := [(h0, .inr (4, [.ref h1, .ref h3, .ref h5, .ref h6, .ref h7, .int bn, .int cy, .int li, .int (vX_step_0 lo pp po df st), .int (vX_step_1 lo pp po df), .int tm, .int tq, .int tq, .int (vX_step_3 lo pp po df st pz sp li), .int (vX_step_5 lo pp po df st pz sp li le tb am sd bn), .int ai, .int fu, .int (vX_step_2 lo pp po df st pz sp li), .int (gX_takeSpeed_0_18 lo (pz.toInt32) sp)])), (h1, .inr (0, [.ref h2])), (h2, .inl (kT, 320, .inl tb)), (h3, .inr (1, [.ref h4, .int 0])), (h4, .inl (kW, 6, .inl (vWi_clear_4 le))), (h5, .inr (2, [.int am, .int (vX_step_4 lo pp po df st pz sp li am sd)])), (h6, .inr (3, [.long s0, .long s1, .long s2, .long s3])), (h7, .inl (kB, 3, .inl lo))]) hD hS hA [0, 1, 2, 3, 4, 5, 6, 7] rfl
          refine ca_i (va_runV (As := []) (rest := [.ref h0]) ⟨hx, hb, hml, hown, hts⟩ (c_X_drives l dC dI h0 h1 h2 h3 h4 h5 h6 h7 kT kW kB H.size bn cy li (vX_step_0 lo pp po df st) (vX_step_1 lo pp po df) tm tq tq (vX_step_3 lo pp po df st pz sp li) (vX_step_5 lo pp po df st pz sp li le tb am sd bn) ai fu (vX_step_2 lo pp po df st pz sp li) (gX_takeSpeed_0_18 lo (pz.toInt32) sp) tb 0 (vWi_clear_4 le) am (vX_step_4 lo pp po df st pz sp li am sd) s0 s1 s2 s3 lo) (cwV 0 hts (gV_ mw_55 mw_53 mw_54 mw_52 mw_51) rfl rfl rfl (by decide +kernel) ⟨Nat.le_of_ble_eq_true rfl, Nat.le_of_ble_eq_true rfl⟩) ⟨fb_, va_recv hKc hPc (ci := 4) (q0 := 0) rfl rfl, pu_ hPc hKc hDc hN⟩ rfl rfl hl.1 rfl (lv_room (Nat.le_of_ble_eq_true rfl)) d_X_step_95 ⟨Nat.le_of_ble_eq_true rfl, Nat.le_of_ble_eq_true rfl⟩) hS (fun q _ h => hFc q h) hFc (fun t H locs ht hvm hB hz1 hk1 hS => ?_)
          obtain ⟨hP, hD⟩ := aft_ (wr := []) (w1 := [(h0, .inr (4, [.ref h1, .ref h3, .ref h5, .ref h6, .ref h7, .int bn, .int cy, .int li, .int (vX_step_0 lo pp po df st), .int (vX_step_1 lo pp po df), .int tm, .int tq, .int tq, .int (vX_step_3 lo pp po df st pz sp li), .int (vX_step_5 lo pp po df st pz sp li le tb am sd bn), .int ai, .int fu, .int (vX_step_2 lo pp po df st pz sp li), .int (gX_takeSpeed_0_18 lo (pz.toInt32) sp)])), (h1, .inr (0, [.ref h2])), (h2, .inl (kT, 320, .inl tb)), (h3, .inr (1, [.ref h4, .int 0])), (h4, .inl (kW, 6, .inl (vWi_clear_4 le))), (h5, .inr (2, [.int am, .int (vX_step_4 lo pp po df st pz sp li am sd)])), (h6, .inr (3, [.long s0, .long s1, .long s2, .long s3])), (h7, .inl (kB, 3, .inl lo))]) (w2 := [(h0, .inr (4, [.ref h1, .ref h3, .ref h5, .ref h6, .ref h7, .int bn, .int cy, .int li, .int (vX_step_0 lo pp po df st), .int (vX_step_1 lo pp po df), .int tm, .int tq, .int tq, .int (vX_step_3 lo pp po df st pz sp li), .int (vX_step_5 lo pp po df st pz sp li le tb am sd bn), .int ai, .int fu, .int (vX_step_2 lo pp po df st pz sp li), .int (gX_takeSpeed_0_18 lo (pz.toInt32) sp)])), (h1, .inr (0, [.ref h2])), (h2, .inl (kT, 320, .inl tb)), (h3, .inr (1, [.ref h4, .int 0])), (h4, .inl (kW, 6, .inl (vWi_clear_4 le))), (h5, .inr (2, [.int am, .int (vX_step_4 lo pp po df st pz sp li am sd)])), (h6, .inr (3, [.long s0, .long s1, .long s2, .long s3])), (h7, .inl (kB, 3, .inl lo))]) hP hD [0, 1, 2, 3, 4, 5, 6, 7] [] [0, 1, 2, 3, 4, 5, 6, 7] rfl rfl (by decide) (by decide) hk1 hFc hB ht rfl (by decide)
          refine jn 7 [(0, .ref h0), (1, .long pp), (3, .long po), (5, .long pz)] [(h0, .inr (4, [.ref h1, .ref h3, .ref h5, .ref h6, .ref h7, .int bn, .int cy, .int li, .int (vX_step_0 lo pp po df st), .int (vX_step_1 lo pp po df), .int tm, .int tq, .int tq, .int (vX_step_3 lo pp po df st pz sp li), .int (vX_step_5 lo pp po df st pz sp li le tb am sd bn), .int ai, .int fu, .int (vX_step_2 lo pp po df st pz sp li), .int (gX_takeSpeed_0_18 lo (pz.toInt32) sp)])), (h1, .inr (0, [.ref h2])), (h2, .inl (kT, 320, .inl tb)), (h3, .inr (1, [.ref h4, .int 0])), (h4, .inl (kW, 6, .inl (vWi_clear_4 le))), (h5, .inr (2, [.int am, .int (vX_step_4 lo pp po df st pz sp li am sd)])), (h6, .inr (3, [.long s0, .long s1, .long s2, .long s3])), (h7, .inl (kB, 3, .inl lo))] 116 [.int (vX_step_6 lo pp po df st pz sp li tq le tb am sd bn), .ref h0] (D := (dC, dI)) (A := A) (H0 := s.heap) (fun ls H locs hl hP hD hS => ?_) (fun J_7 => ?_)
          · refine va_put (D := (dC, dI)) (ci := 4) (v := .int (vX_step_6 lo pp po df st pz sp li tq le tb am sd bn)) (ty := .int) (C := R_X) (T := F_X) (N := 19) hx hb hts in_X t_X t_X_ok n_X hown hK hP hD hS 0 rfl rfl 11 (by decide) (hts (.fieldLink R_X 64 "TorqueRows" "torqueNow" "I") mw_74) (fun _ h9 => h9) rfl (by decide +kernel) rfl rfl (Nat.le_of_ble_eq_true rfl) d_X_step_116 (fun H locs hP hD hS => ?_)
            have hP : va_P (dC, dI) classes [(h0, .inr (4, [.ref h1, .ref h3, .ref h5, .ref h6, .ref h7, .int bn, .int cy, .int li, .int (vX_step_0 lo pp po df st), .int (vX_step_1 lo pp po df), .int tm, .int (vX_step_6 lo pp po df st pz sp li tq le tb am sd bn), .int tq, .int (vX_step_3 lo pp po df st pz sp li), .int (vX_step_5 lo pp po df st pz sp li le tb am sd bn), .int ai, .int fu, .int (vX_step_2 lo pp po df st pz sp li), .int (gX_takeSpeed_0_18 lo (pz.toInt32) sp)])), (h1, .inr (0, [.ref h2])), (h2, .inl (kT, 320, .inl tb)), (h3, .inr (1, [.ref h4, .int 0])), (h4, .inl (kW, 6, .inl (vWi_clear_4 le))), (h5, .inr (2, [.int am, .int (vX_step_4 lo pp po df st pz sp li am sd)])), (h6, .inr (3, [.long s0, .long s1, .long s2, .long s3])), (h7, .inl (kB, 3, .inl lo))] H := hP
            have hD : va_D A [(h0, .inr (4, [.ref h1, .ref h3, .ref h5, .ref h6, .ref h7, .int bn, .int cy, .int li, .int (vX_step_0 lo pp po df st), .int (vX_step_1 lo pp po df), .int tm, .int (vX_step_6 lo pp po df st pz sp li tq le tb am sd bn), .int tq, .int (vX_step_3 lo pp po df st pz sp li), .int (vX_step_5 lo pp po df st pz sp li le tb am sd bn), .int ai, .int fu, .int (vX_step_2 lo pp po df st pz sp li), .int (gX_takeSpeed_0_18 lo (pz.toInt32) sp)])), (h1, .inr (0, [.ref h2])), (h2, .inl (kT, 320, .inl tb)), (h3, .inr (1, [.ref h4, .int 0])), (h4, .inl (kW, 6, .inl (vWi_clear_4 le))), (h5, .inr (2, [.int am, .int (vX_step_4 lo pp po df st pz sp li am sd)])), (h6, .inr (3, [.long s0, .long s1, .long s2, .long s3])), (h7, .inl (kB, 3, .inl lo))] := hD
            refine lv_aload_n hx hb d_X_step_119 rfl (lv_at hl 0 rfl) ?_
            refine lv_aload_n hx hb d_X_step_120 rfl (lv_at hl 0 rfl) ?_
            refine va_get (D := (dC, dI)) (ci := 4) (v := .ref h1) (C := R_X) (T := F_X) (N := 19) hx hb hts in_X hown hK hP 0 rfl rfl 0 (by decide) (hts (.fieldLink R_X 10 "TorqueRows" "tables" "LTorqueRows$Tables;") mw_45) (fun _ h9 => h9) rfl d_X_step_121 ?_
            refine lv_iconst (v := 2) hx hb d_X_step_124 (by decide) ?_
            refine lv_aload_n hx hb d_X_step_125 rfl (lv_at hl 0 rfl) ?_
            refine va_get (D := (dC, dI)) (ci := 4) (v := .int (vX_step_6 lo pp po df st pz sp li tq le tb am sd bn)) (C := R_X) (T := F_X) (N := 19) hx hb hts in_X hown hK hP 0 rfl rfl 11 (by decide) (hts (.fieldLink R_X 64 "TorqueRows" "torqueNow" "I") mw_74) (fun _ h9 => h9) rfl d_X_step_126 ?_
            refine lv_aload_n hx hb d_X_step_129 rfl (lv_at hl 0 rfl) ?_
            refine va_get (D := (dC, dI)) (ci := 4) (v := .int (gX_takeSpeed_0_18 lo (pz.toInt32) sp)) (C := R_X) (T := F_X) (N := 19) hx hb hts in_X hown hK hP 0 rfl rfl 18 (by decide) (hts (.fieldLink R_X 107 "TorqueRows" "lastSpeed" "I") mw_37) (fun _ h9 => h9) rfl d_X_step_130 ?_
            have hPc := hP.sub (ws' := [(h1, .inr (0, [.ref h2])), (h2, .inl (kT, 320, .inl tb))]) [1, 2] rfl
            have hDc := hD.sub (ws' := [(h1, .inr (0, [.ref h2])), (h2, .inl (kT, 320, .inl tb))]) [1, 2] (by decide) rfl
            have hKc := hK.sub (tys' := [(kT, .int)]) [0] rfl
            have hFc := va_free (wc := [(h1, .inr (0, [.ref h2])), (h2, .inl (kT, 320, .inl tb))]) hD hS hA [1, 2] rfl
            refine ca_i (va_runVN (As := [.int 2, .int (vX_step_6 lo pp po df st pz sp li tq le tb am sd bn), .int (gX_takeSpeed_0_18 lo (pz.toInt32) sp)]) (rest := [.ref h0]) ⟨hx, hb, hml, hown, hts⟩ (c_Ta_joined l dC dI h1 h2 kT H.size tb 2 (vX_step_6 lo pp po df st pz sp li tq le tb am sd bn) (gX_takeSpeed_0_18 lo (pz.toInt32) sp) (by unfold vp_in; decide)) ⟨va_cnB 3 hts (gC_ mw_46) rfl rfl rfl (hN (.methodLinkNest R_X 110 y_Ta_joined "TorqueRows") nw_0) (hts _ mw_9) (by decide +kernel) ⟨Nat.le_of_ble_eq_true rfl, Nat.le_of_ble_eq_true rfl⟩, hts _ mw_47, hts _ mw_48⟩ ⟨fb_, va_recv hKc hPc (ci := 0) (q0 := 0) rfl rfl, pu_ hPc hKc hDc hN⟩ rfl rfl hl.1 rfl (lv_room (Nat.le_of_ble_eq_true rfl)) d_X_step_133 ⟨Nat.le_of_ble_eq_true rfl, Nat.le_of_ble_eq_true rfl⟩) hS (fun q _ h => hFc q h) hFc (fun t H locs ht hvm hB hz1 hk1 hS => ?_)
            obtain ⟨hP, hD⟩ := aft_ (wr := [(h0, .inr (4, [.ref h1, .ref h3, .ref h5, .ref h6, .ref h7, .int bn, .int cy, .int li, .int (vX_step_0 lo pp po df st), .int (vX_step_1 lo pp po df), .int tm, .int (vX_step_6 lo pp po df st pz sp li tq le tb am sd bn), .int tq, .int (vX_step_3 lo pp po df st pz sp li), .int (vX_step_5 lo pp po df st pz sp li le tb am sd bn), .int ai, .int fu, .int (vX_step_2 lo pp po df st pz sp li), .int (gX_takeSpeed_0_18 lo (pz.toInt32) sp)])), (h3, .inr (1, [.ref h4, .int 0])), (h4, .inl (kW, 6, .inl (vWi_clear_4 le))), (h5, .inr (2, [.int am, .int (vX_step_4 lo pp po df st pz sp li am sd)])), (h6, .inr (3, [.long s0, .long s1, .long s2, .long s3])), (h7, .inl (kB, 3, .inl lo))]) (w1 := [(h1, .inr (0, [.ref h2])), (h2, .inl (kT, 320, .inl tb))]) (w2 := [(h0, .inr (4, [.ref h1, .ref h3, .ref h5, .ref h6, .ref h7, .int bn, .int cy, .int li, .int (vX_step_0 lo pp po df st), .int (vX_step_1 lo pp po df), .int tm, .int (vX_step_6 lo pp po df st pz sp li tq le tb am sd bn), .int tq, .int (vX_step_3 lo pp po df st pz sp li), .int (vX_step_5 lo pp po df st pz sp li le tb am sd bn), .int ai, .int fu, .int (vX_step_2 lo pp po df st pz sp li), .int (gX_takeSpeed_0_18 lo (pz.toInt32) sp)])), (h1, .inr (0, [.ref h2])), (h2, .inl (kT, 320, .inl tb)), (h3, .inr (1, [.ref h4, .int 0])), (h4, .inl (kW, 6, .inl (vWi_clear_4 le))), (h5, .inr (2, [.int am, .int (vX_step_4 lo pp po df st pz sp li am sd)])), (h6, .inr (3, [.long s0, .long s1, .long s2, .long s3])), (h7, .inl (kB, 3, .inl lo))]) hP hD [1, 2] [0, 3, 4, 5, 6, 7] [0, 6, 7, 1, 2, 3, 4, 5] rfl rfl (by decide) (by decide) hk1 hFc hB ht rfl (by decide)
            refine va_put (D := (dC, dI)) (ci := 4) (v := .int (vX_step_7 tb lo pp po df st pz sp li tq le am sd bn)) (ty := .int) (C := R_X) (T := F_X) (N := 19) hx hb hts in_X t_X t_X_ok n_X hown hK hP hD hS 0 rfl rfl 15 (by decide) (hts (.fieldLink R_X 114 "TorqueRows" "lastAir" "I") mw_90) (fun _ h9 => h9) rfl (by decide +kernel) rfl rfl (Nat.le_of_ble_eq_true rfl) d_X_step_136 (fun H locs hP hD hS => ?_)
            have hP : va_P (dC, dI) classes [(h0, .inr (4, [.ref h1, .ref h3, .ref h5, .ref h6, .ref h7, .int bn, .int cy, .int li, .int (vX_step_0 lo pp po df st), .int (vX_step_1 lo pp po df), .int tm, .int (vX_step_6 lo pp po df st pz sp li tq le tb am sd bn), .int tq, .int (vX_step_3 lo pp po df st pz sp li), .int (vX_step_5 lo pp po df st pz sp li le tb am sd bn), .int (vX_step_7 tb lo pp po df st pz sp li tq le am sd bn), .int fu, .int (vX_step_2 lo pp po df st pz sp li), .int (gX_takeSpeed_0_18 lo (pz.toInt32) sp)])), (h1, .inr (0, [.ref h2])), (h2, .inl (kT, 320, .inl tb)), (h3, .inr (1, [.ref h4, .int 0])), (h4, .inl (kW, 6, .inl (vWi_clear_4 le))), (h5, .inr (2, [.int am, .int (vX_step_4 lo pp po df st pz sp li am sd)])), (h6, .inr (3, [.long s0, .long s1, .long s2, .long s3])), (h7, .inl (kB, 3, .inl lo))] H := hP
            have hD : va_D A [(h0, .inr (4, [.ref h1, .ref h3, .ref h5, .ref h6, .ref h7, .int bn, .int cy, .int li, .int (vX_step_0 lo pp po df st), .int (vX_step_1 lo pp po df), .int tm, .int (vX_step_6 lo pp po df st pz sp li tq le tb am sd bn), .int tq, .int (vX_step_3 lo pp po df st pz sp li), .int (vX_step_5 lo pp po df st pz sp li le tb am sd bn), .int (vX_step_7 tb lo pp po df st pz sp li tq le am sd bn), .int fu, .int (vX_step_2 lo pp po df st pz sp li), .int (gX_takeSpeed_0_18 lo (pz.toInt32) sp)])), (h1, .inr (0, [.ref h2])), (h2, .inl (kT, 320, .inl tb)), (h3, .inr (1, [.ref h4, .int 0])), (h4, .inl (kW, 6, .inl (vWi_clear_4 le))), (h5, .inr (2, [.int am, .int (vX_step_4 lo pp po df st pz sp li am sd)])), (h6, .inr (3, [.long s0, .long s1, .long s2, .long s3])), (h7, .inl (kB, 3, .inl lo))] := hD
            refine lv_aload_n hx hb d_X_step_139 rfl (lv_at hl 0 rfl) ?_
            refine lv_aload_n hx hb d_X_step_140 rfl (lv_at hl 0 rfl) ?_
            have hPc := hP.sub (ws' := [(h0, .inr (4, [.ref h1, .ref h3, .ref h5, .ref h6, .ref h7, .int bn, .int cy, .int li, .int (vX_step_0 lo pp po df st), .int (vX_step_1 lo pp po df), .int tm, .int (vX_step_6 lo pp po df st pz sp li tq le tb am sd bn), .int tq, .int (vX_step_3 lo pp po df st pz sp li), .int (vX_step_5 lo pp po df st pz sp li le tb am sd bn), .int (vX_step_7 tb lo pp po df st pz sp li tq le am sd bn), .int fu, .int (vX_step_2 lo pp po df st pz sp li), .int (gX_takeSpeed_0_18 lo (pz.toInt32) sp)])), (h1, .inr (0, [.ref h2])), (h2, .inl (kT, 320, .inl tb)), (h3, .inr (1, [.ref h4, .int 0])), (h4, .inl (kW, 6, .inl (vWi_clear_4 le))), (h5, .inr (2, [.int am, .int (vX_step_4 lo pp po df st pz sp li am sd)])), (h6, .inr (3, [.long s0, .long s1, .long s2, .long s3])), (h7, .inl (kB, 3, .inl lo))]) [0, 1, 2, 3, 4, 5, 6, 7] rfl
            have hDc := hD.sub (ws' := [(h0, .inr (4, [.ref h1, .ref h3, .ref h5, .ref h6, .ref h7, .int bn, .int cy, .int li, .int (vX_step_0 lo pp po df st), .int (vX_step_1 lo pp po df), .int tm, .int (vX_step_6 lo pp po df st pz sp li tq le tb am sd bn), .int tq, .int (vX_step_3 lo pp po df st pz sp li), .int (vX_step_5 lo pp po df st pz sp li le tb am sd bn), .int (vX_step_7 tb lo pp po df st pz sp li tq le am sd bn), .int fu, .int (vX_step_2 lo pp po df st pz sp li), .int (gX_takeSpeed_0_18 lo (pz.toInt32) sp)])), (h1, .inr (0, [.ref h2])), (h2, .inl (kT, 320, .inl tb)), (h3, .inr (1, [.ref h4, .int 0])), (h4, .inl (kW, 6, .inl (vWi_clear_4 le))), (h5, .inr (2, [.int am, .int (vX_step_4 lo pp po df st pz sp li am sd)])), (h6, .inr (3, [.long s0, .long s1, .long s2, .long s3])), (h7, .inl (kB, 3, .inl lo))]) [0, 1, 2, 3, 4, 5, 6, 7] (by decide) rfl
            have hKc := hK.sub (tys' := [(kT, .int), (kW, .int), (kB, .boolean)]) [0, 1, 2] rfl
            have hFc := va_free (wc := [(h0, .inr (4, [.ref h1, .ref h3, .ref h5, .ref h6, .ref h7, .int bn, .int cy, .int li, .int (vX_step_0 lo pp po df st), .int (vX_step_1 lo pp po df), .int tm, .int (vX_step_6 lo pp po df st pz sp li tq le tb am sd bn), .int tq, .int (vX_step_3 lo pp po df st pz sp li), .int (vX_step_5 lo pp po df st pz sp li le tb am sd bn), .int (vX_step_7 tb lo pp po df st pz sp li tq le am sd bn), .int fu, .int (vX_step_2 lo pp po df st pz sp li), .int (gX_takeSpeed_0_18 lo (pz.toInt32) sp)])), (h1, .inr (0, [.ref h2])), (h2, .inl (kT, 320, .inl tb)), (h3, .inr (1, [.ref h4, .int 0])), (h4, .inl (kW, 6, .inl (vWi_clear_4 le))), (h5, .inr (2, [.int am, .int (vX_step_4 lo pp po df st pz sp li am sd)])), (h6, .inr (3, [.long s0, .long s1, .long s2, .long s3])), (h7, .inl (kB, 3, .inl lo))]) hD hS hA [0, 1, 2, 3, 4, 5, 6, 7] rfl
            refine ca_i (va_runV (As := []) (rest := [.ref h0]) ⟨hx, hb, hml, hown, hts⟩ (c_X_isFuelCut l dC dI h0 h1 h2 h3 h4 h5 h6 h7 kT kW kB H.size bn cy li (vX_step_0 lo pp po df st) (vX_step_1 lo pp po df) tm (vX_step_6 lo pp po df st pz sp li tq le tb am sd bn) tq (vX_step_3 lo pp po df st pz sp li) (vX_step_5 lo pp po df st pz sp li le tb am sd bn) (vX_step_7 tb lo pp po df st pz sp li tq le am sd bn) fu (vX_step_2 lo pp po df st pz sp li) (gX_takeSpeed_0_18 lo (pz.toInt32) sp) tb 0 (vWi_clear_4 le) am (vX_step_4 lo pp po df st pz sp li am sd) s0 s1 s2 s3 lo) (cwV 0 hts (gV_ mw_112 mw_110 mw_111 mw_52 mw_109) rfl rfl rfl (by decide +kernel) ⟨Nat.le_of_ble_eq_true rfl, Nat.le_of_ble_eq_true rfl⟩) ⟨fb_, va_recv hKc hPc (ci := 4) (q0 := 0) rfl rfl, pu_ hPc hKc hDc hN⟩ rfl rfl hl.1 rfl (lv_room (Nat.le_of_ble_eq_true rfl)) d_X_step_141 ⟨Nat.le_of_ble_eq_true rfl, Nat.le_of_ble_eq_true rfl⟩) hS (fun q _ h => hFc q h) hFc (fun t H locs ht hvm hB hz1 hk1 hS => ?_)
            obtain ⟨hP, hD⟩ := aft_ (wr := []) (w1 := [(h0, .inr (4, [.ref h1, .ref h3, .ref h5, .ref h6, .ref h7, .int bn, .int cy, .int li, .int (vX_step_0 lo pp po df st), .int (vX_step_1 lo pp po df), .int tm, .int (vX_step_6 lo pp po df st pz sp li tq le tb am sd bn), .int tq, .int (vX_step_3 lo pp po df st pz sp li), .int (vX_step_5 lo pp po df st pz sp li le tb am sd bn), .int (vX_step_7 tb lo pp po df st pz sp li tq le am sd bn), .int fu, .int (vX_step_2 lo pp po df st pz sp li), .int (gX_takeSpeed_0_18 lo (pz.toInt32) sp)])), (h1, .inr (0, [.ref h2])), (h2, .inl (kT, 320, .inl tb)), (h3, .inr (1, [.ref h4, .int 0])), (h4, .inl (kW, 6, .inl (vWi_clear_4 le))), (h5, .inr (2, [.int am, .int (vX_step_4 lo pp po df st pz sp li am sd)])), (h6, .inr (3, [.long s0, .long s1, .long s2, .long s3])), (h7, .inl (kB, 3, .inl lo))]) (w2 := [(h0, .inr (4, [.ref h1, .ref h3, .ref h5, .ref h6, .ref h7, .int bn, .int cy, .int li, .int (vX_step_0 lo pp po df st), .int (vX_step_1 lo pp po df), .int tm, .int (vX_step_6 lo pp po df st pz sp li tq le tb am sd bn), .int tq, .int (vX_step_3 lo pp po df st pz sp li), .int (vX_step_5 lo pp po df st pz sp li le tb am sd bn), .int (vX_step_7 tb lo pp po df st pz sp li tq le am sd bn), .int fu, .int (vX_step_2 lo pp po df st pz sp li), .int (gX_takeSpeed_0_18 lo (pz.toInt32) sp)])), (h1, .inr (0, [.ref h2])), (h2, .inl (kT, 320, .inl tb)), (h3, .inr (1, [.ref h4, .int 0])), (h4, .inl (kW, 6, .inl (vWi_clear_4 le))), (h5, .inr (2, [.int am, .int (vX_step_4 lo pp po df st pz sp li am sd)])), (h6, .inr (3, [.long s0, .long s1, .long s2, .long s3])), (h7, .inl (kB, 3, .inl lo))]) hP hD [0, 1, 2, 3, 4, 5, 6, 7] [] [0, 1, 2, 3, 4, 5, 6, 7] rfl rfl (by decide) (by decide) hk1 hFc hB ht rfl (by decide)
            refine jn 7 [(0, .ref h0), (1, .long pp), (3, .long po), (5, .long pz)] [(h0, .inr (4, [.ref h1, .ref h3, .ref h5, .ref h6, .ref h7, .int bn, .int cy, .int li, .int (vX_step_0 lo pp po df st), .int (vX_step_1 lo pp po df), .int tm, .int (vX_step_6 lo pp po df st pz sp li tq le tb am sd bn), .int tq, .int (vX_step_3 lo pp po df st pz sp li), .int (vX_step_5 lo pp po df st pz sp li le tb am sd bn), .int (vX_step_7 tb lo pp po df st pz sp li tq le am sd bn), .int fu, .int (vX_step_2 lo pp po df st pz sp li), .int (gX_takeSpeed_0_18 lo (pz.toInt32) sp)])), (h1, .inr (0, [.ref h2])), (h2, .inl (kT, 320, .inl tb)), (h3, .inr (1, [.ref h4, .int 0])), (h4, .inl (kW, 6, .inl (vWi_clear_4 le))), (h5, .inr (2, [.int am, .int (vX_step_4 lo pp po df st pz sp li am sd)])), (h6, .inr (3, [.long s0, .long s1, .long s2, .long s3])), (h7, .inl (kB, 3, .inl lo))] 167 [.int (vX_step_8 lo pp po df st pz sp li tq le tb am sd bn), .ref h0] (D := (dC, dI)) (A := A) (H0 := s.heap) (fun ls H locs hl hP hD hS => ?_) (fun J_9 => ?_)
            · refine va_put (D := (dC, dI)) (ci := 4) (v := .int (vX_step_8 lo pp po df st pz sp li tq le tb am sd bn)) (ty := .int) (C := R_X) (T := F_X) (N := 19) hx hb hts in_X t_X t_X_ok n_X hown hK hP hD hS 0 rfl rfl 16 (by decide) (hts (.fieldLink R_X 120 "TorqueRows" "lastFuel" "I") mw_91) (fun _ h9 => h9) rfl (by decide +kernel) rfl rfl (Nat.le_of_ble_eq_true rfl) d_X_step_167 (fun H locs hP hD hS => ?_)
              have hP : va_P (dC, dI) classes [(h0, .inr (4, [.ref h1, .ref h3, .ref h5, .ref h6, .ref h7, .int bn, .int cy, .int li, .int (vX_step_0 lo pp po df st), .int (vX_step_1 lo pp po df), .int tm, .int (vX_step_6 lo pp po df st pz sp li tq le tb am sd bn), .int tq, .int (vX_step_3 lo pp po df st pz sp li), .int (vX_step_5 lo pp po df st pz sp li le tb am sd bn), .int (vX_step_7 tb lo pp po df st pz sp li tq le am sd bn), .int (vX_step_8 lo pp po df st pz sp li tq le tb am sd bn), .int (vX_step_2 lo pp po df st pz sp li), .int (gX_takeSpeed_0_18 lo (pz.toInt32) sp)])), (h1, .inr (0, [.ref h2])), (h2, .inl (kT, 320, .inl tb)), (h3, .inr (1, [.ref h4, .int 0])), (h4, .inl (kW, 6, .inl (vWi_clear_4 le))), (h5, .inr (2, [.int am, .int (vX_step_4 lo pp po df st pz sp li am sd)])), (h6, .inr (3, [.long s0, .long s1, .long s2, .long s3])), (h7, .inl (kB, 3, .inl lo))] H := hP
              have hD : va_D A [(h0, .inr (4, [.ref h1, .ref h3, .ref h5, .ref h6, .ref h7, .int bn, .int cy, .int li, .int (vX_step_0 lo pp po df st), .int (vX_step_1 lo pp po df), .int tm, .int (vX_step_6 lo pp po df st pz sp li tq le tb am sd bn), .int tq, .int (vX_step_3 lo pp po df st pz sp li), .int (vX_step_5 lo pp po df st pz sp li le tb am sd bn), .int (vX_step_7 tb lo pp po df st pz sp li tq le am sd bn), .int (vX_step_8 lo pp po df st pz sp li tq le tb am sd bn), .int (vX_step_2 lo pp po df st pz sp li), .int (gX_takeSpeed_0_18 lo (pz.toInt32) sp)])), (h1, .inr (0, [.ref h2])), (h2, .inl (kT, 320, .inl tb)), (h3, .inr (1, [.ref h4, .int 0])), (h4, .inl (kW, 6, .inl (vWi_clear_4 le))), (h5, .inr (2, [.int am, .int (vX_step_4 lo pp po df st pz sp li am sd)])), (h6, .inr (3, [.long s0, .long s1, .long s2, .long s3])), (h7, .inl (kB, 3, .inl lo))] := hD
              refine lv_aload_n hx hb d_X_step_170 rfl (lv_at hl 0 rfl) ?_
              refine va_get (D := (dC, dI)) (ci := 4) (v := .ref h6) (C := R_X) (T := F_X) (N := 19) hx hb hts in_X hown hK hP 0 rfl rfl 3 (by decide) (hts (.fieldLink R_X 33 "TorqueRows" "totals" "LTorqueRows$Totals;") mw_92) (fun _ h9 => h9) rfl d_X_step_171 ?_
              refine lv_aload_n hx hb d_X_step_174 rfl (lv_at hl 0 rfl) ?_
              refine va_get (D := (dC, dI)) (ci := 4) (v := .int (vX_step_6 lo pp po df st pz sp li tq le tb am sd bn)) (C := R_X) (T := F_X) (N := 19) hx hb hts in_X hown hK hP 0 rfl rfl 11 (by decide) (hts (.fieldLink R_X 64 "TorqueRows" "torqueNow" "I") mw_74) (fun _ h9 => h9) rfl d_X_step_175 ?_
              refine lv_aload_n hx hb d_X_step_178 rfl (lv_at hl 0 rfl) ?_
              refine va_get (D := (dC, dI)) (ci := 4) (v := .int (gX_takeSpeed_0_18 lo (pz.toInt32) sp)) (C := R_X) (T := F_X) (N := 19) hx hb hts in_X hown hK hP 0 rfl rfl 18 (by decide) (hts (.fieldLink R_X 107 "TorqueRows" "lastSpeed" "I") mw_37) (fun _ h9 => h9) rfl d_X_step_179 ?_
              refine lv_aload_n hx hb d_X_step_182 rfl (lv_at hl 0 rfl) ?_
              refine va_get (D := (dC, dI)) (ci := 4) (v := .int (vX_step_8 lo pp po df st pz sp li tq le tb am sd bn)) (C := R_X) (T := F_X) (N := 19) hx hb hts in_X hown hK hP 0 rfl rfl 16 (by decide) (hts (.fieldLink R_X 120 "TorqueRows" "lastFuel" "I") mw_91) (fun _ h9 => h9) rfl d_X_step_183 ?_
              refine lv_aload_n hx hb d_X_step_186 rfl (lv_at hl 0 rfl) ?_
              refine va_get (D := (dC, dI)) (ci := 4) (v := .int (vX_step_2 lo pp po df st pz sp li)) (C := R_X) (T := F_X) (N := 19) hx hb hts in_X hown hK hP 0 rfl rfl 17 (by decide) (hts (.fieldLink R_X 82 "TorqueRows" "lastMode" "I") mw_33) (fun _ h9 => h9) rfl d_X_step_187 ?_
              refine lv_iconst (v := 4) hx hb d_X_step_190 (by decide) ?_
              refine jn 7 [(0, .ref h0), (1, .long pp), (3, .long po), (5, .long pz)] [(h0, .inr (4, [.ref h1, .ref h3, .ref h5, .ref h6, .ref h7, .int bn, .int cy, .int li, .int (vX_step_0 lo pp po df st), .int (vX_step_1 lo pp po df), .int tm, .int (vX_step_6 lo pp po df st pz sp li tq le tb am sd bn), .int tq, .int (vX_step_3 lo pp po df st pz sp li), .int (vX_step_5 lo pp po df st pz sp li le tb am sd bn), .int (vX_step_7 tb lo pp po df st pz sp li tq le am sd bn), .int (vX_step_8 lo pp po df st pz sp li tq le tb am sd bn), .int (vX_step_2 lo pp po df st pz sp li), .int (gX_takeSpeed_0_18 lo (pz.toInt32) sp)])), (h1, .inr (0, [.ref h2])), (h2, .inl (kT, 320, .inl tb)), (h3, .inr (1, [.ref h4, .int 0])), (h4, .inl (kW, 6, .inl (vWi_clear_4 le))), (h5, .inr (2, [.int am, .int (vX_step_4 lo pp po df st pz sp li am sd)])), (h6, .inr (3, [.long s0, .long s1, .long s2, .long s3])), (h7, .inl (kB, 3, .inl lo))] 199 [.int (vX_step_9 lo pp po df st pz sp li), .int (vX_step_8 lo pp po df st pz sp li tq le tb am sd bn), .int (gX_takeSpeed_0_18 lo (pz.toInt32) sp), .int (vX_step_6 lo pp po df st pz sp li tq le tb am sd bn), .ref h6] (D := (dC, dI)) (A := A) (H0 := s.heap) (fun ls H locs hl hP hD hS => ?_) (fun J_11 => ?_)
              · have hPc := hP.sub (ws' := [(h6, .inr (3, [.long s0, .long s1, .long s2, .long s3]))]) [6] rfl
                have hDc := hD.sub (ws' := [(h6, .inr (3, [.long s0, .long s1, .long s2, .long s3]))]) [6] (by decide) rfl
                have hKc := hK.sub (tys' := []) [] rfl
                have hFc := va_free (wc := [(h6, .inr (3, [.long s0, .long s1, .long s2, .long s3]))]) hD hS hA [6] rfl
                refine ca_v (va_runVN (As := [.int (vX_step_6 lo pp po df st pz sp li tq le tb am sd bn), .int (gX_takeSpeed_0_18 lo (pz.toInt32) sp), .int (vX_step_8 lo pp po df st pz sp li tq le tb am sd bn), .int (vX_step_9 lo pp po df st pz sp li)]) (rest := []) ⟨hx, hb, hml, hown, hts⟩ (c_To_count l dC dI h6 H.size s0 s1 s2 s3 (vX_step_6 lo pp po df st pz sp li tq le tb am sd bn) (gX_takeSpeed_0_18 lo (pz.toInt32) sp) (vX_step_8 lo pp po df st pz sp li tq le tb am sd bn) (vX_step_9 lo pp po df st pz sp li)) ⟨va_cnB 4 hts (gC_ mw_113) rfl rfl rfl (hN (.methodLinkNest R_X 123 y_To_count "TorqueRows") nw_7) (hts _ mw_114) (by decide +kernel) ⟨Nat.le_of_ble_eq_true rfl, Nat.le_of_ble_eq_true rfl⟩, hts _ mw_115, hts _ mw_116⟩ ⟨fb_, va_recv hKc hPc (ci := 3) (q0 := 0) rfl rfl, pu_ hPc hKc hDc hN⟩ rfl rfl hl.1 rfl (lv_room (Nat.le_of_ble_eq_true rfl)) d_X_step_199 ⟨Nat.le_of_ble_eq_true rfl, Nat.le_of_ble_eq_true rfl⟩) hS (fun q _ h => hFc q h) hFc (fun t H locs ht hvm hB hz1 hk1 hS => ?_)
                obtain ⟨hP, hD⟩ := aft_ (wr := [(h0, .inr (4, [.ref h1, .ref h3, .ref h5, .ref h6, .ref h7, .int bn, .int cy, .int li, .int (vX_step_0 lo pp po df st), .int (vX_step_1 lo pp po df), .int tm, .int (vX_step_6 lo pp po df st pz sp li tq le tb am sd bn), .int tq, .int (vX_step_3 lo pp po df st pz sp li), .int (vX_step_5 lo pp po df st pz sp li le tb am sd bn), .int (vX_step_7 tb lo pp po df st pz sp li tq le am sd bn), .int (vX_step_8 lo pp po df st pz sp li tq le tb am sd bn), .int (vX_step_2 lo pp po df st pz sp li), .int (gX_takeSpeed_0_18 lo (pz.toInt32) sp)])), (h1, .inr (0, [.ref h2])), (h2, .inl (kT, 320, .inl tb)), (h3, .inr (1, [.ref h4, .int 0])), (h4, .inl (kW, 6, .inl (vWi_clear_4 le))), (h5, .inr (2, [.int am, .int (vX_step_4 lo pp po df st pz sp li am sd)])), (h7, .inl (kB, 3, .inl lo))]) (w1 := [(h6, .inr (3, [.long (s0 + 1), .long (vX_step_10 s1 lo pp po df st pz sp li tq le tb am sd bn), .long (vX_step_11 s2 lo pp po df st pz sp li tq le tb am sd bn), .long (vX_step_12 lo pp po df st pz sp li s3)]))]) (w2 := [(h0, .inr (4, [.ref h1, .ref h3, .ref h5, .ref h6, .ref h7, .int bn, .int cy, .int li, .int (vX_step_0 lo pp po df st), .int (vX_step_1 lo pp po df), .int tm, .int (vX_step_6 lo pp po df st pz sp li tq le tb am sd bn), .int tq, .int (vX_step_3 lo pp po df st pz sp li), .int (vX_step_5 lo pp po df st pz sp li le tb am sd bn), .int (vX_step_7 tb lo pp po df st pz sp li tq le am sd bn), .int (vX_step_8 lo pp po df st pz sp li tq le tb am sd bn), .int (vX_step_2 lo pp po df st pz sp li), .int (gX_takeSpeed_0_18 lo (pz.toInt32) sp)])), (h1, .inr (0, [.ref h2])), (h2, .inl (kT, 320, .inl tb)), (h3, .inr (1, [.ref h4, .int 0])), (h4, .inl (kW, 6, .inl (vWi_clear_4 le))), (h5, .inr (2, [.int am, .int (vX_step_4 lo pp po df st pz sp li am sd)])), (h6, .inr (3, [.long (s0 + 1), .long (vX_step_10 s1 lo pp po df st pz sp li tq le tb am sd bn), .long (vX_step_11 s2 lo pp po df st pz sp li tq le tb am sd bn), .long (vX_step_12 lo pp po df st pz sp li s3)])), (h7, .inl (kB, 3, .inl lo))]) hP hD [6] [0, 1, 2, 3, 4, 5, 7] [0, 1, 2, 3, 4, 5, 7, 6] rfl rfl (by decide) (by decide) hk1 hFc hB ht rfl (by decide)
                refine lv_aload_n hx hb d_X_step_202 rfl (lv_at hl 0 rfl) ?_
                refine va_get (D := (dC, dI)) (ci := 4) (v := .int (vX_step_2 lo pp po df st pz sp li)) (C := R_X) (T := F_X) (N := 19) hx hb hts in_X hown hK hP 0 rfl rfl 17 (by decide) (hts (.fieldLink R_X 82 "TorqueRows" "lastMode" "I") mw_33) (fun _ h9 => h9) rfl d_X_step_203 ?_
                have h9 : va_P (dC, dI) classes [(h0, .inr (4, [.ref h1, .ref h3, .ref h5, .ref h6, .ref h7, .int bn, .int cy, .int li, .int (gX_step_0_8 pp st po pz lo df), .int (gX_step_0_9 pp df po pz lo), .int tm, .int (gX_step_0_11 pp tq po pz lo df st sp li le tb am sd bn), .int (gX_step_0_12 pp tp po pz tq), .int (gX_step_0_13 pp pd po pz lo df st sp li), .int (gX_step_0_14 pp wa po pz lo df st sp li le tb am sd bn), .int (gX_step_0_15 pp ai po pz tb lo df st sp li tq le am sd bn), .int (gX_step_0_16 pp fu po pz lo df st sp li tq le tb am sd bn), .int (gX_step_0_17 pp mo po pz lo df st sp li), .int (gX_step_0_18 pp sp po pz lo)])), (h1, .inr (0, [.ref h2])), (h2, .inl (kT, 320, .inl tb)), (h3, .inr (1, [.ref h4, .int (gX_step_3_1 pp wt po pz)])), (h4, .inl (kW, 6, .inl (gX_step_4 pp le po pz))), (h5, .inr (2, [.int am, .int (gX_step_5_1 pp sd po pz lo df st sp li am)])), (h6, .inr (3, [.long (gX_step_6_0 pp s0 po pz), .long (gX_step_6_1 pp s1 po pz lo df st sp li tq le tb am sd bn), .long (gX_step_6_2 pp s2 po pz lo df st sp li tq le tb am sd bn), .long (gX_step_6_3 pp s3 po pz lo df st sp li)])), (h7, .inl (kB, 3, .inl lo))] H ∧ va_D A [(h0, .inr (4, [.ref h1, .ref h3, .ref h5, .ref h6, .ref h7, .int bn, .int cy, .int li, .int (gX_step_0_8 pp st po pz lo df), .int (gX_step_0_9 pp df po pz lo), .int tm, .int (gX_step_0_11 pp tq po pz lo df st sp li le tb am sd bn), .int (gX_step_0_12 pp tp po pz tq), .int (gX_step_0_13 pp pd po pz lo df st sp li), .int (gX_step_0_14 pp wa po pz lo df st sp li le tb am sd bn), .int (gX_step_0_15 pp ai po pz tb lo df st sp li tq le am sd bn), .int (gX_step_0_16 pp fu po pz lo df st sp li tq le tb am sd bn), .int (gX_step_0_17 pp mo po pz lo df st sp li), .int (gX_step_0_18 pp sp po pz lo)])), (h1, .inr (0, [.ref h2])), (h2, .inl (kT, 320, .inl tb)), (h3, .inr (1, [.ref h4, .int (gX_step_3_1 pp wt po pz)])), (h4, .inl (kW, 6, .inl (gX_step_4 pp le po pz))), (h5, .inr (2, [.int am, .int (gX_step_5_1 pp sd po pz lo df st sp li am)])), (h6, .inr (3, [.long (gX_step_6_0 pp s0 po pz), .long (gX_step_6_1 pp s1 po pz lo df st sp li tq le tb am sd bn), .long (gX_step_6_2 pp s2 po pz lo df st sp li tq le tb am sd bn), .long (gX_step_6_3 pp s3 po pz lo df st sp li)])), (h7, .inl (kB, 3, .inl lo))] := by rw [show (gX_step_0_8 pp st po pz lo df) = (vX_step_0 lo pp po df st) from ((if_neg c_1).trans ((if_neg c_2).trans (if_neg c_3))), show (gX_step_0_9 pp df po pz lo) = (vX_step_1 lo pp po df) from ((if_neg c_1).trans ((if_neg c_2).trans (if_neg c_3))), show (gX_step_0_11 pp tq po pz lo df st sp li le tb am sd bn) = (vX_step_6 lo pp po df st pz sp li tq le tb am sd bn) from ((if_neg c_1).trans ((if_neg c_2).trans (if_neg c_3))), show (gX_step_0_12 pp tp po pz tq) = tq from ((if_neg c_1).trans ((if_neg c_2).trans (if_neg c_3))), show (gX_step_0_13 pp pd po pz lo df st sp li) = (vX_step_3 lo pp po df st pz sp li) from ((if_neg c_1).trans ((if_neg c_2).trans (if_neg c_3))), show (gX_step_0_14 pp wa po pz lo df st sp li le tb am sd bn) = (vX_step_5 lo pp po df st pz sp li le tb am sd bn) from ((if_neg c_1).trans ((if_neg c_2).trans (if_neg c_3))), show (gX_step_0_15 pp ai po pz tb lo df st sp li tq le am sd bn) = (vX_step_7 tb lo pp po df st pz sp li tq le am sd bn) from ((if_neg c_1).trans ((if_neg c_2).trans (if_neg c_3))), show (gX_step_0_16 pp fu po pz lo df st sp li tq le tb am sd bn) = (vX_step_8 lo pp po df st pz sp li tq le tb am sd bn) from ((if_neg c_1).trans ((if_neg c_2).trans (if_neg c_3))), show (gX_step_0_17 pp mo po pz lo df st sp li) = (vX_step_2 lo pp po df st pz sp li) from ((if_neg c_1).trans ((if_neg c_2).trans (if_neg c_3))), show (gX_step_0_18 pp sp po pz lo) = (gX_takeSpeed_0_18 lo (pz.toInt32) sp) from ((if_neg c_1).trans ((if_neg c_2).trans (if_neg c_3))), show (gX_step_3_1 pp wt po pz) = 0 from ((if_neg c_1).trans ((if_neg c_2).trans (if_neg c_3))), show (gX_step_4 pp le po pz) = (vWi_clear_4 le) from ((if_neg c_1).trans ((if_neg c_2).trans (if_neg c_3))), show (gX_step_5_1 pp sd po pz lo df st sp li am) = (vX_step_4 lo pp po df st pz sp li am sd) from ((if_neg c_1).trans ((if_neg c_2).trans (if_neg c_3))), show (gX_step_6_0 pp s0 po pz) = (s0 + 1) from ((if_neg c_1).trans ((if_neg c_2).trans (if_neg c_3))), show (gX_step_6_1 pp s1 po pz lo df st sp li tq le tb am sd bn) = (vX_step_10 s1 lo pp po df st pz sp li tq le tb am sd bn) from ((if_neg c_1).trans ((if_neg c_2).trans (if_neg c_3))), show (gX_step_6_2 pp s2 po pz lo df st sp li tq le tb am sd bn) = (vX_step_11 s2 lo pp po df st pz sp li tq le tb am sd bn) from ((if_neg c_1).trans ((if_neg c_2).trans (if_neg c_3))), show (gX_step_6_3 pp s3 po pz lo df st sp li) = (vX_step_12 lo pp po df st pz sp li s3) from ((if_neg c_1).trans ((if_neg c_2).trans (if_neg c_3)))]; exact ⟨hP, hD⟩
                exact W.iret (v := (vX_step_2 lo pp po df st pz sp li)) hx hb hr (fun t ht hW => ⟨⟨(vX_step_2 lo pp po df st pz sp li), (), rfl, (((if_neg c_1).trans ((if_neg c_2).trans (if_neg c_3)))).symm, by rw [ht]; exact h9.1, va_K.moved hW.alike hK, h9.2⟩, hS.F ht⟩) hS.2.2 d_X_step_206
              · refine lv_icmp_ne (tgt := 198) hx hb d_X_step_191 (by decide) (fun c_10 => ?_) (fun c_10 => ?_)
                · refine lv_iconst (v := 0) hx hb d_X_step_198 (by decide) ?_
                  refine W.eq (g2 := F0 m 199 ls [.int (vX_step_9 lo pp po df st pz sp li), .int (vX_step_8 lo pp po df st pz sp li tq le tb am sd bn), .int (gX_takeSpeed_0_18 lo (pz.toInt32) sp), .int (vX_step_6 lo pp po df st pz sp li tq le tb am sd bn), .ref h6]) (by rw [show (vX_step_9 lo pp po df st pz sp li) = 0 from (if_neg c_10)]) ?_
                  exact J_11 _ _ _ (lv_sub hl [0, 1, 2, 3] rfl) hP hD hS
                · refine lv_iconst (v := 1) hx hb d_X_step_194 (by decide) ?_
                  refine lv_goto (tgt := 199) hx hb d_X_step_195 (by decide) ?_
                  refine W.eq (g2 := F0 m 199 ls [.int (vX_step_9 lo pp po df st pz sp li), .int (vX_step_8 lo pp po df st pz sp li tq le tb am sd bn), .int (gX_takeSpeed_0_18 lo (pz.toInt32) sp), .int (vX_step_6 lo pp po df st pz sp li tq le tb am sd bn), .ref h6]) (by rw [show (vX_step_9 lo pp po df st pz sp li) = 1 from (if_pos c_10)]) ?_
                  exact J_11 _ _ _ (lv_sub hl [0, 1, 2, 3] rfl) hP hD hS
            · refine lv_if_eq (tgt := 151) hx hb d_X_step_144 (by decide) (fun c_8 => ?_) (fun c_8 => ?_)
              · refine lv_aload_n hx hb d_X_step_151 rfl (lv_at hl 0 rfl) ?_
                refine va_get (D := (dC, dI)) (ci := 4) (v := .ref h1) (C := R_X) (T := F_X) (N := 19) hx hb hts in_X hown hK hP 0 rfl rfl 0 (by decide) (hts (.fieldLink R_X 10 "TorqueRows" "tables" "LTorqueRows$Tables;") mw_45) (fun _ h9 => h9) rfl d_X_step_152 ?_
                refine lv_iconst (v := 3) hx hb d_X_step_155 (by decide) ?_
                refine lv_aload_n hx hb d_X_step_156 rfl (lv_at hl 0 rfl) ?_
                refine va_get (D := (dC, dI)) (ci := 4) (v := .int (vX_step_7 tb lo pp po df st pz sp li tq le am sd bn)) (C := R_X) (T := F_X) (N := 19) hx hb hts in_X hown hK hP 0 rfl rfl 15 (by decide) (hts (.fieldLink R_X 114 "TorqueRows" "lastAir" "I") mw_90) (fun _ h9 => h9) rfl d_X_step_157 ?_
                refine lv_aload_n hx hb d_X_step_160 rfl (lv_at hl 0 rfl) ?_
                refine va_get (D := (dC, dI)) (ci := 4) (v := .int (gX_takeSpeed_0_18 lo (pz.toInt32) sp)) (C := R_X) (T := F_X) (N := 19) hx hb hts in_X hown hK hP 0 rfl rfl 18 (by decide) (hts (.fieldLink R_X 107 "TorqueRows" "lastSpeed" "I") mw_37) (fun _ h9 => h9) rfl d_X_step_161 ?_
                have hPc := hP.sub (ws' := [(h1, .inr (0, [.ref h2])), (h2, .inl (kT, 320, .inl tb))]) [1, 2] rfl
                have hDc := hD.sub (ws' := [(h1, .inr (0, [.ref h2])), (h2, .inl (kT, 320, .inl tb))]) [1, 2] (by decide) rfl
                have hKc := hK.sub (tys' := [(kT, .int)]) [0] rfl
                have hFc := va_free (wc := [(h1, .inr (0, [.ref h2])), (h2, .inl (kT, 320, .inl tb))]) hD hS hA [1, 2] rfl
                refine ca_i (va_runVN (As := [.int 3, .int (vX_step_7 tb lo pp po df st pz sp li tq le am sd bn), .int (gX_takeSpeed_0_18 lo (pz.toInt32) sp)]) (rest := [.ref h0]) ⟨hx, hb, hml, hown, hts⟩ (c_Ta_joined l dC dI h1 h2 kT H.size tb 3 (vX_step_7 tb lo pp po df st pz sp li tq le am sd bn) (gX_takeSpeed_0_18 lo (pz.toInt32) sp) (by unfold vp_in; decide)) ⟨va_cnB 3 hts (gC_ mw_46) rfl rfl rfl (hN (.methodLinkNest R_X 110 y_Ta_joined "TorqueRows") nw_0) (hts _ mw_9) (by decide +kernel) ⟨Nat.le_of_ble_eq_true rfl, Nat.le_of_ble_eq_true rfl⟩, hts _ mw_47, hts _ mw_48⟩ ⟨fb_, va_recv hKc hPc (ci := 0) (q0 := 0) rfl rfl, pu_ hPc hKc hDc hN⟩ rfl rfl hl.1 rfl (lv_room (Nat.le_of_ble_eq_true rfl)) d_X_step_164 ⟨Nat.le_of_ble_eq_true rfl, Nat.le_of_ble_eq_true rfl⟩) hS (fun q _ h => hFc q h) hFc (fun t H locs ht hvm hB hz1 hk1 hS => ?_)
                obtain ⟨hP, hD⟩ := aft_ (wr := [(h0, .inr (4, [.ref h1, .ref h3, .ref h5, .ref h6, .ref h7, .int bn, .int cy, .int li, .int (vX_step_0 lo pp po df st), .int (vX_step_1 lo pp po df), .int tm, .int (vX_step_6 lo pp po df st pz sp li tq le tb am sd bn), .int tq, .int (vX_step_3 lo pp po df st pz sp li), .int (vX_step_5 lo pp po df st pz sp li le tb am sd bn), .int (vX_step_7 tb lo pp po df st pz sp li tq le am sd bn), .int fu, .int (vX_step_2 lo pp po df st pz sp li), .int (gX_takeSpeed_0_18 lo (pz.toInt32) sp)])), (h3, .inr (1, [.ref h4, .int 0])), (h4, .inl (kW, 6, .inl (vWi_clear_4 le))), (h5, .inr (2, [.int am, .int (vX_step_4 lo pp po df st pz sp li am sd)])), (h6, .inr (3, [.long s0, .long s1, .long s2, .long s3])), (h7, .inl (kB, 3, .inl lo))]) (w1 := [(h1, .inr (0, [.ref h2])), (h2, .inl (kT, 320, .inl tb))]) (w2 := [(h0, .inr (4, [.ref h1, .ref h3, .ref h5, .ref h6, .ref h7, .int bn, .int cy, .int li, .int (vX_step_0 lo pp po df st), .int (vX_step_1 lo pp po df), .int tm, .int (vX_step_6 lo pp po df st pz sp li tq le tb am sd bn), .int tq, .int (vX_step_3 lo pp po df st pz sp li), .int (vX_step_5 lo pp po df st pz sp li le tb am sd bn), .int (vX_step_7 tb lo pp po df st pz sp li tq le am sd bn), .int fu, .int (vX_step_2 lo pp po df st pz sp li), .int (gX_takeSpeed_0_18 lo (pz.toInt32) sp)])), (h1, .inr (0, [.ref h2])), (h2, .inl (kT, 320, .inl tb)), (h3, .inr (1, [.ref h4, .int 0])), (h4, .inl (kW, 6, .inl (vWi_clear_4 le))), (h5, .inr (2, [.int am, .int (vX_step_4 lo pp po df st pz sp li am sd)])), (h6, .inr (3, [.long s0, .long s1, .long s2, .long s3])), (h7, .inl (kB, 3, .inl lo))]) hP hD [1, 2] [0, 3, 4, 5, 6, 7] [0, 6, 7, 1, 2, 3, 4, 5] rfl rfl (by decide) (by decide) hk1 hFc hB ht rfl (by decide)
                refine W.eq (g2 := F0 m 167 ls [.int (vX_step_8 lo pp po df st pz sp li tq le tb am sd bn), .ref h0]) (by rw [show (vX_step_8 lo pp po df st pz sp li tq le tb am sd bn) = (fTa_joined tb 3 (vX_step_7 tb lo pp po df st pz sp li tq le am sd bn) (gX_takeSpeed_0_18 lo (pz.toInt32) sp)) from (if_pos c_8)]) ?_
                exact J_9 _ _ _ (lv_sub hl [0, 1, 2, 3] rfl) hP hD hS
              · refine lv_iconst (v := 0) hx hb d_X_step_147 (by decide) ?_
                refine lv_goto (tgt := 167) hx hb d_X_step_148 (by decide) ?_
                refine W.eq (g2 := F0 m 167 ls [.int (vX_step_8 lo pp po df st pz sp li tq le tb am sd bn), .ref h0]) (by rw [show (vX_step_8 lo pp po df st pz sp li tq le tb am sd bn) = 0 from (if_neg c_8)]) ?_
                exact J_9 _ _ _ (lv_sub hl [0, 1, 2, 3] rfl) hP hD hS
          · refine lv_if_eq (tgt := 115) hx hb d_X_step_98 (by decide) (fun c_6 => ?_) (fun c_6 => ?_)
            · refine lv_iconst (v := 0) hx hb d_X_step_115 (by decide) ?_
              refine W.eq (g2 := F0 m 116 ls [.int (vX_step_6 lo pp po df st pz sp li tq le tb am sd bn), .ref h0]) (by rw [show (vX_step_6 lo pp po df st pz sp li tq le tb am sd bn) = 0 from (if_pos c_6)]) ?_
              exact J_7 _ _ _ (lv_sub hl [0, 1, 2, 3] rfl) hP hD hS
            · refine lv_aload_n hx hb d_X_step_101 rfl (lv_at hl 0 rfl) ?_
              refine va_get (D := (dC, dI)) (ci := 4) (v := .int tq) (C := R_X) (T := F_X) (N := 19) hx hb hts in_X hown hK hP 0 rfl rfl 11 (by decide) (hts (.fieldLink R_X 64 "TorqueRows" "torqueNow" "I") mw_74) (fun _ h9 => h9) rfl d_X_step_102 ?_
              refine lv_aload_n hx hb d_X_step_105 rfl (lv_at hl 0 rfl) ?_
              refine va_get (D := (dC, dI)) (ci := 4) (v := .int (vX_step_5 lo pp po df st pz sp li le tb am sd bn)) (C := R_X) (T := F_X) (N := 19) hx hb hts in_X hown hK hP 0 rfl rfl 14 (by decide) (hts (.fieldLink R_X 97 "TorqueRows" "lastWanted" "I") mw_34) (fun _ h9 => h9) rfl d_X_step_106 ?_
              have hPc := hP.sub (ws' := []) [] rfl
              have hDc := hD.sub (ws' := []) [] (by decide) rfl
              have hKc := hK.sub (tys' := []) [] rfl
              have hFc := va_free (wc := []) hD hS hA [] rfl
              refine ca_i (va_runS (As := [.int tq, .int (vX_step_5 lo pp po df st pz sp li le tb am sd bn)]) (rest := [.ref h0]) ⟨hx, hb, hml, hown, hts⟩ (c_X_ramped l dC dI H.size tq (vX_step_5 lo pp po df st pz sp li le tb am sd bn)) (va_cwS 2 hts (gS_ mw_119 mw_118 mw_52 mw_117) rfl rfl rfl (by decide +kernel) ⟨Nat.le_of_ble_eq_true rfl, Nat.le_of_ble_eq_true rfl⟩) ⟨fb_, pu_ hPc hKc hDc hN⟩ rfl rfl hl.1 rfl (lv_room (Nat.le_of_ble_eq_true rfl)) d_X_step_109 ⟨Nat.le_of_ble_eq_true rfl, Nat.le_of_ble_eq_true rfl⟩) hS (fun q _ h => hFc q h) hFc (fun t H locs ht hvm hB hz1 hk1 hS => ?_)
              obtain ⟨hP, hD⟩ := aft_ (wr := [(h0, .inr (4, [.ref h1, .ref h3, .ref h5, .ref h6, .ref h7, .int bn, .int cy, .int li, .int (vX_step_0 lo pp po df st), .int (vX_step_1 lo pp po df), .int tm, .int tq, .int tq, .int (vX_step_3 lo pp po df st pz sp li), .int (vX_step_5 lo pp po df st pz sp li le tb am sd bn), .int ai, .int fu, .int (vX_step_2 lo pp po df st pz sp li), .int (gX_takeSpeed_0_18 lo (pz.toInt32) sp)])), (h1, .inr (0, [.ref h2])), (h2, .inl (kT, 320, .inl tb)), (h3, .inr (1, [.ref h4, .int 0])), (h4, .inl (kW, 6, .inl (vWi_clear_4 le))), (h5, .inr (2, [.int am, .int (vX_step_4 lo pp po df st pz sp li am sd)])), (h6, .inr (3, [.long s0, .long s1, .long s2, .long s3])), (h7, .inl (kB, 3, .inl lo))]) (w1 := []) (w2 := [(h0, .inr (4, [.ref h1, .ref h3, .ref h5, .ref h6, .ref h7, .int bn, .int cy, .int li, .int (vX_step_0 lo pp po df st), .int (vX_step_1 lo pp po df), .int tm, .int tq, .int tq, .int (vX_step_3 lo pp po df st pz sp li), .int (vX_step_5 lo pp po df st pz sp li le tb am sd bn), .int ai, .int fu, .int (vX_step_2 lo pp po df st pz sp li), .int (gX_takeSpeed_0_18 lo (pz.toInt32) sp)])), (h1, .inr (0, [.ref h2])), (h2, .inl (kT, 320, .inl tb)), (h3, .inr (1, [.ref h4, .int 0])), (h4, .inl (kW, 6, .inl (vWi_clear_4 le))), (h5, .inr (2, [.int am, .int (vX_step_4 lo pp po df st pz sp li am sd)])), (h6, .inr (3, [.long s0, .long s1, .long s2, .long s3])), (h7, .inl (kB, 3, .inl lo))]) hP hD [] [0, 1, 2, 3, 4, 5, 6, 7] [0, 1, 2, 3, 4, 5, 6, 7] rfl rfl (by decide) (by decide) hk1 hFc hB ht rfl (by decide)
              refine lv_goto (tgt := 116) hx hb d_X_step_112 (by decide) ?_
              refine W.eq (g2 := F0 m 116 ls [.int (vX_step_6 lo pp po df st pz sp li tq le tb am sd bn), .ref h0]) (by rw [show (vX_step_6 lo pp po df st pz sp li tq le tb am sd bn) = (fX_ramped tq (vX_step_5 lo pp po df st pz sp li le tb am sd bn)) from (if_neg c_6)]) ?_
              exact J_7 _ _ _ (lv_sub hl [0, 1, 2, 3] rfl) hP hD hS
        · refine lv_icmp_ne (tgt := 78) hx hb d_X_step_70 (by decide) (fun c_4 => ?_) (fun c_4 => ?_)
          · exact J_5 _ _ _ (lv_sub hl [0, 1, 2, 3] rfl) (by rw [show (vX_step_3 lo pp po df st pz sp li) = (vX_takeTracks_5 lo (pp.toInt32) (po.toInt32)) from (if_neg c_4)]; exact hP) (by rw [show (vX_step_3 lo pp po df st pz sp li) = (vX_takeTracks_5 lo (pp.toInt32) (po.toInt32)) from (if_neg c_4)]; exact hD) hS
          · refine lv_aload_n hx hb d_X_step_73 rfl (lv_at hl 0 rfl) ?_
            refine lv_iconst (v := 0) hx hb d_X_step_74 (by decide) ?_
            refine va_put (D := (dC, dI)) (ci := 4) (v := .int 0) (ty := .int) (C := R_X) (T := F_X) (N := 19) hx hb hts in_X t_X t_X_ok n_X hown hK hP hD hS 0 rfl rfl 13 (by decide) (hts (.fieldLink R_X 85 "TorqueRows" "lastPedal" "I") mw_43) (fun _ h9 => h9) rfl (by decide +kernel) rfl rfl (Nat.le_of_ble_eq_true rfl) d_X_step_75 (fun H locs hP hD hS => ?_)
            have hP : va_P (dC, dI) classes [(h0, .inr (4, [.ref h1, .ref h3, .ref h5, .ref h6, .ref h7, .int bn, .int cy, .int li, .int (vX_step_0 lo pp po df st), .int (vX_step_1 lo pp po df), .int tm, .int tq, .int tq, .int 0, .int wa, .int ai, .int fu, .int (vX_step_2 lo pp po df st pz sp li), .int (gX_takeSpeed_0_18 lo (pz.toInt32) sp)])), (h1, .inr (0, [.ref h2])), (h2, .inl (kT, 320, .inl tb)), (h3, .inr (1, [.ref h4, .int wt])), (h4, .inl (kW, 6, .inl le)), (h5, .inr (2, [.int am, .int sd])), (h6, .inr (3, [.long s0, .long s1, .long s2, .long s3])), (h7, .inl (kB, 3, .inl lo))] H := hP
            have hD : va_D A [(h0, .inr (4, [.ref h1, .ref h3, .ref h5, .ref h6, .ref h7, .int bn, .int cy, .int li, .int (vX_step_0 lo pp po df st), .int (vX_step_1 lo pp po df), .int tm, .int tq, .int tq, .int 0, .int wa, .int ai, .int fu, .int (vX_step_2 lo pp po df st pz sp li), .int (gX_takeSpeed_0_18 lo (pz.toInt32) sp)])), (h1, .inr (0, [.ref h2])), (h2, .inl (kT, 320, .inl tb)), (h3, .inr (1, [.ref h4, .int wt])), (h4, .inl (kW, 6, .inl le)), (h5, .inr (2, [.int am, .int sd])), (h6, .inr (3, [.long s0, .long s1, .long s2, .long s3])), (h7, .inl (kB, 3, .inl lo))] := hD
            exact J_5 _ _ _ (lv_sub hl [0, 1, 2, 3] rfl) (by rw [show (vX_step_3 lo pp po df st pz sp li) = 0 from (if_pos c_4)]; exact hP) (by rw [show (vX_step_3 lo pp po df st pz sp li) = 0 from (if_pos c_4)]; exact hD) hS
      · refine lv_bipush (v := (-2)) hx hb d_X_step_31 (by decide) ?_
        have h9 : va_P (dC, dI) classes [(h0, .inr (4, [.ref h1, .ref h3, .ref h5, .ref h6, .ref h7, .int bn, .int cy, .int li, .int (gX_step_0_8 pp st po pz lo df), .int (gX_step_0_9 pp df po pz lo), .int tm, .int (gX_step_0_11 pp tq po pz lo df st sp li le tb am sd bn), .int (gX_step_0_12 pp tp po pz tq), .int (gX_step_0_13 pp pd po pz lo df st sp li), .int (gX_step_0_14 pp wa po pz lo df st sp li le tb am sd bn), .int (gX_step_0_15 pp ai po pz tb lo df st sp li tq le am sd bn), .int (gX_step_0_16 pp fu po pz lo df st sp li tq le tb am sd bn), .int (gX_step_0_17 pp mo po pz lo df st sp li), .int (gX_step_0_18 pp sp po pz lo)])), (h1, .inr (0, [.ref h2])), (h2, .inl (kT, 320, .inl tb)), (h3, .inr (1, [.ref h4, .int (gX_step_3_1 pp wt po pz)])), (h4, .inl (kW, 6, .inl (gX_step_4 pp le po pz))), (h5, .inr (2, [.int am, .int (gX_step_5_1 pp sd po pz lo df st sp li am)])), (h6, .inr (3, [.long (gX_step_6_0 pp s0 po pz), .long (gX_step_6_1 pp s1 po pz lo df st sp li tq le tb am sd bn), .long (gX_step_6_2 pp s2 po pz lo df st sp li tq le tb am sd bn), .long (gX_step_6_3 pp s3 po pz lo df st sp li)])), (h7, .inl (kB, 3, .inl lo))] H ∧ va_D A [(h0, .inr (4, [.ref h1, .ref h3, .ref h5, .ref h6, .ref h7, .int bn, .int cy, .int li, .int (gX_step_0_8 pp st po pz lo df), .int (gX_step_0_9 pp df po pz lo), .int tm, .int (gX_step_0_11 pp tq po pz lo df st sp li le tb am sd bn), .int (gX_step_0_12 pp tp po pz tq), .int (gX_step_0_13 pp pd po pz lo df st sp li), .int (gX_step_0_14 pp wa po pz lo df st sp li le tb am sd bn), .int (gX_step_0_15 pp ai po pz tb lo df st sp li tq le am sd bn), .int (gX_step_0_16 pp fu po pz lo df st sp li tq le tb am sd bn), .int (gX_step_0_17 pp mo po pz lo df st sp li), .int (gX_step_0_18 pp sp po pz lo)])), (h1, .inr (0, [.ref h2])), (h2, .inl (kT, 320, .inl tb)), (h3, .inr (1, [.ref h4, .int (gX_step_3_1 pp wt po pz)])), (h4, .inl (kW, 6, .inl (gX_step_4 pp le po pz))), (h5, .inr (2, [.int am, .int (gX_step_5_1 pp sd po pz lo df st sp li am)])), (h6, .inr (3, [.long (gX_step_6_0 pp s0 po pz), .long (gX_step_6_1 pp s1 po pz lo df st sp li tq le tb am sd bn), .long (gX_step_6_2 pp s2 po pz lo df st sp li tq le tb am sd bn), .long (gX_step_6_3 pp s3 po pz lo df st sp li)])), (h7, .inl (kB, 3, .inl lo))] := by rw [show (gX_step_0_8 pp st po pz lo df) = st from ((if_neg c_1).trans ((if_neg c_2).trans (if_pos c_3))), show (gX_step_0_9 pp df po pz lo) = df from ((if_neg c_1).trans ((if_neg c_2).trans (if_pos c_3))), show (gX_step_0_11 pp tq po pz lo df st sp li le tb am sd bn) = tq from ((if_neg c_1).trans ((if_neg c_2).trans (if_pos c_3))), show (gX_step_0_12 pp tp po pz tq) = tp from ((if_neg c_1).trans ((if_neg c_2).trans (if_pos c_3))), show (gX_step_0_13 pp pd po pz lo df st sp li) = pd from ((if_neg c_1).trans ((if_neg c_2).trans (if_pos c_3))), show (gX_step_0_14 pp wa po pz lo df st sp li le tb am sd bn) = wa from ((if_neg c_1).trans ((if_neg c_2).trans (if_pos c_3))), show (gX_step_0_15 pp ai po pz tb lo df st sp li tq le am sd bn) = ai from ((if_neg c_1).trans ((if_neg c_2).trans (if_pos c_3))), show (gX_step_0_16 pp fu po pz lo df st sp li tq le tb am sd bn) = fu from ((if_neg c_1).trans ((if_neg c_2).trans (if_pos c_3))), show (gX_step_0_17 pp mo po pz lo df st sp li) = mo from ((if_neg c_1).trans ((if_neg c_2).trans (if_pos c_3))), show (gX_step_0_18 pp sp po pz lo) = sp from ((if_neg c_1).trans ((if_neg c_2).trans (if_pos c_3))), show (gX_step_3_1 pp wt po pz) = wt from ((if_neg c_1).trans ((if_neg c_2).trans (if_pos c_3))), show (gX_step_4 pp le po pz) = le from ((if_neg c_1).trans ((if_neg c_2).trans (if_pos c_3))), show (gX_step_5_1 pp sd po pz lo df st sp li am) = sd from ((if_neg c_1).trans ((if_neg c_2).trans (if_pos c_3))), show (gX_step_6_0 pp s0 po pz) = s0 from ((if_neg c_1).trans ((if_neg c_2).trans (if_pos c_3))), show (gX_step_6_1 pp s1 po pz lo df st sp li tq le tb am sd bn) = s1 from ((if_neg c_1).trans ((if_neg c_2).trans (if_pos c_3))), show (gX_step_6_2 pp s2 po pz lo df st sp li tq le tb am sd bn) = s2 from ((if_neg c_1).trans ((if_neg c_2).trans (if_pos c_3))), show (gX_step_6_3 pp s3 po pz lo df st sp li) = s3 from ((if_neg c_1).trans ((if_neg c_2).trans (if_pos c_3)))]; exact ⟨hP, hD⟩
        exact W.iret (v := (-2)) hx hb hr (fun t ht hW => ⟨⟨(-2), (), rfl, (((if_neg c_1).trans ((if_neg c_2).trans (if_pos c_3)))).symm, by rw [ht]; exact h9.1, va_K.moved hW.alike hK, h9.2⟩, hS.F ht⟩) hS.2.2 d_X_step_33
end
