abbrev b_X_period : ByteArray := prog_1_method_11_code
def y_X_period : MethodName := ⟨R_X, "period", "(J)J"⟩
abbrev w_X_period : List Cond := .code y_X_period b_X_period 5 (some .long) :: wA_
theorem d_X_period_0 : decode b_X_period 0 = .ok (.lload_n 1, 1) := by decide +kernel
theorem d_X_period_1 : decode b_X_period 1 = .ok (.ldc2_w 62, 3) := by decide +kernel
theorem d_X_period_4 : decode b_X_period 4 = .ok (.invokestatic 54, 3) := by decide +kernel
theorem d_X_period_7 : decode b_X_period 7 = .ok (.ifCond .ne 7, 3) := by decide +kernel
theorem d_X_period_10 : decode b_X_period 10 = .ok (.ldc2_w 133, 3) := by decide +kernel
theorem d_X_period_13 : decode b_X_period 13 = .ok (.lreturn, 1) := by decide +kernel
theorem d_X_period_14 : decode b_X_period 14 = .ok (.lload_n 1, 1) := by decide +kernel
theorem d_X_period_15 : decode b_X_period 15 = .ok (.aload_n 0, 1) := by decide +kernel
theorem d_X_period_16 : decode b_X_period 16 = .ok (.getfield 45, 3) := by decide +kernel
theorem d_X_period_19 : decode b_X_period 19 = .ok (.i2l, 1) := by decide +kernel
theorem d_X_period_20 : decode b_X_period 20 = .ok (.lmul, 1) := by decide +kernel
theorem d_X_period_21 : decode b_X_period 21 = .ok (.lstore_n 3, 1) := by decide +kernel
theorem d_X_period_22 : decode b_X_period 22 = .ok (.lload_n 3, 1) := by decide +kernel
theorem d_X_period_23 : decode b_X_period 23 = .ok (.lconst 0, 1) := by decide +kernel
theorem d_X_period_24 : decode b_X_period 24 = .ok (.lcmp, 1) := by decide +kernel
theorem d_X_period_25 : decode b_X_period 25 = .ok (.ifCond .ne 13, 3) := by decide +kernel
theorem d_X_period_28 : decode b_X_period 28 = .ok (.new 152, 3) := by decide +kernel
theorem d_X_period_31 : decode b_X_period 31 = .ok (.dup, 1) := by decide +kernel
theorem d_X_period_32 : decode b_X_period 32 = .ok (.ldc 154, 2) := by decide +kernel
theorem d_X_period_34 : decode b_X_period 34 = .ok (.invokespecial 156, 3) := by decide +kernel
theorem d_X_period_37 : decode b_X_period 37 = .ok (.athrow, 1) := by decide +kernel
theorem d_X_period_38 : decode b_X_period 38 = .ok (.ldc2_w 159, 3) := by decide +kernel
theorem d_X_period_41 : decode b_X_period 41 = .ok (.lload_n 3, 1) := by decide +kernel
theorem d_X_period_42 : decode b_X_period 42 = .ok (.ldiv, 1) := by decide +kernel
theorem d_X_period_43 : decode b_X_period 43 = .ok (.lreturn, 1) := by decide +kernel
abbrev b_L_period : ByteArray := method_3_code
def y_L_period : MethodName := ⟨R_law, "period", "(LTorqueRows;J[J)I"⟩
abbrev w_L_period : List Cond := .codeWith y_L_period b_L_period 5 (some .int) [(0, 8, 11, 13)] :: wA_
theorem d_L_period_0 : decode b_L_period 0 = .ok (.aload_n 3, 1) := by decide +kernel
theorem d_L_period_1 : decode b_L_period 1 = .ok (.iconst 0, 1) := by decide +kernel
theorem d_L_period_2 : decode b_L_period 2 = .ok (.aload_n 0, 1) := by decide +kernel
theorem d_L_period_3 : decode b_L_period 3 = .ok (.lload_n 1, 1) := by decide +kernel
theorem d_L_period_4 : decode b_L_period 4 = .ok (.invokevirtual 7, 3) := by decide +kernel
theorem d_L_period_7 : decode b_L_period 7 = .ok (.lastore, 1) := by decide +kernel
theorem d_L_period_8 : decode b_L_period 8 = .ok (.goto 7, 3) := by decide +kernel
theorem d_L_period_11 : decode b_L_period 11 = .ok (.astore 4, 2) := by decide +kernel
theorem d_L_period_13 : decode b_L_period 13 = .ok (.iconst 1, 1) := by decide +kernel
theorem d_L_period_14 : decode b_L_period 14 = .ok (.ireturn, 1) := by decide +kernel
theorem d_L_period_15 : decode b_L_period 15 = .ok (.iconst 0, 1) := by decide +kernel
theorem d_L_period_16 : decode b_L_period 16 = .ok (.ireturn, 1) := by decide +kernel
theorem mw_325 : (Cond.constantLong R_X 159 120000000) ∈ wA_ := by decide +kernel
set_option maxRecDepth 20000 in
theorem mw_326 : (Cond.code y_X_period b_X_period 5 (some .long)) ∈ wA_ := List.mem_filter.mpr ⟨List.mem_of_getElem? (i := 335) rfl, rfl⟩
theorem mw_327 : (Cond.instanceMethod y_X_period) ∈ wA_ := by decide +kernel
theorem mw_328 : (Cond.selects R_X y_X_period y_X_period) ∈ wA_ := by decide +kernel
theorem mw_329 : (Cond.methodLink R_law 7 y_X_period) ∈ wA_ := by decide +kernel
theorem mw_330 : (Cond.classLink R_law 13 "java/lang/ArithmeticException") ∈ wA_ := by decide +kernel
set_option maxRecDepth 20000 in
theorem mw_331 : (Cond.codeWith y_L_period b_L_period 5 (some .int) [(0, 8, 11, 13)]) ∈ wA_ := List.mem_filter.mpr ⟨List.mem_of_getElem? (i := 330) rfl, rfl⟩
theorem mw_332 : (Cond.methodLink R_law 65 y_L_period) ∈ wA_ := by decide +kernel
theorem mw_333 : (Cond.static y_L_period) ∈ wA_ := by decide +kernel
theorem mw_334 : (Cond.initialized R_law) ∈ wA_ := by decide +kernel
set_option maxRecDepth 20000 in
theorem mw_335 : (Cond.code y_Z_period b_Z_period 3 (some .long)) ∈ wA_ := List.mem_filter.mpr ⟨List.mem_of_getElem? (i := 560) rfl, rfl⟩
theorem mw_336 : (Cond.instanceMethod y_Z_period) ∈ wA_ := by decide +kernel
theorem mw_337 : (Cond.selects R_Z y_Z_period y_Z_period) ∈ wA_ := by decide +kernel
theorem mw_338 : (Cond.methodLink R_law 70 y_Z_period) ∈ wA_ := by decide +kernel
set_option maxRecDepth 20000 in
theorem mw_339 : (Cond.code y_Z_thrown b_Z_thrown 1 (some .int)) ∈ wA_ := List.mem_filter.mpr ⟨List.mem_of_getElem? (i := 491) rfl, rfl⟩
theorem mw_340 : (Cond.instanceMethod y_Z_thrown) ∈ wA_ := by decide +kernel
theorem mw_341 : (Cond.selects R_Z y_Z_thrown y_Z_thrown) ∈ wA_ := by decide +kernel
theorem mw_342 : (Cond.methodLink R_law 71 y_Z_thrown) ∈ wA_ := by decide +kernel
theorem mw_343 : (Cond.classLink R_law 8 R_X) ∈ wA_ := by decide +kernel
theorem mw_344 : (Cond.instantiable R_X 19) ∈ wA_ := by decide +kernel
set_option maxRecDepth 20000 in
theorem mw_345 : (Cond.code y_X_init b_X_init 1 none) ∈ wA_ := List.mem_filter.mpr ⟨List.mem_of_getElem? (i := 39) rfl, rfl⟩
theorem mw_346 : (Cond.instanceMethod y_X_init) ∈ wA_ := by decide +kernel
theorem mw_347 : (Cond.methodLink R_law 15 y_X_init) ∈ wA_ := by decide +kernel
theorem mw_348 : (Cond.classLink R_law 16 R_Z) ∈ wA_ := by decide +kernel
theorem mw_349 : (Cond.instantiable R_Z 26) ∈ wA_ := by decide +kernel
set_option maxRecDepth 20000 in
theorem mw_350 : (Cond.code y_Z_init b_Z_init 1 none) ∈ wA_ := List.mem_filter.mpr ⟨List.mem_of_getElem? (i := 407) rfl, rfl⟩
theorem mw_351 : (Cond.instanceMethod y_Z_init) ∈ wA_ := by decide +kernel
theorem mw_352 : (Cond.methodLink R_law 18 y_Z_init) ∈ wA_ := by decide +kernel
theorem mw_353 : (Cond.arrayClass .long) ∈ wA_ := by decide +kernel
def fX_period (pv : Int64) (cy : Int32) : Int64 := (if (fX_isUpTo pv 10000) = 0 then (-2) else (120000000 / (pv * (cy.toInt64))))
def fL_period (pv : Int64) (cy : Int32) : Int32 := if (fX_isUpTo pv 10000) = 0 ∨ ¬ (lg_cmp (pv * (cy.toInt64)) 0) = 0 then 0 else 1
def gL_period (pv : Int64) (cy : Int32) (ou : Nat → Int64) : Nat → Int64 := if (fX_isUpTo pv 10000) = 0 ∨ ¬ (lg_cmp (pv * (cy.toInt64)) 0) = 0 then vp_updL ou (0 : Int32).toNatClampNeg (fX_period pv cy) else ou
def vL_period_0 (ou : Nat → Int64) (pv : Int64) (cy : Int32) : Nat → Int64 := (vp_updL ou (0 : Int32).toNatClampNeg (fX_period pv cy))
