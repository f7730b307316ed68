theorem mw_220 : (Cond.constantLong R_law 19 4294967295) ∈ wA_ := by decide +kernel
set_option maxRecDepth 20000 in
theorem mw_221 : (Cond.code y_X_table b_X_table 6 (some .int)) ∈ wA_ := List.mem_filter.mpr ⟨List.mem_of_getElem? (i := 172) rfl, rfl⟩
theorem mw_222 : (Cond.instanceMethod y_X_table) ∈ wA_ := by decide +kernel
theorem mw_223 : (Cond.selects R_X y_X_table y_X_table) ∈ wA_ := by decide +kernel
theorem mw_224 : (Cond.methodLink R_law 21 y_X_table) ∈ wA_ := by decide +kernel
set_option maxRecDepth 20000 in
theorem mw_225 : (Cond.code y_Z_table b_Z_table 7 (some .int)) ∈ wA_ := List.mem_filter.mpr ⟨List.mem_of_getElem? (i := 495) rfl, rfl⟩
theorem mw_226 : (Cond.instanceMethod y_Z_table) ∈ wA_ := by decide +kernel
theorem mw_227 : (Cond.selects R_Z y_Z_table y_Z_table) ∈ wA_ := by decide +kernel
theorem mw_228 : (Cond.methodLink R_law 25 y_Z_table) ∈ wA_ := by decide +kernel
set_option maxRecDepth 20000 in
theorem mw_229 : (Cond.code y_X_step b_X_step 7 (some .int)) ∈ wA_ := List.mem_filter.mpr ⟨List.mem_of_getElem? (i := 190) rfl, rfl⟩
theorem mw_230 : (Cond.instanceMethod y_X_step) ∈ wA_ := by decide +kernel
theorem mw_231 : (Cond.selects R_X y_X_step y_X_step) ∈ wA_ := by decide +kernel
theorem mw_232 : (Cond.methodLink R_law 26 y_X_step) ∈ wA_ := by decide +kernel
set_option maxRecDepth 20000 in
theorem mw_233 : (Cond.code y_Z_step b_Z_step 15 (some .int)) ∈ wA_ := List.mem_filter.mpr ⟨List.mem_of_getElem? (i := 504) rfl, rfl⟩
theorem mw_234 : (Cond.instanceMethod y_Z_step) ∈ wA_ := by decide +kernel
theorem mw_235 : (Cond.selects R_Z y_Z_step y_Z_step) ∈ wA_ := by decide +kernel
theorem mw_236 : (Cond.methodLink R_law 30 y_Z_step) ∈ wA_ := by decide +kernel
set_option maxRecDepth 20000 in
theorem mw_237 : (Cond.code y_X_torque b_X_torque 1 (some .long)) ∈ wA_ := List.mem_filter.mpr ⟨List.mem_of_getElem? (i := 269) rfl, rfl⟩
theorem mw_238 : (Cond.instanceMethod y_X_torque) ∈ wA_ := by decide +kernel
theorem mw_239 : (Cond.selects R_X y_X_torque y_X_torque) ∈ wA_ := by decide +kernel
theorem mw_240 : (Cond.methodLink R_law 31 y_X_torque) ∈ wA_ := by decide +kernel
set_option maxRecDepth 20000 in
theorem mw_241 : (Cond.code y_Z_torque b_Z_torque 1 (some .long)) ∈ wA_ := List.mem_filter.mpr ⟨List.mem_of_getElem? (i := 531) rfl, rfl⟩
theorem mw_242 : (Cond.instanceMethod y_Z_torque) ∈ wA_ := by decide +kernel
theorem mw_243 : (Cond.selects R_Z y_Z_torque y_Z_torque) ∈ wA_ := by decide +kernel
theorem mw_244 : (Cond.methodLink R_law 35 y_Z_torque) ∈ wA_ := by decide +kernel
set_option maxRecDepth 20000 in
theorem mw_245 : (Cond.code y_X_value b_X_value 2 (some .long)) ∈ wA_ := List.mem_filter.mpr ⟨List.mem_of_getElem? (i := 273) rfl, rfl⟩
theorem mw_246 : (Cond.instanceMethod y_X_value) ∈ wA_ := by decide +kernel
theorem mw_247 : (Cond.selects R_X y_X_value y_X_value) ∈ wA_ := by decide +kernel
theorem mw_248 : (Cond.methodLink R_law 36 y_X_value) ∈ wA_ := by decide +kernel
set_option maxRecDepth 20000 in
theorem mw_249 : (Cond.code y_Z_value b_Z_value 2 (some .long)) ∈ wA_ := List.mem_filter.mpr ⟨List.mem_of_getElem? (i := 535) rfl, rfl⟩
theorem mw_250 : (Cond.instanceMethod y_Z_value) ∈ wA_ := by decide +kernel
theorem mw_251 : (Cond.selects R_Z y_Z_value y_Z_value) ∈ wA_ := by decide +kernel
theorem mw_252 : (Cond.methodLink R_law 40 y_Z_value) ∈ wA_ := by decide +kernel
set_option maxRecDepth 20000 in
theorem mw_253 : (Cond.code y_X_wish b_X_wish 4 (some .int)) ∈ wA_ := List.mem_filter.mpr ⟨List.mem_of_getElem? (i := 278) rfl, rfl⟩
theorem mw_254 : (Cond.instanceMethod y_X_wish) ∈ wA_ := by decide +kernel
theorem mw_255 : (Cond.selects R_X y_X_wish y_X_wish) ∈ wA_ := by decide +kernel
theorem mw_256 : (Cond.methodLink R_law 41 y_X_wish) ∈ wA_ := by decide +kernel
set_option maxRecDepth 20000 in
theorem mw_257 : (Cond.code y_Z_wish b_Z_wish 4 (some .int)) ∈ wA_ := List.mem_filter.mpr ⟨List.mem_of_getElem? (i := 540) rfl, rfl⟩
theorem mw_258 : (Cond.instanceMethod y_Z_wish) ∈ wA_ := by decide +kernel
theorem mw_259 : (Cond.selects R_Z y_Z_wish y_Z_wish) ∈ wA_ := by decide +kernel
theorem mw_260 : (Cond.methodLink R_law 45 y_Z_wish) ∈ wA_ := by decide +kernel
set_option maxRecDepth 20000 in
theorem mw_261 : (Cond.code y_X_bound b_X_bound 4 (some .int)) ∈ wA_ := List.mem_filter.mpr ⟨List.mem_of_getElem? (i := 286) rfl, rfl⟩
theorem mw_262 : (Cond.instanceMethod y_X_bound) ∈ wA_ := by decide +kernel
theorem mw_263 : (Cond.selects R_X y_X_bound y_X_bound) ∈ wA_ := by decide +kernel
theorem mw_264 : (Cond.methodLink R_law 46 y_X_bound) ∈ wA_ := by decide +kernel
set_option maxRecDepth 20000 in
theorem mw_265 : (Cond.code y_Z_bound b_Z_bound 4 (some .int)) ∈ wA_ := List.mem_filter.mpr ⟨List.mem_of_getElem? (i := 544) rfl, rfl⟩
theorem mw_266 : (Cond.instanceMethod y_Z_bound) ∈ wA_ := by decide +kernel
theorem mw_267 : (Cond.selects R_Z y_Z_bound y_Z_bound) ∈ wA_ := by decide +kernel
theorem mw_268 : (Cond.methodLink R_law 50 y_Z_bound) ∈ wA_ := by decide +kernel
set_option maxRecDepth 20000 in
theorem mw_269 : (Cond.code y_X_monitor b_X_monitor 3 (some .int)) ∈ wA_ := List.mem_filter.mpr ⟨List.mem_of_getElem? (i := 290) rfl, rfl⟩
theorem mw_270 : (Cond.instanceMethod y_X_monitor) ∈ wA_ := by decide +kernel
theorem mw_271 : (Cond.selects R_X y_X_monitor y_X_monitor) ∈ wA_ := by decide +kernel
theorem mw_272 : (Cond.methodLink R_law 51 y_X_monitor) ∈ wA_ := by decide +kernel
set_option maxRecDepth 20000 in
theorem mw_273 : (Cond.code y_Z_monitor b_Z_monitor 3 (some .int)) ∈ wA_ := List.mem_filter.mpr ⟨List.mem_of_getElem? (i := 548) rfl, rfl⟩
theorem mw_274 : (Cond.instanceMethod y_Z_monitor) ∈ wA_ := by decide +kernel
theorem mw_275 : (Cond.selects R_Z y_Z_monitor y_Z_monitor) ∈ wA_ := by decide +kernel
theorem mw_276 : (Cond.methodLink R_law 54 y_Z_monitor) ∈ wA_ := by decide +kernel
set_option maxRecDepth 20000 in
theorem mw_277 : (Cond.code y_X_sensor b_X_sensor 4 (some .int)) ∈ wA_ := List.mem_filter.mpr ⟨List.mem_of_getElem? (i := 298) rfl, rfl⟩
theorem mw_278 : (Cond.instanceMethod y_X_sensor) ∈ wA_ := by decide +kernel
theorem mw_279 : (Cond.selects R_X y_X_sensor y_X_sensor) ∈ wA_ := by decide +kernel
theorem mw_280 : (Cond.methodLink R_law 55 y_X_sensor) ∈ wA_ := by decide +kernel
set_option maxRecDepth 20000 in
theorem mw_281 : (Cond.code y_Z_sensor b_Z_sensor 4 (some .int)) ∈ wA_ := List.mem_filter.mpr ⟨List.mem_of_getElem? (i := 552) rfl, rfl⟩
theorem mw_282 : (Cond.instanceMethod y_Z_sensor) ∈ wA_ := by decide +kernel
theorem mw_283 : (Cond.selects R_Z y_Z_sensor y_Z_sensor) ∈ wA_ := by decide +kernel
theorem mw_284 : (Cond.methodLink R_law 59 y_Z_sensor) ∈ wA_ := by decide +kernel
set_option maxRecDepth 20000 in
theorem mw_285 : (Cond.code y_X_cylinder b_X_cylinder 2 (some .int)) ∈ wA_ := List.mem_filter.mpr ⟨List.mem_of_getElem? (i := 302) rfl, rfl⟩
theorem mw_286 : (Cond.instanceMethod y_X_cylinder) ∈ wA_ := by decide +kernel
theorem mw_287 : (Cond.selects R_X y_X_cylinder y_X_cylinder) ∈ wA_ := by decide +kernel
theorem mw_288 : (Cond.methodLink R_law 60 y_X_cylinder) ∈ wA_ := by decide +kernel
set_option maxRecDepth 20000 in
theorem mw_289 : (Cond.code y_Z_cylinder b_Z_cylinder 2 (some .int)) ∈ wA_ := List.mem_filter.mpr ⟨List.mem_of_getElem? (i := 556) rfl, rfl⟩
theorem mw_290 : (Cond.instanceMethod y_Z_cylinder) ∈ wA_ := by decide +kernel
theorem mw_291 : (Cond.selects R_Z y_Z_cylinder y_Z_cylinder) ∈ wA_ := by decide +kernel
theorem mw_292 : (Cond.methodLink R_law 64 y_Z_cylinder) ∈ wA_ := by decide +kernel
set_option maxRecDepth 20000 in
theorem mw_293 : (Cond.code y_X_idle b_X_idle 4 (some .int)) ∈ wA_ := List.mem_filter.mpr ⟨List.mem_of_getElem? (i := 306) rfl, rfl⟩
theorem mw_294 : (Cond.instanceMethod y_X_idle) ∈ wA_ := by decide +kernel
theorem mw_295 : (Cond.selects R_X y_X_idle y_X_idle) ∈ wA_ := by decide +kernel
theorem mw_296 : (Cond.methodLink R_law 75 y_X_idle) ∈ wA_ := by decide +kernel
set_option maxRecDepth 20000 in
theorem mw_297 : (Cond.code y_Z_idle b_Z_idle 4 (some .int)) ∈ wA_ := List.mem_filter.mpr ⟨List.mem_of_getElem? (i := 565) rfl, rfl⟩
theorem mw_298 : (Cond.instanceMethod y_Z_idle) ∈ wA_ := by decide +kernel
theorem mw_299 : (Cond.selects R_Z y_Z_idle y_Z_idle) ∈ wA_ := by decide +kernel
theorem mw_300 : (Cond.methodLink R_law 78 y_Z_idle) ∈ wA_ := by decide +kernel
set_option maxRecDepth 20000 in
theorem mw_301 : (Cond.code y_X_sum b_X_sum 2 (some .long)) ∈ wA_ := List.mem_filter.mpr ⟨List.mem_of_getElem? (i := 311) rfl, rfl⟩
theorem mw_302 : (Cond.instanceMethod y_X_sum) ∈ wA_ := by decide +kernel
theorem mw_303 : (Cond.selects R_X y_X_sum y_X_sum) ∈ wA_ := by decide +kernel
theorem mw_304 : (Cond.methodLink R_law 79 y_X_sum) ∈ wA_ := by decide +kernel
set_option maxRecDepth 20000 in
theorem mw_305 : (Cond.code y_Z_sum b_Z_sum 2 (some .long)) ∈ wA_ := List.mem_filter.mpr ⟨List.mem_of_getElem? (i := 570) rfl, rfl⟩
theorem mw_306 : (Cond.instanceMethod y_Z_sum) ∈ wA_ := by decide +kernel
theorem mw_307 : (Cond.selects R_Z y_Z_sum y_Z_sum) ∈ wA_ := by decide +kernel
theorem mw_308 : (Cond.methodLink R_law 82 y_Z_sum) ∈ wA_ := by decide +kernel
set_option maxRecDepth 20000 in
theorem mw_309 : (Cond.code y_X_split b_X_split 6 (some .int)) ∈ wA_ := List.mem_filter.mpr ⟨List.mem_of_getElem? (i := 315) rfl, rfl⟩
theorem mw_310 : (Cond.instanceMethod y_X_split) ∈ wA_ := by decide +kernel
theorem mw_311 : (Cond.selects R_X y_X_split y_X_split) ∈ wA_ := by decide +kernel
theorem mw_312 : (Cond.methodLink R_law 83 y_X_split) ∈ wA_ := by decide +kernel
set_option maxRecDepth 20000 in
theorem mw_313 : (Cond.code y_Z_split b_Z_split 9 (some .int)) ∈ wA_ := List.mem_filter.mpr ⟨List.mem_of_getElem? (i := 574) rfl, rfl⟩
theorem mw_314 : (Cond.instanceMethod y_Z_split) ∈ wA_ := by decide +kernel
theorem mw_315 : (Cond.selects R_Z y_Z_split y_Z_split) ∈ wA_ := by decide +kernel
theorem mw_316 : (Cond.methodLink R_law 87 y_Z_split) ∈ wA_ := by decide +kernel
set_option maxRecDepth 20000 in
theorem mw_317 : (Cond.code y_X_limp b_X_limp 3 (some .int)) ∈ wA_ := List.mem_filter.mpr ⟨List.mem_of_getElem? (i := 327) rfl, rfl⟩
theorem mw_318 : (Cond.instanceMethod y_X_limp) ∈ wA_ := by decide +kernel
theorem mw_319 : (Cond.selects R_X y_X_limp y_X_limp) ∈ wA_ := by decide +kernel
theorem mw_320 : (Cond.methodLink R_law 88 y_X_limp) ∈ wA_ := by decide +kernel
set_option maxRecDepth 20000 in
theorem mw_321 : (Cond.code y_Z_limp b_Z_limp 4 (some .int)) ∈ wA_ := List.mem_filter.mpr ⟨List.mem_of_getElem? (i := 578) rfl, rfl⟩
theorem mw_322 : (Cond.instanceMethod y_Z_limp) ∈ wA_ := by decide +kernel
theorem mw_323 : (Cond.selects R_Z y_Z_limp y_Z_limp) ∈ wA_ := by decide +kernel
theorem mw_324 : (Cond.methodLink R_law 92 y_Z_limp) ∈ wA_ := by decide +kernel
