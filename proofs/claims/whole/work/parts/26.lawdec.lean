theorem d_law_0 : decode code 0 = .ok (.new 8, 3) := by decide +kernel
theorem d_law_3 : decode code 3 = .ok (.dup, 1) := by decide +kernel
theorem d_law_4 : decode code 4 = .ok (.invokespecial 15, 3) := by decide +kernel
theorem d_law_7 : decode code 7 = .ok (.astore_n 1, 1) := by decide +kernel
theorem d_law_8 : decode code 8 = .ok (.new 16, 3) := by decide +kernel
theorem d_law_11 : decode code 11 = .ok (.dup, 1) := by decide +kernel
theorem d_law_12 : decode code 12 = .ok (.invokespecial 18, 3) := by decide +kernel
theorem d_law_15 : decode code 15 = .ok (.astore_n 2, 1) := by decide +kernel
theorem d_law_16 : decode code 16 = .ok (.iconst 1, 1) := by decide +kernel
theorem d_law_17 : decode code 17 = .ok (.newarray .long, 2) := by decide +kernel
theorem d_law_19 : decode code 19 = .ok (.astore_n 3, 1) := by decide +kernel
theorem d_law_20 : decode code 20 = .ok (.iconst 0, 1) := by decide +kernel
theorem d_law_21 : decode code 21 = .ok (.istore 4, 2) := by decide +kernel
theorem d_law_23 : decode code 23 = .ok (.iload 4, 2) := by decide +kernel
theorem d_law_25 : decode code 25 = .ok (.aload_n 0, 1) := by decide +kernel
theorem d_law_26 : decode code 26 = .ok (.arraylength, 1) := by decide +kernel
theorem d_law_27 : decode code 27 = .ok (.bipush 7, 2) := by decide +kernel
theorem d_law_29 : decode code 29 = .ok (.isub, 1) := by decide +kernel
theorem d_law_30 : decode code 30 = .ok (.if_icmp .gt 893, 3) := by decide +kernel
theorem d_law_33 : decode code 33 = .ok (.aload_n 0, 1) := by decide +kernel
theorem d_law_34 : decode code 34 = .ok (.iload 4, 2) := by decide +kernel
theorem d_law_36 : decode code 36 = .ok (.iaload, 1) := by decide +kernel
theorem d_law_37 : decode code 37 = .ok (.bipush 15, 2) := by decide +kernel
theorem d_law_39 : decode code 39 = .ok (.iand, 1) := by decide +kernel
theorem d_law_40 : decode code 40 = .ok (.tableswitch 877 0 13 #[72, 165, 312, 326, 352, 421, 478, 535, 572, 597, 684, 741, 767, 836], 72) := by decide +kernel
theorem d_law_112 : decode code 112 = .ok (.aload_n 1, 1) := by decide +kernel
theorem d_law_113 : decode code 113 = .ok (.aload_n 0, 1) := by decide +kernel
theorem d_law_114 : decode code 114 = .ok (.iload 4, 2) := by decide +kernel
theorem d_law_116 : decode code 116 = .ok (.iconst 1, 1) := by decide +kernel
theorem d_law_117 : decode code 117 = .ok (.iadd, 1) := by decide +kernel
theorem d_law_118 : decode code 118 = .ok (.iaload, 1) := by decide +kernel
theorem d_law_119 : decode code 119 = .ok (.aload_n 0, 1) := by decide +kernel
theorem d_law_120 : decode code 120 = .ok (.iload 4, 2) := by decide +kernel
theorem d_law_122 : decode code 122 = .ok (.iconst 2, 1) := by decide +kernel
theorem d_law_123 : decode code 123 = .ok (.iadd, 1) := by decide +kernel
theorem d_law_124 : decode code 124 = .ok (.iaload, 1) := by decide +kernel
theorem d_law_125 : decode code 125 = .ok (.aload_n 0, 1) := by decide +kernel
theorem d_law_126 : decode code 126 = .ok (.iload 4, 2) := by decide +kernel
theorem d_law_128 : decode code 128 = .ok (.iconst 3, 1) := by decide +kernel
theorem d_law_129 : decode code 129 = .ok (.iadd, 1) := by decide +kernel
theorem d_law_130 : decode code 130 = .ok (.iaload, 1) := by decide +kernel
theorem d_law_131 : decode code 131 = .ok (.aload_n 0, 1) := by decide +kernel
theorem d_law_132 : decode code 132 = .ok (.iload 4, 2) := by decide +kernel
theorem d_law_134 : decode code 134 = .ok (.iconst 4, 1) := by decide +kernel
theorem d_law_135 : decode code 135 = .ok (.iadd, 1) := by decide +kernel
theorem d_law_136 : decode code 136 = .ok (.iaload, 1) := by decide +kernel
theorem d_law_137 : decode code 137 = .ok (.i2l, 1) := by decide +kernel
theorem d_law_138 : decode code 138 = .ok (.bipush 32, 2) := by decide +kernel
theorem d_law_140 : decode code 140 = .ok (.lshl, 1) := by decide +kernel
theorem d_law_141 : decode code 141 = .ok (.aload_n 0, 1) := by decide +kernel
theorem d_law_142 : decode code 142 = .ok (.iload 4, 2) := by decide +kernel
theorem d_law_144 : decode code 144 = .ok (.iconst 5, 1) := by decide +kernel
theorem d_law_145 : decode code 145 = .ok (.iadd, 1) := by decide +kernel
theorem d_law_146 : decode code 146 = .ok (.iaload, 1) := by decide +kernel
theorem d_law_147 : decode code 147 = .ok (.i2l, 1) := by decide +kernel
theorem d_law_148 : decode code 148 = .ok (.ldc2_w 19, 3) := by decide +kernel
theorem d_law_151 : decode code 151 = .ok (.land, 1) := by decide +kernel
theorem d_law_152 : decode code 152 = .ok (.lor, 1) := by decide +kernel
theorem d_law_153 : decode code 153 = .ok (.invokevirtual 21, 3) := by decide +kernel
theorem d_law_156 : decode code 156 = .ok (.aload_n 2, 1) := by decide +kernel
theorem d_law_157 : decode code 157 = .ok (.aload_n 0, 1) := by decide +kernel
theorem d_law_158 : decode code 158 = .ok (.iload 4, 2) := by decide +kernel
theorem d_law_160 : decode code 160 = .ok (.iconst 1, 1) := by decide +kernel
theorem d_law_161 : decode code 161 = .ok (.iadd, 1) := by decide +kernel
theorem d_law_162 : decode code 162 = .ok (.iaload, 1) := by decide +kernel
theorem d_law_163 : decode code 163 = .ok (.aload_n 0, 1) := by decide +kernel
theorem d_law_164 : decode code 164 = .ok (.iload 4, 2) := by decide +kernel
theorem d_law_166 : decode code 166 = .ok (.iconst 2, 1) := by decide +kernel
theorem d_law_167 : decode code 167 = .ok (.iadd, 1) := by decide +kernel
theorem d_law_168 : decode code 168 = .ok (.iaload, 1) := by decide +kernel
theorem d_law_169 : decode code 169 = .ok (.aload_n 0, 1) := by decide +kernel
theorem d_law_170 : decode code 170 = .ok (.iload 4, 2) := by decide +kernel
theorem d_law_172 : decode code 172 = .ok (.iconst 3, 1) := by decide +kernel
theorem d_law_173 : decode code 173 = .ok (.iadd, 1) := by decide +kernel
theorem d_law_174 : decode code 174 = .ok (.iaload, 1) := by decide +kernel
theorem d_law_175 : decode code 175 = .ok (.aload_n 0, 1) := by decide +kernel
theorem d_law_176 : decode code 176 = .ok (.iload 4, 2) := by decide +kernel
theorem d_law_178 : decode code 178 = .ok (.iconst 4, 1) := by decide +kernel
theorem d_law_179 : decode code 179 = .ok (.iadd, 1) := by decide +kernel
theorem d_law_180 : decode code 180 = .ok (.iaload, 1) := by decide +kernel
theorem d_law_181 : decode code 181 = .ok (.i2l, 1) := by decide +kernel
theorem d_law_182 : decode code 182 = .ok (.bipush 32, 2) := by decide +kernel
theorem d_law_184 : decode code 184 = .ok (.lshl, 1) := by decide +kernel
theorem d_law_185 : decode code 185 = .ok (.aload_n 0, 1) := by decide +kernel
theorem d_law_186 : decode code 186 = .ok (.iload 4, 2) := by decide +kernel
theorem d_law_188 : decode code 188 = .ok (.iconst 5, 1) := by decide +kernel
theorem d_law_189 : decode code 189 = .ok (.iadd, 1) := by decide +kernel
theorem d_law_190 : decode code 190 = .ok (.iaload, 1) := by decide +kernel
theorem d_law_191 : decode code 191 = .ok (.i2l, 1) := by decide +kernel
theorem d_law_192 : decode code 192 = .ok (.ldc2_w 19, 3) := by decide +kernel
theorem d_law_195 : decode code 195 = .ok (.land, 1) := by decide +kernel
theorem d_law_196 : decode code 196 = .ok (.lor, 1) := by decide +kernel
theorem d_law_197 : decode code 197 = .ok (.invokevirtual 25, 3) := by decide +kernel
theorem d_law_200 : decode code 200 = .ok (.if_icmp .eq 717, 3) := by decide +kernel
theorem d_law_203 : decode code 203 = .ok (.iconst 0, 1) := by decide +kernel
theorem d_law_204 : decode code 204 = .ok (.ireturn, 1) := by decide +kernel
theorem d_law_205 : decode code 205 = .ok (.aload_n 1, 1) := by decide +kernel
theorem d_law_206 : decode code 206 = .ok (.aload_n 0, 1) := by decide +kernel
theorem d_law_207 : decode code 207 = .ok (.iload 4, 2) := by decide +kernel
theorem d_law_209 : decode code 209 = .ok (.iconst 1, 1) := by decide +kernel
theorem d_law_210 : decode code 210 = .ok (.iadd, 1) := by decide +kernel
theorem d_law_211 : decode code 211 = .ok (.iaload, 1) := by decide +kernel
theorem d_law_212 : decode code 212 = .ok (.i2l, 1) := by decide +kernel
theorem d_law_213 : decode code 213 = .ok (.bipush 32, 2) := by decide +kernel
theorem d_law_215 : decode code 215 = .ok (.lshl, 1) := by decide +kernel
theorem d_law_216 : decode code 216 = .ok (.aload_n 0, 1) := by decide +kernel
theorem d_law_217 : decode code 217 = .ok (.iload 4, 2) := by decide +kernel
theorem d_law_219 : decode code 219 = .ok (.iconst 2, 1) := by decide +kernel
theorem d_law_220 : decode code 220 = .ok (.iadd, 1) := by decide +kernel
theorem d_law_221 : decode code 221 = .ok (.iaload, 1) := by decide +kernel
theorem d_law_222 : decode code 222 = .ok (.i2l, 1) := by decide +kernel
theorem d_law_223 : decode code 223 = .ok (.ldc2_w 19, 3) := by decide +kernel
theorem d_law_226 : decode code 226 = .ok (.land, 1) := by decide +kernel
theorem d_law_227 : decode code 227 = .ok (.lor, 1) := by decide +kernel
theorem d_law_228 : decode code 228 = .ok (.aload_n 0, 1) := by decide +kernel
theorem d_law_229 : decode code 229 = .ok (.iload 4, 2) := by decide +kernel
theorem d_law_231 : decode code 231 = .ok (.iconst 3, 1) := by decide +kernel
theorem d_law_232 : decode code 232 = .ok (.iadd, 1) := by decide +kernel
theorem d_law_233 : decode code 233 = .ok (.iaload, 1) := by decide +kernel
theorem d_law_234 : decode code 234 = .ok (.i2l, 1) := by decide +kernel
theorem d_law_235 : decode code 235 = .ok (.bipush 32, 2) := by decide +kernel
theorem d_law_237 : decode code 237 = .ok (.lshl, 1) := by decide +kernel
theorem d_law_238 : decode code 238 = .ok (.aload_n 0, 1) := by decide +kernel
theorem d_law_239 : decode code 239 = .ok (.iload 4, 2) := by decide +kernel
theorem d_law_241 : decode code 241 = .ok (.iconst 4, 1) := by decide +kernel
theorem d_law_242 : decode code 242 = .ok (.iadd, 1) := by decide +kernel
theorem d_law_243 : decode code 243 = .ok (.iaload, 1) := by decide +kernel
theorem d_law_244 : decode code 244 = .ok (.i2l, 1) := by decide +kernel
theorem d_law_245 : decode code 245 = .ok (.ldc2_w 19, 3) := by decide +kernel
theorem d_law_248 : decode code 248 = .ok (.land, 1) := by decide +kernel
theorem d_law_249 : decode code 249 = .ok (.lor, 1) := by decide +kernel
theorem d_law_250 : decode code 250 = .ok (.aload_n 0, 1) := by decide +kernel
theorem d_law_251 : decode code 251 = .ok (.iload 4, 2) := by decide +kernel
theorem d_law_253 : decode code 253 = .ok (.iconst 5, 1) := by decide +kernel
theorem d_law_254 : decode code 254 = .ok (.iadd, 1) := by decide +kernel
theorem d_law_255 : decode code 255 = .ok (.iaload, 1) := by decide +kernel
theorem d_law_256 : decode code 256 = .ok (.i2l, 1) := by decide +kernel
theorem d_law_257 : decode code 257 = .ok (.bipush 32, 2) := by decide +kernel
theorem d_law_259 : decode code 259 = .ok (.lshl, 1) := by decide +kernel
theorem d_law_260 : decode code 260 = .ok (.aload_n 0, 1) := by decide +kernel
theorem d_law_261 : decode code 261 = .ok (.iload 4, 2) := by decide +kernel
theorem d_law_263 : decode code 263 = .ok (.bipush 6, 2) := by decide +kernel
theorem d_law_265 : decode code 265 = .ok (.iadd, 1) := by decide +kernel
theorem d_law_266 : decode code 266 = .ok (.iaload, 1) := by decide +kernel
theorem d_law_267 : decode code 267 = .ok (.i2l, 1) := by decide +kernel
theorem d_law_268 : decode code 268 = .ok (.ldc2_w 19, 3) := by decide +kernel
theorem d_law_271 : decode code 271 = .ok (.land, 1) := by decide +kernel
theorem d_law_272 : decode code 272 = .ok (.lor, 1) := by decide +kernel
theorem d_law_273 : decode code 273 = .ok (.invokevirtual 26, 3) := by decide +kernel
theorem d_law_276 : decode code 276 = .ok (.aload_n 2, 1) := by decide +kernel
theorem d_law_277 : decode code 277 = .ok (.aload_n 0, 1) := by decide +kernel
theorem d_law_278 : decode code 278 = .ok (.iload 4, 2) := by decide +kernel
theorem d_law_280 : decode code 280 = .ok (.iconst 1, 1) := by decide +kernel
theorem d_law_281 : decode code 281 = .ok (.iadd, 1) := by decide +kernel
theorem d_law_282 : decode code 282 = .ok (.iaload, 1) := by decide +kernel
theorem d_law_283 : decode code 283 = .ok (.i2l, 1) := by decide +kernel
theorem d_law_284 : decode code 284 = .ok (.bipush 32, 2) := by decide +kernel
theorem d_law_286 : decode code 286 = .ok (.lshl, 1) := by decide +kernel
theorem d_law_287 : decode code 287 = .ok (.aload_n 0, 1) := by decide +kernel
theorem d_law_288 : decode code 288 = .ok (.iload 4, 2) := by decide +kernel
theorem d_law_290 : decode code 290 = .ok (.iconst 2, 1) := by decide +kernel
theorem d_law_291 : decode code 291 = .ok (.iadd, 1) := by decide +kernel
theorem d_law_292 : decode code 292 = .ok (.iaload, 1) := by decide +kernel
theorem d_law_293 : decode code 293 = .ok (.i2l, 1) := by decide +kernel
theorem d_law_294 : decode code 294 = .ok (.ldc2_w 19, 3) := by decide +kernel
theorem d_law_297 : decode code 297 = .ok (.land, 1) := by decide +kernel
theorem d_law_298 : decode code 298 = .ok (.lor, 1) := by decide +kernel
theorem d_law_299 : decode code 299 = .ok (.aload_n 0, 1) := by decide +kernel
theorem d_law_300 : decode code 300 = .ok (.iload 4, 2) := by decide +kernel
theorem d_law_302 : decode code 302 = .ok (.iconst 3, 1) := by decide +kernel
theorem d_law_303 : decode code 303 = .ok (.iadd, 1) := by decide +kernel
theorem d_law_304 : decode code 304 = .ok (.iaload, 1) := by decide +kernel
theorem d_law_305 : decode code 305 = .ok (.i2l, 1) := by decide +kernel
theorem d_law_306 : decode code 306 = .ok (.bipush 32, 2) := by decide +kernel
theorem d_law_308 : decode code 308 = .ok (.lshl, 1) := by decide +kernel
theorem d_law_309 : decode code 309 = .ok (.aload_n 0, 1) := by decide +kernel
theorem d_law_310 : decode code 310 = .ok (.iload 4, 2) := by decide +kernel
theorem d_law_312 : decode code 312 = .ok (.iconst 4, 1) := by decide +kernel
theorem d_law_313 : decode code 313 = .ok (.iadd, 1) := by decide +kernel
theorem d_law_314 : decode code 314 = .ok (.iaload, 1) := by decide +kernel
theorem d_law_315 : decode code 315 = .ok (.i2l, 1) := by decide +kernel
theorem d_law_316 : decode code 316 = .ok (.ldc2_w 19, 3) := by decide +kernel
theorem d_law_319 : decode code 319 = .ok (.land, 1) := by decide +kernel
theorem d_law_320 : decode code 320 = .ok (.lor, 1) := by decide +kernel
theorem d_law_321 : decode code 321 = .ok (.aload_n 0, 1) := by decide +kernel
theorem d_law_322 : decode code 322 = .ok (.iload 4, 2) := by decide +kernel
theorem d_law_324 : decode code 324 = .ok (.iconst 5, 1) := by decide +kernel
theorem d_law_325 : decode code 325 = .ok (.iadd, 1) := by decide +kernel
theorem d_law_326 : decode code 326 = .ok (.iaload, 1) := by decide +kernel
theorem d_law_327 : decode code 327 = .ok (.i2l, 1) := by decide +kernel
theorem d_law_328 : decode code 328 = .ok (.bipush 32, 2) := by decide +kernel
theorem d_law_330 : decode code 330 = .ok (.lshl, 1) := by decide +kernel
theorem d_law_331 : decode code 331 = .ok (.aload_n 0, 1) := by decide +kernel
theorem d_law_332 : decode code 332 = .ok (.iload 4, 2) := by decide +kernel
theorem d_law_334 : decode code 334 = .ok (.bipush 6, 2) := by decide +kernel
theorem d_law_336 : decode code 336 = .ok (.iadd, 1) := by decide +kernel
theorem d_law_337 : decode code 337 = .ok (.iaload, 1) := by decide +kernel
theorem d_law_338 : decode code 338 = .ok (.i2l, 1) := by decide +kernel
theorem d_law_339 : decode code 339 = .ok (.ldc2_w 19, 3) := by decide +kernel
theorem d_law_342 : decode code 342 = .ok (.land, 1) := by decide +kernel
theorem d_law_343 : decode code 343 = .ok (.lor, 1) := by decide +kernel
theorem d_law_344 : decode code 344 = .ok (.invokevirtual 30, 3) := by decide +kernel
theorem d_law_347 : decode code 347 = .ok (.if_icmp .eq 570, 3) := by decide +kernel
theorem d_law_350 : decode code 350 = .ok (.iconst 0, 1) := by decide +kernel
theorem d_law_351 : decode code 351 = .ok (.ireturn, 1) := by decide +kernel
theorem d_law_352 : decode code 352 = .ok (.aload_n 1, 1) := by decide +kernel
theorem d_law_353 : decode code 353 = .ok (.invokevirtual 31, 3) := by decide +kernel
theorem d_law_356 : decode code 356 = .ok (.aload_n 2, 1) := by decide +kernel
theorem d_law_357 : decode code 357 = .ok (.invokevirtual 35, 3) := by decide +kernel
theorem d_law_360 : decode code 360 = .ok (.lcmp, 1) := by decide +kernel
theorem d_law_361 : decode code 361 = .ok (.ifCond .eq 556, 3) := by decide +kernel
theorem d_law_364 : decode code 364 = .ok (.iconst 0, 1) := by decide +kernel
theorem d_law_365 : decode code 365 = .ok (.ireturn, 1) := by decide +kernel
theorem d_law_366 : decode code 366 = .ok (.aload_n 1, 1) := by decide +kernel
theorem d_law_367 : decode code 367 = .ok (.aload_n 0, 1) := by decide +kernel
theorem d_law_368 : decode code 368 = .ok (.iload 4, 2) := by decide +kernel
theorem d_law_370 : decode code 370 = .ok (.iconst 1, 1) := by decide +kernel
theorem d_law_371 : decode code 371 = .ok (.iadd, 1) := by decide +kernel
theorem d_law_372 : decode code 372 = .ok (.iaload, 1) := by decide +kernel
theorem d_law_373 : decode code 373 = .ok (.invokevirtual 36, 3) := by decide +kernel
theorem d_law_376 : decode code 376 = .ok (.aload_n 2, 1) := by decide +kernel
theorem d_law_377 : decode code 377 = .ok (.aload_n 0, 1) := by decide +kernel
theorem d_law_378 : decode code 378 = .ok (.iload 4, 2) := by decide +kernel
theorem d_law_380 : decode code 380 = .ok (.iconst 1, 1) := by decide +kernel
theorem d_law_381 : decode code 381 = .ok (.iadd, 1) := by decide +kernel
theorem d_law_382 : decode code 382 = .ok (.iaload, 1) := by decide +kernel
theorem d_law_383 : decode code 383 = .ok (.invokevirtual 40, 3) := by decide +kernel
theorem d_law_386 : decode code 386 = .ok (.lcmp, 1) := by decide +kernel
theorem d_law_387 : decode code 387 = .ok (.ifCond .eq 530, 3) := by decide +kernel
theorem d_law_390 : decode code 390 = .ok (.iconst 0, 1) := by decide +kernel
theorem d_law_391 : decode code 391 = .ok (.ireturn, 1) := by decide +kernel
theorem d_law_392 : decode code 392 = .ok (.aload_n 1, 1) := by decide +kernel
theorem d_law_393 : decode code 393 = .ok (.aload_n 0, 1) := by decide +kernel
theorem d_law_394 : decode code 394 = .ok (.iload 4, 2) := by decide +kernel
theorem d_law_396 : decode code 396 = .ok (.iconst 1, 1) := by decide +kernel
theorem d_law_397 : decode code 397 = .ok (.iadd, 1) := by decide +kernel
theorem d_law_398 : decode code 398 = .ok (.iaload, 1) := by decide +kernel
theorem d_law_399 : decode code 399 = .ok (.aload_n 0, 1) := by decide +kernel
theorem d_law_400 : decode code 400 = .ok (.iload 4, 2) := by decide +kernel
theorem d_law_402 : decode code 402 = .ok (.iconst 2, 1) := by decide +kernel
theorem d_law_403 : decode code 403 = .ok (.iadd, 1) := by decide +kernel
theorem d_law_404 : decode code 404 = .ok (.iaload, 1) := by decide +kernel
theorem d_law_405 : decode code 405 = .ok (.i2l, 1) := by decide +kernel
theorem d_law_406 : decode code 406 = .ok (.bipush 32, 2) := by decide +kernel
theorem d_law_408 : decode code 408 = .ok (.lshl, 1) := by decide +kernel
theorem d_law_409 : decode code 409 = .ok (.aload_n 0, 1) := by decide +kernel
theorem d_law_410 : decode code 410 = .ok (.iload 4, 2) := by decide +kernel
theorem d_law_412 : decode code 412 = .ok (.iconst 3, 1) := by decide +kernel
theorem d_law_413 : decode code 413 = .ok (.iadd, 1) := by decide +kernel
theorem d_law_414 : decode code 414 = .ok (.iaload, 1) := by decide +kernel
theorem d_law_415 : decode code 415 = .ok (.i2l, 1) := by decide +kernel
theorem d_law_416 : decode code 416 = .ok (.ldc2_w 19, 3) := by decide +kernel
theorem d_law_419 : decode code 419 = .ok (.land, 1) := by decide +kernel
theorem d_law_420 : decode code 420 = .ok (.lor, 1) := by decide +kernel
theorem d_law_421 : decode code 421 = .ok (.invokevirtual 41, 3) := by decide +kernel
theorem d_law_424 : decode code 424 = .ok (.aload_n 2, 1) := by decide +kernel
theorem d_law_425 : decode code 425 = .ok (.aload_n 0, 1) := by decide +kernel
theorem d_law_426 : decode code 426 = .ok (.iload 4, 2) := by decide +kernel
theorem d_law_428 : decode code 428 = .ok (.iconst 1, 1) := by decide +kernel
theorem d_law_429 : decode code 429 = .ok (.iadd, 1) := by decide +kernel
theorem d_law_430 : decode code 430 = .ok (.iaload, 1) := by decide +kernel
theorem d_law_431 : decode code 431 = .ok (.aload_n 0, 1) := by decide +kernel
theorem d_law_432 : decode code 432 = .ok (.iload 4, 2) := by decide +kernel
theorem d_law_434 : decode code 434 = .ok (.iconst 2, 1) := by decide +kernel
theorem d_law_435 : decode code 435 = .ok (.iadd, 1) := by decide +kernel
theorem d_law_436 : decode code 436 = .ok (.iaload, 1) := by decide +kernel
theorem d_law_437 : decode code 437 = .ok (.i2l, 1) := by decide +kernel
theorem d_law_438 : decode code 438 = .ok (.bipush 32, 2) := by decide +kernel
theorem d_law_440 : decode code 440 = .ok (.lshl, 1) := by decide +kernel
theorem d_law_441 : decode code 441 = .ok (.aload_n 0, 1) := by decide +kernel
theorem d_law_442 : decode code 442 = .ok (.iload 4, 2) := by decide +kernel
theorem d_law_444 : decode code 444 = .ok (.iconst 3, 1) := by decide +kernel
theorem d_law_445 : decode code 445 = .ok (.iadd, 1) := by decide +kernel
theorem d_law_446 : decode code 446 = .ok (.iaload, 1) := by decide +kernel
theorem d_law_447 : decode code 447 = .ok (.i2l, 1) := by decide +kernel
theorem d_law_448 : decode code 448 = .ok (.ldc2_w 19, 3) := by decide +kernel
theorem d_law_451 : decode code 451 = .ok (.land, 1) := by decide +kernel
theorem d_law_452 : decode code 452 = .ok (.lor, 1) := by decide +kernel
theorem d_law_453 : decode code 453 = .ok (.invokevirtual 45, 3) := by decide +kernel
theorem d_law_456 : decode code 456 = .ok (.if_icmp .eq 461, 3) := by decide +kernel
theorem d_law_459 : decode code 459 = .ok (.iconst 0, 1) := by decide +kernel
theorem d_law_460 : decode code 460 = .ok (.ireturn, 1) := by decide +kernel
theorem d_law_461 : decode code 461 = .ok (.aload_n 1, 1) := by decide +kernel
theorem d_law_462 : decode code 462 = .ok (.aload_n 0, 1) := by decide +kernel
theorem d_law_463 : decode code 463 = .ok (.iload 4, 2) := by decide +kernel
theorem d_law_465 : decode code 465 = .ok (.iconst 1, 1) := by decide +kernel
theorem d_law_466 : decode code 466 = .ok (.iadd, 1) := by decide +kernel
theorem d_law_467 : decode code 467 = .ok (.iaload, 1) := by decide +kernel
theorem d_law_468 : decode code 468 = .ok (.i2l, 1) := by decide +kernel
theorem d_law_469 : decode code 469 = .ok (.bipush 32, 2) := by decide +kernel
theorem d_law_471 : decode code 471 = .ok (.lshl, 1) := by decide +kernel
theorem d_law_472 : decode code 472 = .ok (.aload_n 0, 1) := by decide +kernel
theorem d_law_473 : decode code 473 = .ok (.iload 4, 2) := by decide +kernel
theorem d_law_475 : decode code 475 = .ok (.iconst 2, 1) := by decide +kernel
theorem d_law_476 : decode code 476 = .ok (.iadd, 1) := by decide +kernel
theorem d_law_477 : decode code 477 = .ok (.iaload, 1) := by decide +kernel
theorem d_law_478 : decode code 478 = .ok (.i2l, 1) := by decide +kernel
theorem d_law_479 : decode code 479 = .ok (.ldc2_w 19, 3) := by decide +kernel
theorem d_law_482 : decode code 482 = .ok (.land, 1) := by decide +kernel
theorem d_law_483 : decode code 483 = .ok (.lor, 1) := by decide +kernel
theorem d_law_484 : decode code 484 = .ok (.invokevirtual 46, 3) := by decide +kernel
theorem d_law_487 : decode code 487 = .ok (.aload_n 2, 1) := by decide +kernel
theorem d_law_488 : decode code 488 = .ok (.aload_n 0, 1) := by decide +kernel
theorem d_law_489 : decode code 489 = .ok (.iload 4, 2) := by decide +kernel
theorem d_law_491 : decode code 491 = .ok (.iconst 1, 1) := by decide +kernel
theorem d_law_492 : decode code 492 = .ok (.iadd, 1) := by decide +kernel
theorem d_law_493 : decode code 493 = .ok (.iaload, 1) := by decide +kernel
theorem d_law_494 : decode code 494 = .ok (.i2l, 1) := by decide +kernel
theorem d_law_495 : decode code 495 = .ok (.bipush 32, 2) := by decide +kernel
theorem d_law_497 : decode code 497 = .ok (.lshl, 1) := by decide +kernel
theorem d_law_498 : decode code 498 = .ok (.aload_n 0, 1) := by decide +kernel
theorem d_law_499 : decode code 499 = .ok (.iload 4, 2) := by decide +kernel
theorem d_law_501 : decode code 501 = .ok (.iconst 2, 1) := by decide +kernel
theorem d_law_502 : decode code 502 = .ok (.iadd, 1) := by decide +kernel
theorem d_law_503 : decode code 503 = .ok (.iaload, 1) := by decide +kernel
theorem d_law_504 : decode code 504 = .ok (.i2l, 1) := by decide +kernel
theorem d_law_505 : decode code 505 = .ok (.ldc2_w 19, 3) := by decide +kernel
theorem d_law_508 : decode code 508 = .ok (.land, 1) := by decide +kernel
theorem d_law_509 : decode code 509 = .ok (.lor, 1) := by decide +kernel
theorem d_law_510 : decode code 510 = .ok (.invokevirtual 50, 3) := by decide +kernel
theorem d_law_513 : decode code 513 = .ok (.if_icmp .eq 404, 3) := by decide +kernel
theorem d_law_516 : decode code 516 = .ok (.iconst 0, 1) := by decide +kernel
theorem d_law_517 : decode code 517 = .ok (.ireturn, 1) := by decide +kernel
theorem d_law_518 : decode code 518 = .ok (.aload_n 1, 1) := by decide +kernel
theorem d_law_519 : decode code 519 = .ok (.aload_n 0, 1) := by decide +kernel
theorem d_law_520 : decode code 520 = .ok (.iload 4, 2) := by decide +kernel
theorem d_law_522 : decode code 522 = .ok (.iconst 1, 1) := by decide +kernel
theorem d_law_523 : decode code 523 = .ok (.iadd, 1) := by decide +kernel
theorem d_law_524 : decode code 524 = .ok (.iaload, 1) := by decide +kernel
theorem d_law_525 : decode code 525 = .ok (.i2l, 1) := by decide +kernel
theorem d_law_526 : decode code 526 = .ok (.bipush 32, 2) := by decide +kernel
theorem d_law_528 : decode code 528 = .ok (.lshl, 1) := by decide +kernel
theorem d_law_529 : decode code 529 = .ok (.aload_n 0, 1) := by decide +kernel
theorem d_law_530 : decode code 530 = .ok (.iload 4, 2) := by decide +kernel
theorem d_law_532 : decode code 532 = .ok (.iconst 2, 1) := by decide +kernel
theorem d_law_533 : decode code 533 = .ok (.iadd, 1) := by decide +kernel
theorem d_law_534 : decode code 534 = .ok (.iaload, 1) := by decide +kernel
theorem d_law_535 : decode code 535 = .ok (.i2l, 1) := by decide +kernel
theorem d_law_536 : decode code 536 = .ok (.ldc2_w 19, 3) := by decide +kernel
theorem d_law_539 : decode code 539 = .ok (.land, 1) := by decide +kernel
theorem d_law_540 : decode code 540 = .ok (.lor, 1) := by decide +kernel
theorem d_law_541 : decode code 541 = .ok (.invokevirtual 51, 3) := by decide +kernel
theorem d_law_544 : decode code 544 = .ok (.aload_n 2, 1) := by decide +kernel
theorem d_law_545 : decode code 545 = .ok (.aload_n 0, 1) := by decide +kernel
theorem d_law_546 : decode code 546 = .ok (.iload 4, 2) := by decide +kernel
theorem d_law_548 : decode code 548 = .ok (.iconst 1, 1) := by decide +kernel
theorem d_law_549 : decode code 549 = .ok (.iadd, 1) := by decide +kernel
theorem d_law_550 : decode code 550 = .ok (.iaload, 1) := by decide +kernel
theorem d_law_551 : decode code 551 = .ok (.i2l, 1) := by decide +kernel
theorem d_law_552 : decode code 552 = .ok (.bipush 32, 2) := by decide +kernel
theorem d_law_554 : decode code 554 = .ok (.lshl, 1) := by decide +kernel
theorem d_law_555 : decode code 555 = .ok (.aload_n 0, 1) := by decide +kernel
theorem d_law_556 : decode code 556 = .ok (.iload 4, 2) := by decide +kernel
theorem d_law_558 : decode code 558 = .ok (.iconst 2, 1) := by decide +kernel
theorem d_law_559 : decode code 559 = .ok (.iadd, 1) := by decide +kernel
theorem d_law_560 : decode code 560 = .ok (.iaload, 1) := by decide +kernel
theorem d_law_561 : decode code 561 = .ok (.i2l, 1) := by decide +kernel
theorem d_law_562 : decode code 562 = .ok (.ldc2_w 19, 3) := by decide +kernel
theorem d_law_565 : decode code 565 = .ok (.land, 1) := by decide +kernel
theorem d_law_566 : decode code 566 = .ok (.lor, 1) := by decide +kernel
theorem d_law_567 : decode code 567 = .ok (.invokevirtual 54, 3) := by decide +kernel
theorem d_law_570 : decode code 570 = .ok (.if_icmp .eq 347, 3) := by decide +kernel
theorem d_law_573 : decode code 573 = .ok (.iconst 0, 1) := by decide +kernel
theorem d_law_574 : decode code 574 = .ok (.ireturn, 1) := by decide +kernel
theorem d_law_575 : decode code 575 = .ok (.aload_n 1, 1) := by decide +kernel
theorem d_law_576 : decode code 576 = .ok (.aload_n 0, 1) := by decide +kernel
theorem d_law_577 : decode code 577 = .ok (.iload 4, 2) := by decide +kernel
theorem d_law_579 : decode code 579 = .ok (.iconst 1, 1) := by decide +kernel
theorem d_law_580 : decode code 580 = .ok (.iadd, 1) := by decide +kernel
theorem d_law_581 : decode code 581 = .ok (.iaload, 1) := by decide +kernel
theorem d_law_582 : decode code 582 = .ok (.aload_n 0, 1) := by decide +kernel
theorem d_law_583 : decode code 583 = .ok (.iload 4, 2) := by decide +kernel
theorem d_law_585 : decode code 585 = .ok (.iconst 2, 1) := by decide +kernel
theorem d_law_586 : decode code 586 = .ok (.iadd, 1) := by decide +kernel
theorem d_law_587 : decode code 587 = .ok (.iaload, 1) := by decide +kernel
theorem d_law_588 : decode code 588 = .ok (.invokevirtual 55, 3) := by decide +kernel
theorem d_law_591 : decode code 591 = .ok (.aload_n 2, 1) := by decide +kernel
theorem d_law_592 : decode code 592 = .ok (.aload_n 0, 1) := by decide +kernel
theorem d_law_593 : decode code 593 = .ok (.iload 4, 2) := by decide +kernel
theorem d_law_595 : decode code 595 = .ok (.iconst 1, 1) := by decide +kernel
theorem d_law_596 : decode code 596 = .ok (.iadd, 1) := by decide +kernel
theorem d_law_597 : decode code 597 = .ok (.iaload, 1) := by decide +kernel
theorem d_law_598 : decode code 598 = .ok (.aload_n 0, 1) := by decide +kernel
theorem d_law_599 : decode code 599 = .ok (.iload 4, 2) := by decide +kernel
theorem d_law_601 : decode code 601 = .ok (.iconst 2, 1) := by decide +kernel
theorem d_law_602 : decode code 602 = .ok (.iadd, 1) := by decide +kernel
theorem d_law_603 : decode code 603 = .ok (.iaload, 1) := by decide +kernel
theorem d_law_604 : decode code 604 = .ok (.invokevirtual 59, 3) := by decide +kernel
theorem d_law_607 : decode code 607 = .ok (.if_icmp .eq 310, 3) := by decide +kernel
theorem d_law_610 : decode code 610 = .ok (.iconst 0, 1) := by decide +kernel
theorem d_law_611 : decode code 611 = .ok (.ireturn, 1) := by decide +kernel
theorem d_law_612 : decode code 612 = .ok (.aload_n 1, 1) := by decide +kernel
theorem d_law_613 : decode code 613 = .ok (.aload_n 0, 1) := by decide +kernel
theorem d_law_614 : decode code 614 = .ok (.iload 4, 2) := by decide +kernel
theorem d_law_616 : decode code 616 = .ok (.iconst 1, 1) := by decide +kernel
theorem d_law_617 : decode code 617 = .ok (.iadd, 1) := by decide +kernel
theorem d_law_618 : decode code 618 = .ok (.iaload, 1) := by decide +kernel
theorem d_law_619 : decode code 619 = .ok (.invokevirtual 60, 3) := by decide +kernel
theorem d_law_622 : decode code 622 = .ok (.aload_n 2, 1) := by decide +kernel
theorem d_law_623 : decode code 623 = .ok (.aload_n 0, 1) := by decide +kernel
theorem d_law_624 : decode code 624 = .ok (.iload 4, 2) := by decide +kernel
theorem d_law_626 : decode code 626 = .ok (.iconst 1, 1) := by decide +kernel
theorem d_law_627 : decode code 627 = .ok (.iadd, 1) := by decide +kernel
theorem d_law_628 : decode code 628 = .ok (.iaload, 1) := by decide +kernel
theorem d_law_629 : decode code 629 = .ok (.invokevirtual 64, 3) := by decide +kernel
theorem d_law_632 : decode code 632 = .ok (.if_icmp .eq 285, 3) := by decide +kernel
theorem d_law_635 : decode code 635 = .ok (.iconst 0, 1) := by decide +kernel
theorem d_law_636 : decode code 636 = .ok (.ireturn, 1) := by decide +kernel
theorem d_law_637 : decode code 637 = .ok (.aload_n 1, 1) := by decide +kernel
theorem d_law_638 : decode code 638 = .ok (.aload_n 0, 1) := by decide +kernel
theorem d_law_639 : decode code 639 = .ok (.iload 4, 2) := by decide +kernel
theorem d_law_641 : decode code 641 = .ok (.iconst 1, 1) := by decide +kernel
theorem d_law_642 : decode code 642 = .ok (.iadd, 1) := by decide +kernel
theorem d_law_643 : decode code 643 = .ok (.iaload, 1) := by decide +kernel
theorem d_law_644 : decode code 644 = .ok (.i2l, 1) := by decide +kernel
theorem d_law_645 : decode code 645 = .ok (.bipush 32, 2) := by decide +kernel
theorem d_law_647 : decode code 647 = .ok (.lshl, 1) := by decide +kernel
theorem d_law_648 : decode code 648 = .ok (.aload_n 0, 1) := by decide +kernel
theorem d_law_649 : decode code 649 = .ok (.iload 4, 2) := by decide +kernel
theorem d_law_651 : decode code 651 = .ok (.iconst 2, 1) := by decide +kernel
theorem d_law_652 : decode code 652 = .ok (.iadd, 1) := by decide +kernel
theorem d_law_653 : decode code 653 = .ok (.iaload, 1) := by decide +kernel
theorem d_law_654 : decode code 654 = .ok (.i2l, 1) := by decide +kernel
theorem d_law_655 : decode code 655 = .ok (.ldc2_w 19, 3) := by decide +kernel
theorem d_law_658 : decode code 658 = .ok (.land, 1) := by decide +kernel
theorem d_law_659 : decode code 659 = .ok (.lor, 1) := by decide +kernel
theorem d_law_660 : decode code 660 = .ok (.aload_n 3, 1) := by decide +kernel
theorem d_law_661 : decode code 661 = .ok (.invokestatic 65, 3) := by decide +kernel
theorem d_law_664 : decode code 664 = .ok (.istore 5, 2) := by decide +kernel
theorem d_law_666 : decode code 666 = .ok (.aload_n 2, 1) := by decide +kernel
theorem d_law_667 : decode code 667 = .ok (.aload_n 0, 1) := by decide +kernel
theorem d_law_668 : decode code 668 = .ok (.iload 4, 2) := by decide +kernel
theorem d_law_670 : decode code 670 = .ok (.iconst 1, 1) := by decide +kernel
theorem d_law_671 : decode code 671 = .ok (.iadd, 1) := by decide +kernel
theorem d_law_672 : decode code 672 = .ok (.iaload, 1) := by decide +kernel
theorem d_law_673 : decode code 673 = .ok (.i2l, 1) := by decide +kernel
theorem d_law_674 : decode code 674 = .ok (.bipush 32, 2) := by decide +kernel
theorem d_law_676 : decode code 676 = .ok (.lshl, 1) := by decide +kernel
theorem d_law_677 : decode code 677 = .ok (.aload_n 0, 1) := by decide +kernel
theorem d_law_678 : decode code 678 = .ok (.iload 4, 2) := by decide +kernel
theorem d_law_680 : decode code 680 = .ok (.iconst 2, 1) := by decide +kernel
theorem d_law_681 : decode code 681 = .ok (.iadd, 1) := by decide +kernel
theorem d_law_682 : decode code 682 = .ok (.iaload, 1) := by decide +kernel
theorem d_law_683 : decode code 683 = .ok (.i2l, 1) := by decide +kernel
theorem d_law_684 : decode code 684 = .ok (.ldc2_w 19, 3) := by decide +kernel
theorem d_law_687 : decode code 687 = .ok (.land, 1) := by decide +kernel
theorem d_law_688 : decode code 688 = .ok (.lor, 1) := by decide +kernel
theorem d_law_689 : decode code 689 = .ok (.invokevirtual 70, 3) := by decide +kernel
theorem d_law_692 : decode code 692 = .ok (.lstore 6, 2) := by decide +kernel
theorem d_law_694 : decode code 694 = .ok (.aload_n 2, 1) := by decide +kernel
theorem d_law_695 : decode code 695 = .ok (.invokevirtual 71, 3) := by decide +kernel
theorem d_law_698 : decode code 698 = .ok (.iload 5, 2) := by decide +kernel
theorem d_law_700 : decode code 700 = .ok (.if_icmp .eq 5, 3) := by decide +kernel
theorem d_law_703 : decode code 703 = .ok (.iconst 0, 1) := by decide +kernel
theorem d_law_704 : decode code 704 = .ok (.ireturn, 1) := by decide +kernel
theorem d_law_705 : decode code 705 = .ok (.iload 5, 2) := by decide +kernel
theorem d_law_707 : decode code 707 = .ok (.ifCond .ne 14, 3) := by decide +kernel
theorem d_law_710 : decode code 710 = .ok (.aload_n 3, 1) := by decide +kernel
theorem d_law_711 : decode code 711 = .ok (.iconst 0, 1) := by decide +kernel
theorem d_law_712 : decode code 712 = .ok (.laload, 1) := by decide +kernel
theorem d_law_713 : decode code 713 = .ok (.lload 6, 2) := by decide +kernel
theorem d_law_715 : decode code 715 = .ok (.lcmp, 1) := by decide +kernel
theorem d_law_716 : decode code 716 = .ok (.ifCond .eq 5, 3) := by decide +kernel
theorem d_law_719 : decode code 719 = .ok (.iconst 0, 1) := by decide +kernel
theorem d_law_720 : decode code 720 = .ok (.ireturn, 1) := by decide +kernel
theorem d_law_721 : decode code 721 = .ok (.goto 196, 3) := by decide +kernel
theorem d_law_724 : decode code 724 = .ok (.aload_n 1, 1) := by decide +kernel
theorem d_law_725 : decode code 725 = .ok (.aload_n 0, 1) := by decide +kernel
theorem d_law_726 : decode code 726 = .ok (.iload 4, 2) := by decide +kernel
theorem d_law_728 : decode code 728 = .ok (.iconst 1, 1) := by decide +kernel
theorem d_law_729 : decode code 729 = .ok (.iadd, 1) := by decide +kernel
theorem d_law_730 : decode code 730 = .ok (.iaload, 1) := by decide +kernel
theorem d_law_731 : decode code 731 = .ok (.i2l, 1) := by decide +kernel
theorem d_law_732 : decode code 732 = .ok (.bipush 32, 2) := by decide +kernel
theorem d_law_734 : decode code 734 = .ok (.lshl, 1) := by decide +kernel
theorem d_law_735 : decode code 735 = .ok (.aload_n 0, 1) := by decide +kernel
theorem d_law_736 : decode code 736 = .ok (.iload 4, 2) := by decide +kernel
theorem d_law_738 : decode code 738 = .ok (.iconst 2, 1) := by decide +kernel
theorem d_law_739 : decode code 739 = .ok (.iadd, 1) := by decide +kernel
theorem d_law_740 : decode code 740 = .ok (.iaload, 1) := by decide +kernel
theorem d_law_741 : decode code 741 = .ok (.i2l, 1) := by decide +kernel
theorem d_law_742 : decode code 742 = .ok (.ldc2_w 19, 3) := by decide +kernel
theorem d_law_745 : decode code 745 = .ok (.land, 1) := by decide +kernel
theorem d_law_746 : decode code 746 = .ok (.lor, 1) := by decide +kernel
theorem d_law_747 : decode code 747 = .ok (.invokevirtual 75, 3) := by decide +kernel
theorem d_law_750 : decode code 750 = .ok (.aload_n 2, 1) := by decide +kernel
theorem d_law_751 : decode code 751 = .ok (.aload_n 0, 1) := by decide +kernel
theorem d_law_752 : decode code 752 = .ok (.iload 4, 2) := by decide +kernel
theorem d_law_754 : decode code 754 = .ok (.iconst 1, 1) := by decide +kernel
theorem d_law_755 : decode code 755 = .ok (.iadd, 1) := by decide +kernel
theorem d_law_756 : decode code 756 = .ok (.iaload, 1) := by decide +kernel
theorem d_law_757 : decode code 757 = .ok (.i2l, 1) := by decide +kernel
theorem d_law_758 : decode code 758 = .ok (.bipush 32, 2) := by decide +kernel
theorem d_law_760 : decode code 760 = .ok (.lshl, 1) := by decide +kernel
theorem d_law_761 : decode code 761 = .ok (.aload_n 0, 1) := by decide +kernel
theorem d_law_762 : decode code 762 = .ok (.iload 4, 2) := by decide +kernel
theorem d_law_764 : decode code 764 = .ok (.iconst 2, 1) := by decide +kernel
theorem d_law_765 : decode code 765 = .ok (.iadd, 1) := by decide +kernel
theorem d_law_766 : decode code 766 = .ok (.iaload, 1) := by decide +kernel
theorem d_law_767 : decode code 767 = .ok (.i2l, 1) := by decide +kernel
theorem d_law_768 : decode code 768 = .ok (.ldc2_w 19, 3) := by decide +kernel
theorem d_law_771 : decode code 771 = .ok (.land, 1) := by decide +kernel
theorem d_law_772 : decode code 772 = .ok (.lor, 1) := by decide +kernel
theorem d_law_773 : decode code 773 = .ok (.invokevirtual 78, 3) := by decide +kernel
theorem d_law_776 : decode code 776 = .ok (.if_icmp .eq 141, 3) := by decide +kernel
theorem d_law_779 : decode code 779 = .ok (.iconst 0, 1) := by decide +kernel
theorem d_law_780 : decode code 780 = .ok (.ireturn, 1) := by decide +kernel
theorem d_law_781 : decode code 781 = .ok (.aload_n 1, 1) := by decide +kernel
theorem d_law_782 : decode code 782 = .ok (.aload_n 0, 1) := by decide +kernel
theorem d_law_783 : decode code 783 = .ok (.iload 4, 2) := by decide +kernel
theorem d_law_785 : decode code 785 = .ok (.iconst 1, 1) := by decide +kernel
theorem d_law_786 : decode code 786 = .ok (.iadd, 1) := by decide +kernel
theorem d_law_787 : decode code 787 = .ok (.iaload, 1) := by decide +kernel
theorem d_law_788 : decode code 788 = .ok (.invokevirtual 79, 3) := by decide +kernel
theorem d_law_791 : decode code 791 = .ok (.aload_n 2, 1) := by decide +kernel
theorem d_law_792 : decode code 792 = .ok (.aload_n 0, 1) := by decide +kernel
theorem d_law_793 : decode code 793 = .ok (.iload 4, 2) := by decide +kernel
theorem d_law_795 : decode code 795 = .ok (.iconst 1, 1) := by decide +kernel
theorem d_law_796 : decode code 796 = .ok (.iadd, 1) := by decide +kernel
theorem d_law_797 : decode code 797 = .ok (.iaload, 1) := by decide +kernel
theorem d_law_798 : decode code 798 = .ok (.invokevirtual 82, 3) := by decide +kernel
theorem d_law_801 : decode code 801 = .ok (.lcmp, 1) := by decide +kernel
theorem d_law_802 : decode code 802 = .ok (.ifCond .eq 115, 3) := by decide +kernel
theorem d_law_805 : decode code 805 = .ok (.iconst 0, 1) := by decide +kernel
theorem d_law_806 : decode code 806 = .ok (.ireturn, 1) := by decide +kernel
theorem d_law_807 : decode code 807 = .ok (.aload_n 1, 1) := by decide +kernel
theorem d_law_808 : decode code 808 = .ok (.aload_n 0, 1) := by decide +kernel
theorem d_law_809 : decode code 809 = .ok (.iload 4, 2) := by decide +kernel
theorem d_law_811 : decode code 811 = .ok (.iconst 1, 1) := by decide +kernel
theorem d_law_812 : decode code 812 = .ok (.iadd, 1) := by decide +kernel
theorem d_law_813 : decode code 813 = .ok (.iaload, 1) := by decide +kernel
theorem d_law_814 : decode code 814 = .ok (.i2l, 1) := by decide +kernel
theorem d_law_815 : decode code 815 = .ok (.bipush 32, 2) := by decide +kernel
theorem d_law_817 : decode code 817 = .ok (.lshl, 1) := by decide +kernel
theorem d_law_818 : decode code 818 = .ok (.aload_n 0, 1) := by decide +kernel
theorem d_law_819 : decode code 819 = .ok (.iload 4, 2) := by decide +kernel
theorem d_law_821 : decode code 821 = .ok (.iconst 2, 1) := by decide +kernel
theorem d_law_822 : decode code 822 = .ok (.iadd, 1) := by decide +kernel
theorem d_law_823 : decode code 823 = .ok (.iaload, 1) := by decide +kernel
theorem d_law_824 : decode code 824 = .ok (.i2l, 1) := by decide +kernel
theorem d_law_825 : decode code 825 = .ok (.ldc2_w 19, 3) := by decide +kernel
theorem d_law_828 : decode code 828 = .ok (.land, 1) := by decide +kernel
theorem d_law_829 : decode code 829 = .ok (.lor, 1) := by decide +kernel
theorem d_law_830 : decode code 830 = .ok (.aload_n 0, 1) := by decide +kernel
theorem d_law_831 : decode code 831 = .ok (.iload 4, 2) := by decide +kernel
theorem d_law_833 : decode code 833 = .ok (.iconst 3, 1) := by decide +kernel
theorem d_law_834 : decode code 834 = .ok (.iadd, 1) := by decide +kernel
theorem d_law_835 : decode code 835 = .ok (.iaload, 1) := by decide +kernel
theorem d_law_836 : decode code 836 = .ok (.invokevirtual 83, 3) := by decide +kernel
theorem d_law_839 : decode code 839 = .ok (.aload_n 2, 1) := by decide +kernel
theorem d_law_840 : decode code 840 = .ok (.aload_n 0, 1) := by decide +kernel
theorem d_law_841 : decode code 841 = .ok (.iload 4, 2) := by decide +kernel
theorem d_law_843 : decode code 843 = .ok (.iconst 1, 1) := by decide +kernel
theorem d_law_844 : decode code 844 = .ok (.iadd, 1) := by decide +kernel
theorem d_law_845 : decode code 845 = .ok (.iaload, 1) := by decide +kernel
theorem d_law_846 : decode code 846 = .ok (.i2l, 1) := by decide +kernel
theorem d_law_847 : decode code 847 = .ok (.bipush 32, 2) := by decide +kernel
theorem d_law_849 : decode code 849 = .ok (.lshl, 1) := by decide +kernel
theorem d_law_850 : decode code 850 = .ok (.aload_n 0, 1) := by decide +kernel
theorem d_law_851 : decode code 851 = .ok (.iload 4, 2) := by decide +kernel
theorem d_law_853 : decode code 853 = .ok (.iconst 2, 1) := by decide +kernel
theorem d_law_854 : decode code 854 = .ok (.iadd, 1) := by decide +kernel
theorem d_law_855 : decode code 855 = .ok (.iaload, 1) := by decide +kernel
theorem d_law_856 : decode code 856 = .ok (.i2l, 1) := by decide +kernel
theorem d_law_857 : decode code 857 = .ok (.ldc2_w 19, 3) := by decide +kernel
theorem d_law_860 : decode code 860 = .ok (.land, 1) := by decide +kernel
theorem d_law_861 : decode code 861 = .ok (.lor, 1) := by decide +kernel
theorem d_law_862 : decode code 862 = .ok (.aload_n 0, 1) := by decide +kernel
theorem d_law_863 : decode code 863 = .ok (.iload 4, 2) := by decide +kernel
theorem d_law_865 : decode code 865 = .ok (.iconst 3, 1) := by decide +kernel
theorem d_law_866 : decode code 866 = .ok (.iadd, 1) := by decide +kernel
theorem d_law_867 : decode code 867 = .ok (.iaload, 1) := by decide +kernel
theorem d_law_868 : decode code 868 = .ok (.invokevirtual 87, 3) := by decide +kernel
theorem d_law_871 : decode code 871 = .ok (.if_icmp .eq 46, 3) := by decide +kernel
theorem d_law_874 : decode code 874 = .ok (.iconst 0, 1) := by decide +kernel
theorem d_law_875 : decode code 875 = .ok (.ireturn, 1) := by decide +kernel
theorem d_law_876 : decode code 876 = .ok (.aload_n 1, 1) := by decide +kernel
theorem d_law_877 : decode code 877 = .ok (.aload_n 0, 1) := by decide +kernel
theorem d_law_878 : decode code 878 = .ok (.iload 4, 2) := by decide +kernel
theorem d_law_880 : decode code 880 = .ok (.iconst 1, 1) := by decide +kernel
theorem d_law_881 : decode code 881 = .ok (.iadd, 1) := by decide +kernel
theorem d_law_882 : decode code 882 = .ok (.iaload, 1) := by decide +kernel
theorem d_law_883 : decode code 883 = .ok (.ifCond .eq 7, 3) := by decide +kernel
theorem d_law_886 : decode code 886 = .ok (.iconst 1, 1) := by decide +kernel
theorem d_law_887 : decode code 887 = .ok (.goto 4, 3) := by decide +kernel
theorem d_law_890 : decode code 890 = .ok (.iconst 0, 1) := by decide +kernel
theorem d_law_891 : decode code 891 = .ok (.invokevirtual 88, 3) := by decide +kernel
theorem d_law_894 : decode code 894 = .ok (.aload_n 2, 1) := by decide +kernel
theorem d_law_895 : decode code 895 = .ok (.aload_n 0, 1) := by decide +kernel
theorem d_law_896 : decode code 896 = .ok (.iload 4, 2) := by decide +kernel
theorem d_law_898 : decode code 898 = .ok (.iconst 1, 1) := by decide +kernel
theorem d_law_899 : decode code 899 = .ok (.iadd, 1) := by decide +kernel
theorem d_law_900 : decode code 900 = .ok (.iaload, 1) := by decide +kernel
theorem d_law_901 : decode code 901 = .ok (.ifCond .eq 7, 3) := by decide +kernel
theorem d_law_904 : decode code 904 = .ok (.iconst 1, 1) := by decide +kernel
theorem d_law_905 : decode code 905 = .ok (.goto 4, 3) := by decide +kernel
theorem d_law_908 : decode code 908 = .ok (.iconst 0, 1) := by decide +kernel
theorem d_law_909 : decode code 909 = .ok (.invokevirtual 92, 3) := by decide +kernel
theorem d_law_912 : decode code 912 = .ok (.if_icmp .eq 5, 3) := by decide +kernel
theorem d_law_915 : decode code 915 = .ok (.iconst 0, 1) := by decide +kernel
theorem d_law_916 : decode code 916 = .ok (.ireturn, 1) := by decide +kernel
theorem d_law_917 : decode code 917 = .ok (.iinc 4 7, 3) := by decide +kernel
theorem d_law_920 : decode code 920 = .ok (.goto (-897), 3) := by decide +kernel
theorem d_law_923 : decode code 923 = .ok (.iconst 1, 1) := by decide +kernel
theorem d_law_924 : decode code 924 = .ok (.ireturn, 1) := by decide +kernel
