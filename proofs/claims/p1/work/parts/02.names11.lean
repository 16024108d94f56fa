theorem dX12_init_126 : decode cX12_init 126 = .ok (.newarray .int, 2) := by decide +kernel
theorem dX12_init_128 : decode cX12_init 128 = .ok (.putfield 53, 3) := by decide +kernel
theorem dX12_init_131 : decode cX12_init 131 = .ok (.aload_n 0, 1) := by decide +kernel
theorem dX12_init_132 : decode cX12_init 132 = .ok (.bipush 30, 2) := by decide +kernel
theorem dX12_init_134 : decode cX12_init 134 = .ok (.newarray .boolean, 2) := by decide +kernel
theorem dX12_init_136 : decode cX12_init 136 = .ok (.putfield 56, 3) := by decide +kernel
theorem dX12_init_139 : decode cX12_init 139 = .ok (.aload_n 0, 1) := by decide +kernel
theorem dX12_init_140 : decode cX12_init 140 = .ok (.bipush 30, 2) := by decide +kernel
theorem dX12_init_142 : decode cX12_init 142 = .ok (.newarray .boolean, 2) := by decide +kernel
theorem dX12_init_144 : decode cX12_init 144 = .ok (.putfield 59, 3) := by decide +kernel
theorem dX12_init_147 : decode cX12_init 147 = .ok (.aload_n 0, 1) := by decide +kernel
theorem dX12_init_148 : decode cX12_init 148 = .ok (.sipush 300, 3) := by decide +kernel
theorem dX12_init_151 : decode cX12_init 151 = .ok (.newarray .int, 2) := by decide +kernel
theorem dX12_init_153 : decode cX12_init 153 = .ok (.putfield 62, 3) := by decide +kernel
theorem dX12_init_156 : decode cX12_init 156 = .ok (.aload_n 0, 1) := by decide +kernel
theorem dX12_init_157 : decode cX12_init 157 = .ok (.sipush 3000, 3) := by decide +kernel
theorem dX12_init_160 : decode cX12_init 160 = .ok (.newarray .int, 2) := by decide +kernel
theorem dX12_init_162 : decode cX12_init 162 = .ok (.putfield 65, 3) := by decide +kernel
theorem dX12_init_165 : decode cX12_init 165 = .ok (.aload_n 0, 1) := by decide +kernel
theorem dX12_init_166 : decode cX12_init 166 = .ok (.sipush 3000, 3) := by decide +kernel
theorem dX12_init_169 : decode cX12_init 169 = .ok (.newarray .int, 2) := by decide +kernel
theorem dX12_init_171 : decode cX12_init 171 = .ok (.putfield 68, 3) := by decide +kernel
theorem dX12_init_174 : decode cX12_init 174 = .ok (.aload_n 0, 1) := by decide +kernel
theorem dX12_init_175 : decode cX12_init 175 = .ok (.sipush 3000, 3) := by decide +kernel
theorem dX12_init_178 : decode cX12_init 178 = .ok (.newarray .boolean, 2) := by decide +kernel
theorem dX12_init_180 : decode cX12_init 180 = .ok (.putfield 71, 3) := by decide +kernel
theorem dX12_init_183 : decode cX12_init 183 = .ok (.aload_n 0, 1) := by decide +kernel
theorem dX12_init_184 : decode cX12_init 184 = .ok (.sipush 3000, 3) := by decide +kernel
theorem dX12_init_187 : decode cX12_init 187 = .ok (.newarray .boolean, 2) := by decide +kernel
theorem dX12_init_189 : decode cX12_init 189 = .ok (.putfield 74, 3) := by decide +kernel
theorem dX12_init_192 : decode cX12_init 192 = .ok (.aload_n 0, 1) := by decide +kernel
theorem dX12_init_193 : decode cX12_init 193 = .ok (.bipush 100, 2) := by decide +kernel
theorem dX12_init_195 : decode cX12_init 195 = .ok (.newarray .int, 2) := by decide +kernel
theorem dX12_init_197 : decode cX12_init 197 = .ok (.putfield 77, 3) := by decide +kernel
theorem dX12_init_200 : decode cX12_init 200 = .ok (.aload_n 0, 1) := by decide +kernel
theorem dX12_init_201 : decode cX12_init 201 = .ok (.bipush 30, 2) := by decide +kernel
theorem dX12_init_203 : decode cX12_init 203 = .ok (.newarray .int, 2) := by decide +kernel
theorem dX12_init_205 : decode cX12_init 205 = .ok (.putfield 80, 3) := by decide +kernel
theorem dX12_init_208 : decode cX12_init 208 = .ok (.aload_n 0, 1) := by decide +kernel
theorem dX12_init_209 : decode cX12_init 209 = .ok (.bipush 30, 2) := by decide +kernel
theorem dX12_init_211 : decode cX12_init 211 = .ok (.newarray .int, 2) := by decide +kernel
theorem dX12_init_213 : decode cX12_init 213 = .ok (.putfield 83, 3) := by decide +kernel
theorem dX12_init_216 : decode cX12_init 216 = .ok (.aload_n 0, 1) := by decide +kernel
theorem dX12_init_217 : decode cX12_init 217 = .ok (.bipush 30, 2) := by decide +kernel
theorem dX12_init_219 : decode cX12_init 219 = .ok (.newarray .boolean, 2) := by decide +kernel
theorem dX12_init_221 : decode cX12_init 221 = .ok (.putfield 86, 3) := by decide +kernel
theorem dX12_init_224 : decode cX12_init 224 = .ok (.aload_n 0, 1) := by decide +kernel
theorem dX12_init_225 : decode cX12_init 225 = .ok (.bipush 30, 2) := by decide +kernel
theorem dX12_init_227 : decode cX12_init 227 = .ok (.newarray .boolean, 2) := by decide +kernel
theorem dX12_init_229 : decode cX12_init 229 = .ok (.putfield 89, 3) := by decide +kernel
theorem dX12_init_232 : decode cX12_init 232 = .ok (.aload_n 0, 1) := by decide +kernel
theorem dX12_init_233 : decode cX12_init 233 = .ok (.bipush 30, 2) := by decide +kernel
theorem dX12_init_235 : decode cX12_init 235 = .ok (.newarray .boolean, 2) := by decide +kernel
theorem dX12_init_237 : decode cX12_init 237 = .ok (.putfield 92, 3) := by decide +kernel
theorem dX12_init_240 : decode cX12_init 240 = .ok (.aload_n 0, 1) := by decide +kernel
theorem dX12_init_241 : decode cX12_init 241 = .ok (.bipush 30, 2) := by decide +kernel
theorem dX12_init_243 : decode cX12_init 243 = .ok (.newarray .boolean, 2) := by decide +kernel
theorem dX12_init_245 : decode cX12_init 245 = .ok (.putfield 95, 3) := by decide +kernel
theorem dX12_init_248 : decode cX12_init 248 = .ok (.aload_n 0, 1) := by decide +kernel
theorem dX12_init_249 : decode cX12_init 249 = .ok (.bipush 30, 2) := by decide +kernel
theorem dX12_init_251 : decode cX12_init 251 = .ok (.newarray .boolean, 2) := by decide +kernel
theorem dX12_init_253 : decode cX12_init 253 = .ok (.putfield 98, 3) := by decide +kernel
theorem dX12_init_256 : decode cX12_init 256 = .ok (.aload_n 0, 1) := by decide +kernel
theorem dX12_init_257 : decode cX12_init 257 = .ok (.bipush 30, 2) := by decide +kernel
theorem dX12_init_259 : decode cX12_init 259 = .ok (.newarray .boolean, 2) := by decide +kernel
theorem dX12_init_261 : decode cX12_init 261 = .ok (.putfield 101, 3) := by decide +kernel
theorem dX12_init_264 : decode cX12_init 264 = .ok (.aload_n 0, 1) := by decide +kernel
theorem dX12_init_265 : decode cX12_init 265 = .ok (.bipush 30, 2) := by decide +kernel
theorem dX12_init_267 : decode cX12_init 267 = .ok (.newarray .boolean, 2) := by decide +kernel
theorem dX12_init_269 : decode cX12_init 269 = .ok (.putfield 104, 3) := by decide +kernel
theorem dX12_init_272 : decode cX12_init 272 = .ok (.aload_n 0, 1) := by decide +kernel
theorem dX12_init_273 : decode cX12_init 273 = .ok (.sipush 9030, 3) := by decide +kernel
theorem dX12_init_276 : decode cX12_init 276 = .ok (.newarray .byte, 2) := by decide +kernel
theorem dX12_init_278 : decode cX12_init 278 = .ok (.putfield 107, 3) := by decide +kernel
theorem dX12_init_281 : decode cX12_init 281 = .ok (.aload_n 0, 1) := by decide +kernel
theorem dX12_init_282 : decode cX12_init 282 = .ok (.sipush 9030, 3) := by decide +kernel
theorem dX12_init_285 : decode cX12_init 285 = .ok (.newarray .byte, 2) := by decide +kernel
theorem dX12_init_287 : decode cX12_init 287 = .ok (.putfield 111, 3) := by decide +kernel
theorem dX12_init_290 : decode cX12_init 290 = .ok (.aload_n 0, 1) := by decide +kernel
theorem dX12_init_291 : decode cX12_init 291 = .ok (.sipush 9030, 3) := by decide +kernel
theorem dX12_init_294 : decode cX12_init 294 = .ok (.newarray .byte, 2) := by decide +kernel
theorem dX12_init_296 : decode cX12_init 296 = .ok (.putfield 114, 3) := by decide +kernel
theorem dX12_init_299 : decode cX12_init 299 = .ok (.aload_n 0, 1) := by decide +kernel
theorem dX12_init_300 : decode cX12_init 300 = .ok (.sipush 300, 3) := by decide +kernel
theorem dX12_init_303 : decode cX12_init 303 = .ok (.newarray .int, 2) := by decide +kernel
theorem dX12_init_305 : decode cX12_init 305 = .ok (.putfield 117, 3) := by decide +kernel
theorem dX12_init_308 : decode cX12_init 308 = .ok (.aload_n 0, 1) := by decide +kernel
theorem dX12_init_309 : decode cX12_init 309 = .ok (.sipush 900, 3) := by decide +kernel
theorem dX12_init_312 : decode cX12_init 312 = .ok (.newarray .int, 2) := by decide +kernel
theorem dX12_init_314 : decode cX12_init 314 = .ok (.putfield 120, 3) := by decide +kernel
theorem dX12_init_317 : decode cX12_init 317 = .ok (.aload_n 0, 1) := by decide +kernel
theorem dX12_init_318 : decode cX12_init 318 = .ok (.sipush 900, 3) := by decide +kernel
theorem dX12_init_321 : decode cX12_init 321 = .ok (.newarray .int, 2) := by decide +kernel
theorem dX12_init_323 : decode cX12_init 323 = .ok (.putfield 123, 3) := by decide +kernel
theorem dX12_init_326 : decode cX12_init 326 = .ok (.aload_n 0, 1) := by decide +kernel
theorem dX12_init_327 : decode cX12_init 327 = .ok (.bipush 30, 2) := by decide +kernel
theorem dX12_init_329 : decode cX12_init 329 = .ok (.newarray .int, 2) := by decide +kernel
theorem dX12_init_331 : decode cX12_init 331 = .ok (.putfield 126, 3) := by decide +kernel
theorem dX12_init_334 : decode cX12_init 334 = .ok (.aload_n 0, 1) := by decide +kernel
theorem dX12_init_335 : decode cX12_init 335 = .ok (.bipush 30, 2) := by decide +kernel
theorem dX12_init_337 : decode cX12_init 337 = .ok (.newarray .int, 2) := by decide +kernel
theorem dX12_init_339 : decode cX12_init 339 = .ok (.putfield 129, 3) := by decide +kernel
theorem dX12_init_342 : decode cX12_init 342 = .ok (.aload_n 0, 1) := by decide +kernel
theorem dX12_init_343 : decode cX12_init 343 = .ok (.sipush 360, 3) := by decide +kernel
theorem dX12_init_346 : decode cX12_init 346 = .ok (.newarray .long, 2) := by decide +kernel
theorem dX12_init_348 : decode cX12_init 348 = .ok (.putfield 132, 3) := by decide +kernel
theorem dX12_init_351 : decode cX12_init 351 = .ok (.aload_n 0, 1) := by decide +kernel
theorem dX12_init_352 : decode cX12_init 352 = .ok (.bipush 30, 2) := by decide +kernel
theorem dX12_init_354 : decode cX12_init 354 = .ok (.newarray .boolean, 2) := by decide +kernel
theorem dX12_init_356 : decode cX12_init 356 = .ok (.putfield 136, 3) := by decide +kernel
theorem dX12_init_359 : decode cX12_init 359 = .ok (.aload_n 0, 1) := by decide +kernel
theorem dX12_init_360 : decode cX12_init 360 = .ok (.bipush 10, 2) := by decide +kernel
theorem dX12_init_362 : decode cX12_init 362 = .ok (.newarray .int, 2) := by decide +kernel
theorem dX12_init_364 : decode cX12_init 364 = .ok (.putfield 139, 3) := by decide +kernel
theorem dX12_init_367 : decode cX12_init 367 = .ok (.aload_n 0, 1) := by decide +kernel
theorem dX12_init_368 : decode cX12_init 368 = .ok (.bipush 10, 2) := by decide +kernel
theorem dX12_init_370 : decode cX12_init 370 = .ok (.newarray .int, 2) := by decide +kernel
theorem dX12_init_372 : decode cX12_init 372 = .ok (.putfield 142, 3) := by decide +kernel
theorem dX12_init_375 : decode cX12_init 375 = .ok (.aload_n 0, 1) := by decide +kernel
theorem dX12_init_376 : decode cX12_init 376 = .ok (.bipush 120, 2) := by decide +kernel
theorem dX12_init_378 : decode cX12_init 378 = .ok (.newarray .int, 2) := by decide +kernel
theorem dX12_init_380 : decode cX12_init 380 = .ok (.putfield 145, 3) := by decide +kernel
theorem dX12_init_383 : decode cX12_init 383 = .ok (.aload_n 0, 1) := by decide +kernel
theorem dX12_init_384 : decode cX12_init 384 = .ok (.bipush 12, 2) := by decide +kernel
theorem dX12_init_386 : decode cX12_init 386 = .ok (.newarray .long, 2) := by decide +kernel
theorem dX12_init_388 : decode cX12_init 388 = .ok (.putfield 148, 3) := by decide +kernel
theorem dX12_init_391 : decode cX12_init 391 = .ok (.aload_n 0, 1) := by decide +kernel
theorem dX12_init_392 : decode cX12_init 392 = .ok (.getfield 13, 3) := by decide +kernel
theorem dX12_init_395 : decode cX12_init 395 = .ok (.iconst 0, 1) := by decide +kernel
theorem dX12_init_396 : decode cX12_init 396 = .ok (.bipush (-9), 2) := by decide +kernel
theorem dX12_init_398 : decode cX12_init 398 = .ok (.iastore, 1) := by decide +kernel
theorem dX12_init_399 : decode cX12_init 399 = .ok (.aload_n 0, 1) := by decide +kernel
theorem dX12_init_400 : decode cX12_init 400 = .ok (.getfield 13, 3) := by decide +kernel
theorem dX12_init_403 : decode cX12_init 403 = .ok (.iconst 1, 1) := by decide +kernel
theorem dX12_init_404 : decode cX12_init 404 = .ok (.bipush (-9), 2) := by decide +kernel
theorem dX12_init_406 : decode cX12_init 406 = .ok (.iastore, 1) := by decide +kernel
theorem dX12_init_407 : decode cX12_init 407 = .ok (.iconst 2, 1) := by decide +kernel
theorem dX12_init_408 : decode cX12_init 408 = .ok (.istore_n 1, 1) := by decide +kernel
theorem dX12_init_409 : decode cX12_init 409 = .ok (.iload_n 1, 1) := by decide +kernel
theorem dX12_init_410 : decode cX12_init 410 = .ok (.bipush 6, 2) := by decide +kernel
theorem dX12_init_412 : decode cX12_init 412 = .ok (.if_icmp .ge 16, 3) := by decide +kernel
theorem dX12_init_415 : decode cX12_init 415 = .ok (.aload_n 0, 1) := by decide +kernel
theorem dX12_init_416 : decode cX12_init 416 = .ok (.getfield 13, 3) := by decide +kernel
theorem dX12_init_419 : decode cX12_init 419 = .ok (.iload_n 1, 1) := by decide +kernel
theorem dX12_init_420 : decode cX12_init 420 = .ok (.iconst 1, 1) := by decide +kernel
theorem dX12_init_421 : decode cX12_init 421 = .ok (.iastore, 1) := by decide +kernel
theorem dX12_init_422 : decode cX12_init 422 = .ok (.iinc 1 1, 3) := by decide +kernel
theorem dX12_init_425 : decode cX12_init 425 = .ok (.goto (-16), 3) := by decide +kernel
theorem dX12_init_428 : decode cX12_init 428 = .ok (.aload_n 0, 1) := by decide +kernel
theorem dX12_init_429 : decode cX12_init 429 = .ok (.bipush 6, 2) := by decide +kernel
theorem dX12_init_431 : decode cX12_init 431 = .ok (.putfield 151, 3) := by decide +kernel
theorem dX12_init_434 : decode cX12_init 434 = .ok (.iconst 0, 1) := by decide +kernel
theorem dX12_init_435 : decode cX12_init 435 = .ok (.istore_n 1, 1) := by decide +kernel
theorem dX12_init_436 : decode cX12_init 436 = .ok (.iload_n 1, 1) := by decide +kernel
theorem dX12_init_437 : decode cX12_init 437 = .ok (.sipush 144, 3) := by decide +kernel
theorem dX12_init_440 : decode cX12_init 440 = .ok (.if_icmp .ge 17, 3) := by decide +kernel
theorem dX12_init_443 : decode cX12_init 443 = .ok (.aload_n 0, 1) := by decide +kernel
theorem dX12_init_444 : decode cX12_init 444 = .ok (.getfield 16, 3) := by decide +kernel
theorem dX12_init_447 : decode cX12_init 447 = .ok (.iload_n 1, 1) := by decide +kernel
theorem dX12_init_448 : decode cX12_init 448 = .ok (.bipush (-9), 2) := by decide +kernel
theorem dX12_init_450 : decode cX12_init 450 = .ok (.iastore, 1) := by decide +kernel
theorem dX12_init_451 : decode cX12_init 451 = .ok (.iinc 1 1, 3) := by decide +kernel
theorem dX12_init_454 : decode cX12_init 454 = .ok (.goto (-18), 3) := by decide +kernel
theorem dX12_init_457 : decode cX12_init 457 = .ok (.aload_n 0, 1) := by decide +kernel
theorem dX12_init_458 : decode cX12_init 458 = .ok (.bipush (-9), 2) := by decide +kernel
theorem dX12_init_460 : decode cX12_init 460 = .ok (.putfield 155, 3) := by decide +kernel
theorem dX12_init_463 : decode cX12_init 463 = .ok (.aload_n 0, 1) := by decide +kernel
theorem dX12_init_464 : decode cX12_init 464 = .ok (.bipush (-9), 2) := by decide +kernel
theorem dX12_init_466 : decode cX12_init 466 = .ok (.putfield 158, 3) := by decide +kernel
theorem dX12_init_469 : decode cX12_init 469 = .ok (.return_, 1) := by decide +kernel
theorem dX12_in_0 : decode cX12_in 0 = .ok (.lload_n 0, 1) := by decide +kernel
theorem dX12_in_1 : decode cX12_in 1 = .ok (.lload_n 2, 1) := by decide +kernel
theorem dX12_in_2 : decode cX12_in 2 = .ok (.lcmp, 1) := by decide +kernel
theorem dX12_in_3 : decode cX12_in 3 = .ok (.ifCond .lt 14, 3) := by decide +kernel
theorem dX12_in_6 : decode cX12_in 6 = .ok (.lload_n 0, 1) := by decide +kernel
theorem dX12_in_7 : decode cX12_in 7 = .ok (.lload 4, 2) := by decide +kernel
theorem dX12_in_9 : decode cX12_in 9 = .ok (.lcmp, 1) := by decide +kernel
theorem dX12_in_10 : decode cX12_in 10 = .ok (.ifCond .gt 7, 3) := by decide +kernel
theorem dX12_in_13 : decode cX12_in 13 = .ok (.iconst 1, 1) := by decide +kernel
theorem dX12_in_14 : decode cX12_in 14 = .ok (.goto 4, 3) := by decide +kernel
theorem dX12_in_17 : decode cX12_in 17 = .ok (.iconst 0, 1) := by decide +kernel
theorem dX12_in_18 : decode cX12_in 18 = .ok (.ireturn, 1) := by decide +kernel
theorem dX12_meets_0 : decode cX12_meets 0 = .ok (.aload_n 0, 1) := by decide +kernel
theorem dX12_meets_1 : decode cX12_meets 1 = .ok (.iload_n 1, 1) := by decide +kernel
theorem dX12_meets_2 : decode cX12_meets 2 = .ok (.putfield 161, 3) := by decide +kernel
theorem dX12_meets_5 : decode cX12_meets 5 = .ok (.aload_n 0, 1) := by decide +kernel
theorem dX12_meets_6 : decode cX12_meets 6 = .ok (.getfield 7, 3) := by decide +kernel
theorem dX12_meets_9 : decode cX12_meets 9 = .ok (.iload_n 1, 1) := by decide +kernel
theorem dX12_meets_10 : decode cX12_meets 10 = .ok (.dup2, 1) := by decide +kernel
theorem dX12_meets_11 : decode cX12_meets 11 = .ok (.iaload, 1) := by decide +kernel
theorem dX12_meets_12 : decode cX12_meets 12 = .ok (.iconst 1, 1) := by decide +kernel
theorem dX12_meets_13 : decode cX12_meets 13 = .ok (.iadd, 1) := by decide +kernel
theorem dX12_meets_14 : decode cX12_meets 14 = .ok (.iastore, 1) := by decide +kernel
theorem dX12_meets_15 : decode cX12_meets 15 = .ok (.bipush (-3), 2) := by decide +kernel
theorem dX12_meets_17 : decode cX12_meets 17 = .ok (.ireturn, 1) := by decide +kernel
theorem dX12_finding_0 : decode cX12_finding 0 = .ok (.aload_n 0, 1) := by decide +kernel
theorem dX12_finding_1 : decode cX12_finding 1 = .ok (.getfield 161, 3) := by decide +kernel
theorem dX12_finding_4 : decode cX12_finding 4 = .ok (.ireturn, 1) := by decide +kernel
set_option maxRecDepth 20000 in
theorem ggX12_findings_X12_in : GoodIn wsX12_findings wsX12_in := goodIn_r _ [6] (by decide +kernel) (by decide +kernel)
set_option maxRecDepth 20000 in
theorem gX12_findings_X12_in : GoodIn wsX12_findings (va_wsS RX12 166 yX12_in wsX12_in) := goodIn_app (goodIn_of _ (by decide +kernel)) ggX12_findings_X12_in
theorem dX12_findings_0 : decode cX12_findings 0 = .ok (.iload_n 1, 1) := by decide +kernel
theorem dX12_findings_1 : decode cX12_findings 1 = .ok (.i2l, 1) := by decide +kernel
theorem dX12_findings_2 : decode cX12_findings 2 = .ok (.lconst 1, 1) := by decide +kernel
theorem dX12_findings_3 : decode cX12_findings 3 = .ok (.ldc2_w 164, 3) := by decide +kernel
theorem dX12_findings_6 : decode cX12_findings 6 = .ok (.invokestatic 166, 3) := by decide +kernel
theorem dX12_findings_9 : decode cX12_findings 9 = .ok (.ifCond .eq 12, 3) := by decide +kernel
theorem dX12_findings_12 : decode cX12_findings 12 = .ok (.aload_n 0, 1) := by decide +kernel
theorem dX12_findings_13 : decode cX12_findings 13 = .ok (.getfield 7, 3) := by decide +kernel
theorem dX12_findings_16 : decode cX12_findings 16 = .ok (.iload_n 1, 1) := by decide +kernel
theorem dX12_findings_17 : decode cX12_findings 17 = .ok (.iaload, 1) := by decide +kernel
theorem dX12_findings_18 : decode cX12_findings 18 = .ok (.goto 4, 3) := by decide +kernel
theorem dX12_findings_21 : decode cX12_findings 21 = .ok (.iconst (-1), 1) := by decide +kernel
theorem dX12_findings_22 : decode cX12_findings 22 = .ok (.ireturn, 1) := by decide +kernel
set_option maxRecDepth 20000 in
theorem ggX12_kind_X12_in : GoodIn wsX12_kind wsX12_in := goodIn_r _ [6] (by decide +kernel) (by decide +kernel)
set_option maxRecDepth 20000 in
theorem gX12_kind_X12_in : GoodIn wsX12_kind (va_wsS RX12 166 yX12_in wsX12_in) := goodIn_app (goodIn_of _ (by decide +kernel)) ggX12_kind_X12_in
theorem dX12_kind_0 : decode cX12_kind 0 = .ok (.iload_n 1, 1) := by decide +kernel
theorem dX12_kind_1 : decode cX12_kind 1 = .ok (.i2l, 1) := by decide +kernel
theorem dX12_kind_2 : decode cX12_kind 2 = .ok (.lconst 0, 1) := by decide +kernel
theorem dX12_kind_3 : decode cX12_kind 3 = .ok (.aload_n 0, 1) := by decide +kernel
theorem dX12_kind_4 : decode cX12_kind 4 = .ok (.getfield 151, 3) := by decide +kernel
theorem dX12_kind_7 : decode cX12_kind 7 = .ok (.iconst 1, 1) := by decide +kernel
theorem dX12_kind_8 : decode cX12_kind 8 = .ok (.isub, 1) := by decide +kernel
theorem dX12_kind_9 : decode cX12_kind 9 = .ok (.i2l, 1) := by decide +kernel
theorem dX12_kind_10 : decode cX12_kind 10 = .ok (.invokestatic 166, 3) := by decide +kernel
theorem dX12_kind_13 : decode cX12_kind 13 = .ok (.ifCond .ne 5, 3) := by decide +kernel
theorem dX12_kind_16 : decode cX12_kind 16 = .ok (.iconst (-1), 1) := by decide +kernel
theorem dX12_kind_17 : decode cX12_kind 17 = .ok (.ireturn, 1) := by decide +kernel
theorem dX12_kind_18 : decode cX12_kind 18 = .ok (.aload_n 0, 1) := by decide +kernel
theorem dX12_kind_19 : decode cX12_kind 19 = .ok (.getfield 151, 3) := by decide +kernel
theorem dX12_kind_22 : decode cX12_kind 22 = .ok (.bipush 24, 2) := by decide +kernel
theorem dX12_kind_24 : decode cX12_kind 24 = .ok (.if_icmp .ne 6, 3) := by decide +kernel
theorem dX12_kind_30 : decode cX12_kind 30 = .ok (.aload_n 0, 1) := by decide +kernel
theorem dX12_kind_31 : decode cX12_kind 31 = .ok (.getfield 13, 3) := by decide +kernel
theorem dX12_kind_34 : decode cX12_kind 34 = .ok (.aload_n 0, 1) := by decide +kernel
theorem dX12_kind_35 : decode cX12_kind 35 = .ok (.getfield 151, 3) := by decide +kernel
theorem dX12_kind_38 : decode cX12_kind 38 = .ok (.iload_n 1, 1) := by decide +kernel
theorem dX12_kind_39 : decode cX12_kind 39 = .ok (.iastore, 1) := by decide +kernel
theorem dX12_kind_40 : decode cX12_kind 40 = .ok (.aload_n 0, 1) := by decide +kernel
theorem dX12_kind_41 : decode cX12_kind 41 = .ok (.dup, 1) := by decide +kernel
theorem dX12_kind_42 : decode cX12_kind 42 = .ok (.getfield 151, 3) := by decide +kernel
theorem dX12_kind_45 : decode cX12_kind 45 = .ok (.iconst 1, 1) := by decide +kernel
theorem dX12_kind_46 : decode cX12_kind 46 = .ok (.iadd, 1) := by decide +kernel
theorem dX12_kind_47 : decode cX12_kind 47 = .ok (.putfield 151, 3) := by decide +kernel
theorem dX12_kind_50 : decode cX12_kind 50 = .ok (.aload_n 0, 1) := by decide +kernel
theorem dX12_kind_51 : decode cX12_kind 51 = .ok (.getfield 151, 3) := by decide +kernel
theorem dX12_kind_54 : decode cX12_kind 54 = .ok (.iconst 1, 1) := by decide +kernel
theorem dX12_kind_55 : decode cX12_kind 55 = .ok (.isub, 1) := by decide +kernel
theorem dX12_kind_56 : decode cX12_kind 56 = .ok (.ireturn, 1) := by decide +kernel
set_option maxRecDepth 20000 in
theorem ggX12_standard_X12_in : GoodIn wsX12_standard wsX12_in := goodIn_r _ [7] (by decide +kernel) (by decide +kernel)
set_option maxRecDepth 20000 in
theorem gX12_standard_X12_in : GoodIn wsX12_standard (va_wsS RX12 166 yX12_in wsX12_in) := goodIn_app (goodIn_of _ (by decide +kernel)) ggX12_standard_X12_in
set_option maxRecDepth 20000 in
theorem ggX12_standard_X12_endTale : GoodIn wsX12_standard wsX12_endTale := goodIn_r _ [11, 12, 13, 14, 15, 16, 17, 18, 19, 20, 21, 22, 23, 24, 25, 26, 27, 28, 29, 30, 31, 32, 33, 34, 35, 36, 37, 38, 39, 40, 41, 42, 43, 44, 45, 46, 47, 48, 49, 50, 51, 52, 53, 54, 55, 56, 57, 58, 59, 60, 61, 62, 63, 64, 65, 66, 67, 68, 69, 70, 71, 72, 73, 74, 75, 76, 77, 78, 79, 80, 81, 82] (by decide +kernel) (by decide +kernel)
set_option maxRecDepth 20000 in
theorem gX12_standard_X12_endTale : GoodIn wsX12_standard (wsV RX12 172 RX12 yX12_endTale wsX12_endTale) := goodIn_app (goodIn_of _ (by decide +kernel)) ggX12_standard_X12_endTale
theorem dX12_standard_0 : decode cX12_standard 0 = .ok (.iload_n 1, 1) := by decide +kernel
theorem dX12_standard_1 : decode cX12_standard 1 = .ok (.i2l, 1) := by decide +kernel
theorem dX12_standard_2 : decode cX12_standard 2 = .ok (.lconst 0, 1) := by decide +kernel
theorem dX12_standard_3 : decode cX12_standard 3 = .ok (.aload_n 0, 1) := by decide +kernel
theorem dX12_standard_4 : decode cX12_standard 4 = .ok (.getfield 151, 3) := by decide +kernel
theorem dX12_standard_7 : decode cX12_standard 7 = .ok (.iconst 1, 1) := by decide +kernel
theorem dX12_standard_8 : decode cX12_standard 8 = .ok (.isub, 1) := by decide +kernel
theorem dX12_standard_9 : decode cX12_standard 9 = .ok (.i2l, 1) := by decide +kernel
theorem dX12_standard_10 : decode cX12_standard 10 = .ok (.invokestatic 166, 3) := by decide +kernel
theorem dX12_standard_13 : decode cX12_standard 13 = .ok (.ifCond .eq 31, 3) := by decide +kernel
theorem dX12_standard_16 : decode cX12_standard 16 = .ok (.iload_n 2, 1) := by decide +kernel
theorem dX12_standard_17 : decode cX12_standard 17 = .ok (.i2l, 1) := by decide +kernel
theorem dX12_standard_18 : decode cX12_standard 18 = .ok (.lconst 0, 1) := by decide +kernel
theorem dX12_standard_19 : decode cX12_standard 19 = .ok (.ldc2_w 170, 3) := by decide +kernel
theorem dX12_standard_22 : decode cX12_standard 22 = .ok (.invokestatic 166, 3) := by decide +kernel
theorem dX12_standard_25 : decode cX12_standard 25 = .ok (.ifCond .eq 19, 3) := by decide +kernel
theorem dX12_standard_28 : decode cX12_standard 28 = .ok (.iload_n 3, 1) := by decide +kernel
theorem dX12_standard_29 : decode cX12_standard 29 = .ok (.i2l, 1) := by decide +kernel
theorem dX12_standard_30 : decode cX12_standard 30 = .ok (.lconst 0, 1) := by decide +kernel
theorem dX12_standard_31 : decode cX12_standard 31 = .ok (.lconst 1, 1) := by decide +kernel
theorem dX12_standard_32 : decode cX12_standard 32 = .ok (.invokestatic 166, 3) := by decide +kernel
theorem dX12_standard_35 : decode cX12_standard 35 = .ok (.ifCond .ne 11, 3) := by decide +kernel
theorem dX12_standard_38 : decode cX12_standard 38 = .ok (.iload_n 3, 1) := by decide +kernel
theorem dX12_standard_39 : decode cX12_standard 39 = .ok (.bipush (-9), 2) := by decide +kernel
theorem dX12_standard_41 : decode cX12_standard 41 = .ok (.if_icmp .eq 5, 3) := by decide +kernel
theorem dX12_standard_44 : decode cX12_standard 44 = .ok (.iconst (-1), 1) := by decide +kernel
theorem dX12_standard_45 : decode cX12_standard 45 = .ok (.ireturn, 1) := by decide +kernel
theorem dX12_standard_46 : decode cX12_standard 46 = .ok (.aload_n 0, 1) := by decide +kernel
theorem dX12_standard_47 : decode cX12_standard 47 = .ok (.getfield 16, 3) := by decide +kernel
theorem dX12_standard_50 : decode cX12_standard 50 = .ok (.bipush 6, 2) := by decide +kernel
theorem dX12_standard_52 : decode cX12_standard 52 = .ok (.iload_n 1, 1) := by decide +kernel
theorem dX12_standard_53 : decode cX12_standard 53 = .ok (.imul, 1) := by decide +kernel
theorem dX12_standard_54 : decode cX12_standard 54 = .ok (.iload_n 2, 1) := by decide +kernel
theorem dX12_standard_55 : decode cX12_standard 55 = .ok (.iadd, 1) := by decide +kernel
theorem dX12_standard_56 : decode cX12_standard 56 = .ok (.iaload, 1) := by decide +kernel
theorem dX12_standard_57 : decode cX12_standard 57 = .ok (.istore 4, 2) := by decide +kernel
theorem dX12_standard_59 : decode cX12_standard 59 = .ok (.aload_n 0, 1) := by decide +kernel
theorem dX12_standard_60 : decode cX12_standard 60 = .ok (.getfield 16, 3) := by decide +kernel
theorem dX12_standard_63 : decode cX12_standard 63 = .ok (.bipush 6, 2) := by decide +kernel
theorem dX12_standard_65 : decode cX12_standard 65 = .ok (.iload_n 1, 1) := by decide +kernel
theorem dX12_standard_66 : decode cX12_standard 66 = .ok (.imul, 1) := by decide +kernel
theorem dX12_standard_67 : decode cX12_standard 67 = .ok (.iload_n 2, 1) := by decide +kernel
theorem dX12_standard_68 : decode cX12_standard 68 = .ok (.iadd, 1) := by decide +kernel
theorem dX12_standard_69 : decode cX12_standard 69 = .ok (.iload_n 3, 1) := by decide +kernel
theorem dX12_standard_70 : decode cX12_standard 70 = .ok (.iastore, 1) := by decide +kernel
theorem dX12_standard_71 : decode cX12_standard 71 = .ok (.aload_n 0, 1) := by decide +kernel
theorem dX12_standard_72 : decode cX12_standard 72 = .ok (.invokevirtual 172, 3) := by decide +kernel
theorem dX12_standard_75 : decode cX12_standard 75 = .ok (.iload 4, 2) := by decide +kernel
theorem dX12_standard_77 : decode cX12_standard 77 = .ok (.ireturn, 1) := by decide +kernel
set_option maxRecDepth 20000 in
theorem ggX12_make_X12_in : GoodIn wsX12_make wsX12_in := goodIn_r _ [9] (by decide +kernel) (by decide +kernel)
set_option maxRecDepth 20000 in
theorem gX12_make_X12_in : GoodIn wsX12_make (va_wsS RX12 166 yX12_in wsX12_in) := goodIn_app (goodIn_of _ (by decide +kernel)) ggX12_make_X12_in
set_option maxRecDepth 20000 in
theorem ggX12_make_X12_endTale : GoodIn wsX12_make wsX12_endTale := goodIn_r _ [13, 14, 15, 16, 17, 18, 19, 20, 21, 22, 23, 24, 25, 26, 27, 28, 29, 30, 31, 32, 33, 34, 35, 36, 37, 38, 39, 40, 41, 42, 43, 44, 45, 46, 47, 48, 49, 50, 51, 52, 53, 54, 55, 56, 57, 58, 59, 60, 61, 62, 63, 64, 65, 66, 67, 68, 69, 70, 71, 72, 73, 74, 75, 76, 77, 78, 79, 80, 81, 82, 83, 84] (by decide +kernel) (by decide +kernel)
set_option maxRecDepth 20000 in
theorem gX12_make_X12_endTale : GoodIn wsX12_make (wsV RX12 172 RX12 yX12_endTale wsX12_endTale) := goodIn_app (goodIn_of _ (by decide +kernel)) ggX12_make_X12_endTale
theorem dX12_make_0 : decode cX12_make 0 = .ok (.iload_n 1, 1) := by decide +kernel
theorem dX12_make_1 : decode cX12_make 1 = .ok (.i2l, 1) := by decide +kernel
theorem dX12_make_2 : decode cX12_make 2 = .ok (.lconst 0, 1) := by decide +kernel
theorem dX12_make_3 : decode cX12_make 3 = .ok (.aload_n 0, 1) := by decide +kernel
theorem dX12_make_4 : decode cX12_make 4 = .ok (.getfield 151, 3) := by decide +kernel
theorem dX12_make_7 : decode cX12_make 7 = .ok (.iconst 1, 1) := by decide +kernel
theorem dX12_make_8 : decode cX12_make 8 = .ok (.isub, 1) := by decide +kernel
theorem dX12_make_9 : decode cX12_make 9 = .ok (.i2l, 1) := by decide +kernel
theorem dX12_make_10 : decode cX12_make 10 = .ok (.invokestatic 166, 3) := by decide +kernel
theorem dX12_make_13 : decode cX12_make 13 = .ok (.ifCond .eq 15, 3) := by decide +kernel
theorem dX12_make_16 : decode cX12_make 16 = .ok (.iload_n 2, 1) := by decide +kernel
theorem dX12_make_17 : decode cX12_make 17 = .ok (.i2l, 1) := by decide +kernel
theorem dX12_make_18 : decode cX12_make 18 = .ok (.lconst 0, 1) := by decide +kernel
theorem dX12_make_19 : decode cX12_make 19 = .ok (.ldc2_w 175, 3) := by decide +kernel
theorem dX12_make_22 : decode cX12_make 22 = .ok (.invokestatic 166, 3) := by decide +kernel
theorem dX12_make_25 : decode cX12_make 25 = .ok (.ifCond .ne 5, 3) := by decide +kernel
theorem dX12_make_28 : decode cX12_make 28 = .ok (.iconst (-1), 1) := by decide +kernel
theorem dX12_make_29 : decode cX12_make 29 = .ok (.ireturn, 1) := by decide +kernel
theorem dX12_make_30 : decode cX12_make 30 = .ok (.aload_n 0, 1) := by decide +kernel
theorem dX12_make_31 : decode cX12_make 31 = .ok (.getfield 177, 3) := by decide +kernel
theorem dX12_make_34 : decode cX12_make 34 = .ok (.bipush 30, 2) := by decide +kernel
theorem dX12_make_36 : decode cX12_make 36 = .ok (.if_icmp .ne 6, 3) := by decide +kernel
theorem dX12_make_42 : decode cX12_make 42 = .ok (.aload_n 0, 1) := by decide +kernel
theorem dX12_make_43 : decode cX12_make 43 = .ok (.getfield 19, 3) := by decide +kernel
theorem dX12_make_46 : decode cX12_make 46 = .ok (.aload_n 0, 1) := by decide +kernel
theorem dX12_make_47 : decode cX12_make 47 = .ok (.getfield 177, 3) := by decide +kernel
theorem dX12_make_50 : decode cX12_make 50 = .ok (.iload_n 1, 1) := by decide +kernel
theorem dX12_make_51 : decode cX12_make 51 = .ok (.iastore, 1) := by decide +kernel
theorem dX12_make_52 : decode cX12_make 52 = .ok (.aload_n 0, 1) := by decide +kernel
theorem dX12_make_53 : decode cX12_make 53 = .ok (.getfield 22, 3) := by decide +kernel
theorem dX12_make_56 : decode cX12_make 56 = .ok (.aload_n 0, 1) := by decide +kernel
theorem dX12_make_57 : decode cX12_make 57 = .ok (.getfield 177, 3) := by decide +kernel
theorem dX12_make_60 : decode cX12_make 60 = .ok (.iload_n 2, 1) := by decide +kernel
theorem dX12_make_61 : decode cX12_make 61 = .ok (.iastore, 1) := by decide +kernel
theorem dX12_make_62 : decode cX12_make 62 = .ok (.aload_n 0, 1) := by decide +kernel
theorem dX12_make_63 : decode cX12_make 63 = .ok (.dup, 1) := by decide +kernel
theorem dX12_make_64 : decode cX12_make 64 = .ok (.getfield 177, 3) := by decide +kernel
theorem dX12_make_67 : decode cX12_make 67 = .ok (.iconst 1, 1) := by decide +kernel
theorem dX12_make_68 : decode cX12_make 68 = .ok (.iadd, 1) := by decide +kernel
theorem dX12_make_69 : decode cX12_make 69 = .ok (.putfield 177, 3) := by decide +kernel
theorem dX12_make_72 : decode cX12_make 72 = .ok (.aload_n 0, 1) := by decide +kernel
theorem dX12_make_73 : decode cX12_make 73 = .ok (.invokevirtual 172, 3) := by decide +kernel
theorem dX12_make_76 : decode cX12_make 76 = .ok (.aload_n 0, 1) := by decide +kernel
theorem dX12_make_77 : decode cX12_make 77 = .ok (.getfield 177, 3) := by decide +kernel
theorem dX12_make_80 : decode cX12_make 80 = .ok (.iconst 1, 1) := by decide +kernel
theorem dX12_make_81 : decode cX12_make 81 = .ok (.isub, 1) := by decide +kernel
theorem dX12_make_82 : decode cX12_make 82 = .ok (.ireturn, 1) := by decide +kernel
set_option maxRecDepth 20000 in
theorem ggX12_isObject_X12_in : GoodIn wsX12_isObject wsX12_in := goodIn_r _ [5] (by decide +kernel) (by decide +kernel)
set_option maxRecDepth 20000 in
theorem gX12_isObject_X12_in : GoodIn wsX12_isObject (va_wsS RX12 166 yX12_in wsX12_in) := goodIn_app (goodIn_of _ (by decide +kernel)) ggX12_isObject_X12_in
theorem dX12_isObject_0 : decode cX12_isObject 0 = .ok (.iload_n 1, 1) := by decide +kernel
theorem dX12_isObject_1 : decode cX12_isObject 1 = .ok (.i2l, 1) := by decide +kernel
theorem dX12_isObject_2 : decode cX12_isObject 2 = .ok (.lconst 0, 1) := by decide +kernel
theorem dX12_isObject_3 : decode cX12_isObject 3 = .ok (.aload_n 0, 1) := by decide +kernel
theorem dX12_isObject_4 : decode cX12_isObject 4 = .ok (.getfield 177, 3) := by decide +kernel
theorem dX12_isObject_7 : decode cX12_isObject 7 = .ok (.iconst 1, 1) := by decide +kernel
theorem dX12_isObject_8 : decode cX12_isObject 8 = .ok (.isub, 1) := by decide +kernel
theorem dX12_isObject_9 : decode cX12_isObject 9 = .ok (.i2l, 1) := by decide +kernel
theorem dX12_isObject_10 : decode cX12_isObject 10 = .ok (.invokestatic 166, 3) := by decide +kernel
theorem dX12_isObject_13 : decode cX12_isObject 13 = .ok (.ireturn, 1) := by decide +kernel
set_option maxRecDepth 20000 in
theorem ggX12_is_X12_isObject : GoodIn wsX12_is wsX12_isObject := goodIn_r _ [6, 7, 8, 9, 5, 10, 17, 18, 19, 20, 21, 22, 23, 24, 25, 26, 27, 28, 29, 30, 31, 32, 33, 34, 35, 36, 37, 38, 39, 40, 41, 42, 43, 44, 45, 46, 47, 48, 49, 50, 51, 52, 53, 54, 55, 56, 57, 58, 59, 60, 61, 62, 63, 64, 65, 66, 67, 68, 69, 70, 71, 72, 73, 74, 75, 76, 77, 78, 79, 80, 81, 82, 83, 84, 85] (by decide +kernel) (by decide +kernel)
set_option maxRecDepth 20000 in
theorem gX12_is_X12_isObject : GoodIn wsX12_is (wsV RX12 180 RX12 yX12_isObject wsX12_isObject) := goodIn_app (goodIn_of _ (by decide +kernel)) ggX12_is_X12_isObject
theorem dX12_is_0 : decode cX12_is 0 = .ok (.aload_n 0, 1) := by decide +kernel
theorem dX12_is_1 : decode cX12_is 1 = .ok (.iload_n 1, 1) := by decide +kernel
theorem dX12_is_2 : decode cX12_is 2 = .ok (.invokevirtual 180, 3) := by decide +kernel
theorem dX12_is_5 : decode cX12_is 5 = .ok (.ifCond .eq 19, 3) := by decide +kernel
theorem dX12_is_24 : decode cX12_is 24 = .ok (.iconst (-1), 1) := by decide +kernel
theorem dX12_is_25 : decode cX12_is 25 = .ok (.goto 17, 3) := by decide +kernel
theorem dX12_is_42 : decode cX12_is 42 = .ok (.ireturn, 1) := by decide +kernel
set_option maxRecDepth 20000 in
theorem ggX12_areNumbers_X12_isObject : GoodIn wsX12_areNumbers wsX12_isObject := goodIn_r _ [7, 8, 9, 10, 6, 11, 12, 13, 14, 15, 16, 17, 18, 19, 20, 21, 22, 23, 24, 25, 26, 27, 28, 29, 30, 31, 32, 33, 34, 35, 36, 37, 38, 39, 40, 41, 42, 43, 44, 45, 46, 47, 48, 49, 50, 51, 52, 53, 54, 55, 56, 57, 58, 59, 60, 61, 62, 63, 64, 65, 66, 67, 68, 69, 70, 71, 72, 73, 74, 75, 76, 77, 78, 79, 80] (by decide +kernel) (by decide +kernel)
set_option maxRecDepth 20000 in
theorem gX12_areNumbers_X12_isObject : GoodIn wsX12_areNumbers (wsV RX12 180 RX12 yX12_isObject wsX12_isObject) := goodIn_app (goodIn_of _ (by decide +kernel)) ggX12_areNumbers_X12_isObject
theorem dX12_areNumbers_0 : decode cX12_areNumbers 0 = .ok (.iload_n 1, 1) := by decide +kernel
theorem dX12_areNumbers_1 : decode cX12_areNumbers 1 = .ok (.bipush 6, 2) := by decide +kernel
theorem dX12_areNumbers_3 : decode cX12_areNumbers 3 = .ok (.if_icmp .ne 40, 3) := by decide +kernel
theorem dX12_areNumbers_6 : decode cX12_areNumbers 6 = .ok (.aload_n 0, 1) := by decide +kernel
theorem dX12_areNumbers_7 : decode cX12_areNumbers 7 = .ok (.iload_n 2, 1) := by decide +kernel
theorem dX12_areNumbers_8 : decode cX12_areNumbers 8 = .ok (.invokevirtual 180, 3) := by decide +kernel
theorem dX12_areNumbers_11 : decode cX12_areNumbers 11 = .ok (.ifCond .eq 30, 3) := by decide +kernel
theorem dX12_areNumbers_41 : decode cX12_areNumbers 41 = .ok (.iconst 0, 1) := by decide +kernel
theorem dX12_areNumbers_42 : decode cX12_areNumbers 42 = .ok (.ireturn, 1) := by decide +kernel
theorem dX12_areNumbers_43 : decode cX12_areNumbers 43 = .ok (.aload_n 0, 1) := by decide +kernel
theorem dX12_areNumbers_44 : decode cX12_areNumbers 44 = .ok (.iload_n 2, 1) := by decide +kernel
theorem dX12_areNumbers_45 : decode cX12_areNumbers 45 = .ok (.invokevirtual 180, 3) := by decide +kernel
theorem dX12_areNumbers_48 : decode cX12_areNumbers 48 = .ok (.ifCond .eq 33, 3) := by decide +kernel
theorem dX12_areNumbers_81 : decode cX12_areNumbers 81 = .ok (.iconst 0, 1) := by decide +kernel
theorem dX12_areNumbers_82 : decode cX12_areNumbers 82 = .ok (.ireturn, 1) := by decide +kernel
set_option maxRecDepth 20000 in
theorem ggX12_say_X12_in : GoodIn wsX12_say wsX12_in := goodIn_r _ [12] (by decide +kernel) (by decide +kernel)
set_option maxRecDepth 20000 in
theorem gX12_say_X12_in : GoodIn wsX12_say (va_wsS RX12 166 yX12_in wsX12_in) := goodIn_app (goodIn_of _ (by decide +kernel)) ggX12_say_X12_in
set_option maxRecDepth 20000 in
theorem ggX12_say_X12_areNumbers : GoodIn wsX12_say wsX12_areNumbers := goodIn_r _ [16, 17, 18, 19, 20, 21, 11, 22, 23, 9, 10, 12, 95, 96, 97, 98, 99, 100, 101, 102, 103, 104, 105, 106, 107, 108, 109, 110, 111, 112, 113, 114, 115, 116, 117, 118, 119, 120, 121, 122, 123, 124, 125, 126, 127, 128, 129, 130, 131, 132, 133, 134, 135, 136, 137, 138, 139, 140, 141, 142, 143, 144, 145, 146, 147, 148, 149, 150, 151, 152, 153, 154, 155, 156, 157, 158, 159, 160, 161, 162, 163] (by decide +kernel) (by decide +kernel)
set_option maxRecDepth 20000 in
theorem gX12_say_X12_areNumbers : GoodIn wsX12_say (wsV RX12 222 RX12 yX12_areNumbers wsX12_areNumbers) := goodIn_app (goodIn_of _ (by decide +kernel)) ggX12_say_X12_areNumbers
theorem dX12_say_0 : decode cX12_say 0 = .ok (.aload_n 0, 1) := by decide +kernel
theorem dX12_say_1 : decode cX12_say 1 = .ok (.iconst 0, 1) := by decide +kernel
theorem dX12_say_2 : decode cX12_say 2 = .ok (.putfield 205, 3) := by decide +kernel
theorem dX12_say_5 : decode cX12_say 5 = .ok (.iload_n 1, 1) := by decide +kernel
theorem dX12_say_6 : decode cX12_say 6 = .ok (.i2l, 1) := by decide +kernel
theorem dX12_say_7 : decode cX12_say 7 = .ok (.lconst 0, 1) := by decide +kernel
theorem dX12_say_8 : decode cX12_say 8 = .ok (.ldc2_w 220, 3) := by decide +kernel
theorem dX12_say_11 : decode cX12_say 11 = .ok (.invokestatic 166, 3) := by decide +kernel
theorem dX12_say_14 : decode cX12_say 14 = .ok (.ifCond .eq 15, 3) := by decide +kernel
theorem dX12_say_17 : decode cX12_say 17 = .ok (.aload_n 0, 1) := by decide +kernel
theorem dX12_say_18 : decode cX12_say 18 = .ok (.iload_n 1, 1) := by decide +kernel
theorem dX12_say_19 : decode cX12_say 19 = .ok (.iload_n 2, 1) := by decide +kernel
theorem dX12_say_20 : decode cX12_say 20 = .ok (.iload_n 3, 1) := by decide +kernel
theorem dX12_say_21 : decode cX12_say 21 = .ok (.iload 4, 2) := by decide +kernel
theorem dX12_say_23 : decode cX12_say 23 = .ok (.invokevirtual 222, 3) := by decide +kernel
theorem dX12_say_26 : decode cX12_say 26 = .ok (.ifCond .ne 5, 3) := by decide +kernel
theorem dX12_say_29 : decode cX12_say 29 = .ok (.iconst (-1), 1) := by decide +kernel
theorem dX12_say_30 : decode cX12_say 30 = .ok (.ireturn, 1) := by decide +kernel
theorem dX12_saidMany_0 : decode cX12_saidMany 0 = .ok (.iconst 0, 1) := by decide +kernel
theorem dX12_saidMany_1 : decode cX12_saidMany 1 = .ok (.istore_n 1, 1) := by decide +kernel
theorem dX12_saidMany_2 : decode cX12_saidMany 2 = .ok (.iconst 0, 1) := by decide +kernel
theorem dX12_saidMany_3 : decode cX12_saidMany 3 = .ok (.istore_n 2, 1) := by decide +kernel
