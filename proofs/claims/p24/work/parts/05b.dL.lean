theorem dL_act_0 : decode cL_act 0 = .ok (.iload_n 1, 1) := by decide +kernel
theorem dL_act_1 : decode cL_act 1 = .ok (.bipush 24, 2) := by decide +kernel
theorem dL_act_3 : decode cL_act 3 = .ok (.ishr, 1) := by decide +kernel
theorem dL_act_4 : decode cL_act 4 = .ok (.bipush 9, 2) := by decide +kernel
theorem dL_act_6 : decode cL_act 6 = .ok (.invokestatic 57, 3) := by decide +kernel
theorem dL_act_9 : decode cL_act 9 = .ok (.ifCond .ne 7, 3) := by decide +kernel
theorem dL_act_12 : decode cL_act 12 = .ok (.iconst 1, 1) := by decide +kernel
theorem dL_act_13 : decode cL_act 13 = .ok (.goto 4, 3) := by decide +kernel
theorem dL_act_16 : decode cL_act 16 = .ok (.iconst 0, 1) := by decide +kernel
theorem dL_act_17 : decode cL_act 17 = .ok (.istore_n 2, 1) := by decide +kernel
theorem dL_act_18 : decode cL_act 18 = .ok (.iload_n 2, 1) := by decide +kernel
theorem dL_act_19 : decode cL_act 19 = .ok (.ifCond .eq 16, 3) := by decide +kernel
theorem dL_act_22 : decode cL_act 22 = .ok (.iload_n 1, 1) := by decide +kernel
theorem dL_act_23 : decode cL_act 23 = .ok (.iconst 4, 1) := by decide +kernel
theorem dL_act_24 : decode cL_act 24 = .ok (.ishr, 1) := by decide +kernel
theorem dL_act_25 : decode cL_act 25 = .ok (.bipush 6, 2) := by decide +kernel
theorem dL_act_27 : decode cL_act 27 = .ok (.invokestatic 57, 3) := by decide +kernel
theorem dL_act_30 : decode cL_act 30 = .ok (.iconst 1, 1) := by decide +kernel
theorem dL_act_31 : decode cL_act 31 = .ok (.isub, 1) := by decide +kernel
theorem dL_act_32 : decode cL_act 32 = .ok (.goto 10, 3) := by decide +kernel
theorem dL_act_35 : decode cL_act 35 = .ok (.iload_n 1, 1) := by decide +kernel
theorem dL_act_36 : decode cL_act 36 = .ok (.iconst 4, 1) := by decide +kernel
theorem dL_act_37 : decode cL_act 37 = .ok (.ishr, 1) := by decide +kernel
theorem dL_act_38 : decode cL_act 38 = .ok (.iconst 4, 1) := by decide +kernel
theorem dL_act_39 : decode cL_act 39 = .ok (.invokestatic 57, 3) := by decide +kernel
theorem dL_act_42 : decode cL_act 42 = .ok (.istore_n 3, 1) := by decide +kernel
theorem dL_act_43 : decode cL_act 43 = .ok (.iload_n 2, 1) := by decide +kernel
theorem dL_act_44 : decode cL_act 44 = .ok (.ifCond .eq 16, 3) := by decide +kernel
theorem dL_act_47 : decode cL_act 47 = .ok (.iload_n 1, 1) := by decide +kernel
theorem dL_act_48 : decode cL_act 48 = .ok (.bipush 7, 2) := by decide +kernel
theorem dL_act_50 : decode cL_act 50 = .ok (.ishr, 1) := by decide +kernel
theorem dL_act_51 : decode cL_act 51 = .ok (.iconst 5, 1) := by decide +kernel
theorem dL_act_52 : decode cL_act 52 = .ok (.invokestatic 57, 3) := by decide +kernel
theorem dL_act_55 : decode cL_act 55 = .ok (.iconst 1, 1) := by decide +kernel
theorem dL_act_56 : decode cL_act 56 = .ok (.isub, 1) := by decide +kernel
theorem dL_act_57 : decode cL_act 57 = .ok (.goto 11, 3) := by decide +kernel
theorem dL_act_60 : decode cL_act 60 = .ok (.iload_n 1, 1) := by decide +kernel
theorem dL_act_61 : decode cL_act 61 = .ok (.bipush 7, 2) := by decide +kernel
theorem dL_act_63 : decode cL_act 63 = .ok (.ishr, 1) := by decide +kernel
theorem dL_act_64 : decode cL_act 64 = .ok (.iconst 3, 1) := by decide +kernel
theorem dL_act_65 : decode cL_act 65 = .ok (.invokestatic 57, 3) := by decide +kernel
theorem dL_act_68 : decode cL_act 68 = .ok (.istore 4, 2) := by decide +kernel
theorem dL_act_70 : decode cL_act 70 = .ok (.iload_n 1, 1) := by decide +kernel
theorem dL_act_71 : decode cL_act 71 = .ok (.bipush 18, 2) := by decide +kernel
theorem dL_act_73 : decode cL_act 73 = .ok (.invokestatic 57, 3) := by decide +kernel
theorem dL_act_76 : decode cL_act 76 = .ok (.tableswitch 379 0 14 #[76, 76, 76, 76, 128, 177, 214, 248, 296, 325, 331, 331, 337, 345, 345], 76) := by decide +kernel
theorem dL_act_152 : decode cL_act 152 = .ok (.aload_n 0, 1) := by decide +kernel
theorem dL_act_153 : decode cL_act 153 = .ok (.iload_n 3, 1) := by decide +kernel
theorem dL_act_154 : decode cL_act 154 = .ok (.iload 4, 2) := by decide +kernel
theorem dL_act_156 : decode cL_act 156 = .ok (.iload_n 2, 1) := by decide +kernel
theorem dL_act_157 : decode cL_act 157 = .ok (.ifCond .eq 18, 3) := by decide +kernel
theorem dL_act_160 : decode cL_act 160 = .ok (.iload_n 1, 1) := by decide +kernel
theorem dL_act_161 : decode cL_act 161 = .ok (.bipush 9, 2) := by decide +kernel
theorem dL_act_163 : decode cL_act 163 = .ok (.ishr, 1) := by decide +kernel
theorem dL_act_164 : decode cL_act 164 = .ok (.sipush 258, 3) := by decide +kernel
theorem dL_act_167 : decode cL_act 167 = .ok (.invokestatic 57, 3) := by decide +kernel
theorem dL_act_170 : decode cL_act 170 = .ok (.iconst 2, 1) := by decide +kernel
theorem dL_act_171 : decode cL_act 171 = .ok (.isub, 1) := by decide +kernel
theorem dL_act_172 : decode cL_act 172 = .ok (.goto 28, 3) := by decide +kernel
theorem dL_act_175 : decode cL_act 175 = .ok (.iload_n 1, 1) := by decide +kernel
theorem dL_act_176 : decode cL_act 176 = .ok (.bipush 9, 2) := by decide +kernel
theorem dL_act_178 : decode cL_act 178 = .ok (.ishr, 1) := by decide +kernel
theorem dL_act_179 : decode cL_act 179 = .ok (.iconst 4, 1) := by decide +kernel
theorem dL_act_180 : decode cL_act 180 = .ok (.invokestatic 57, 3) := by decide +kernel
theorem dL_act_183 : decode cL_act 183 = .ok (.ifCond .ne 7, 3) := by decide +kernel
theorem dL_act_186 : decode cL_act 186 = .ok (.iconst 0, 1) := by decide +kernel
theorem dL_act_187 : decode cL_act 187 = .ok (.goto 13, 3) := by decide +kernel
theorem dL_act_190 : decode cL_act 190 = .ok (.iload_n 1, 1) := by decide +kernel
theorem dL_act_191 : decode cL_act 191 = .ok (.bipush 11, 2) := by decide +kernel
theorem dL_act_193 : decode cL_act 193 = .ok (.ishr, 1) := by decide +kernel
theorem dL_act_194 : decode cL_act 194 = .ok (.sipush 255, 3) := by decide +kernel
theorem dL_act_197 : decode cL_act 197 = .ok (.invokestatic 57, 3) := by decide +kernel
theorem dL_act_200 : decode cL_act 200 = .ok (.invokestatic 62, 3) := by decide +kernel
theorem dL_act_203 : decode cL_act 203 = .ok (.ireturn, 1) := by decide +kernel
theorem dL_act_204 : decode cL_act 204 = .ok (.aload_n 0, 1) := by decide +kernel
theorem dL_act_205 : decode cL_act 205 = .ok (.iload_n 3, 1) := by decide +kernel
theorem dL_act_206 : decode cL_act 206 = .ok (.iload_n 1, 1) := by decide +kernel
theorem dL_act_207 : decode cL_act 207 = .ok (.bipush 9, 2) := by decide +kernel
theorem dL_act_209 : decode cL_act 209 = .ok (.ishr, 1) := by decide +kernel
theorem dL_act_210 : decode cL_act 210 = .ok (.iload_n 2, 1) := by decide +kernel
theorem dL_act_211 : decode cL_act 211 = .ok (.ifCond .eq 7, 3) := by decide +kernel
theorem dL_act_214 : decode cL_act 214 = .ok (.iconst 3, 1) := by decide +kernel
theorem dL_act_215 : decode cL_act 215 = .ok (.goto 4, 3) := by decide +kernel
theorem dL_act_218 : decode cL_act 218 = .ok (.iconst 2, 1) := by decide +kernel
theorem dL_act_219 : decode cL_act 219 = .ok (.invokestatic 57, 3) := by decide +kernel
theorem dL_act_222 : decode cL_act 222 = .ok (.iload_n 2, 1) := by decide +kernel
theorem dL_act_223 : decode cL_act 223 = .ok (.ifCond .eq 17, 3) := by decide +kernel
theorem dL_act_226 : decode cL_act 226 = .ok (.iload_n 1, 1) := by decide +kernel
theorem dL_act_227 : decode cL_act 227 = .ok (.bipush 11, 2) := by decide +kernel
theorem dL_act_229 : decode cL_act 229 = .ok (.ishr, 1) := by decide +kernel
theorem dL_act_230 : decode cL_act 230 = .ok (.bipush 103, 2) := by decide +kernel
theorem dL_act_232 : decode cL_act 232 = .ok (.invokestatic 57, 3) := by decide +kernel
theorem dL_act_235 : decode cL_act 235 = .ok (.iconst 1, 1) := by decide +kernel
theorem dL_act_236 : decode cL_act 236 = .ok (.isub, 1) := by decide +kernel
theorem dL_act_237 : decode cL_act 237 = .ok (.goto 12, 3) := by decide +kernel
theorem dL_act_240 : decode cL_act 240 = .ok (.iload_n 1, 1) := by decide +kernel
theorem dL_act_241 : decode cL_act 241 = .ok (.bipush 11, 2) := by decide +kernel
theorem dL_act_243 : decode cL_act 243 = .ok (.ishr, 1) := by decide +kernel
theorem dL_act_244 : decode cL_act 244 = .ok (.bipush 101, 2) := by decide +kernel
theorem dL_act_246 : decode cL_act 246 = .ok (.invokestatic 57, 3) := by decide +kernel
theorem dL_act_249 : decode cL_act 249 = .ok (.invokestatic 65, 3) := by decide +kernel
theorem dL_act_252 : decode cL_act 252 = .ok (.ireturn, 1) := by decide +kernel
theorem dL_act_253 : decode cL_act 253 = .ok (.aload_n 0, 1) := by decide +kernel
theorem dL_act_254 : decode cL_act 254 = .ok (.iload_n 3, 1) := by decide +kernel
theorem dL_act_255 : decode cL_act 255 = .ok (.iload_n 1, 1) := by decide +kernel
theorem dL_act_256 : decode cL_act 256 = .ok (.bipush 9, 2) := by decide +kernel
theorem dL_act_258 : decode cL_act 258 = .ok (.ishr, 1) := by decide +kernel
theorem dL_act_259 : decode cL_act 259 = .ok (.iload_n 2, 1) := by decide +kernel
theorem dL_act_260 : decode cL_act 260 = .ok (.ifCond .eq 7, 3) := by decide +kernel
theorem dL_act_263 : decode cL_act 263 = .ok (.iconst 3, 1) := by decide +kernel
theorem dL_act_264 : decode cL_act 264 = .ok (.goto 4, 3) := by decide +kernel
theorem dL_act_267 : decode cL_act 267 = .ok (.iconst 2, 1) := by decide +kernel
theorem dL_act_268 : decode cL_act 268 = .ok (.invokestatic 57, 3) := by decide +kernel
theorem dL_act_271 : decode cL_act 271 = .ok (.iload_n 1, 1) := by decide +kernel
theorem dL_act_272 : decode cL_act 272 = .ok (.bipush 11, 2) := by decide +kernel
theorem dL_act_274 : decode cL_act 274 = .ok (.ishr, 1) := by decide +kernel
theorem dL_act_275 : decode cL_act 275 = .ok (.iconst 1, 1) := by decide +kernel
theorem dL_act_276 : decode cL_act 276 = .ok (.iand, 1) := by decide +kernel
theorem dL_act_277 : decode cL_act 277 = .ok (.iconst 1, 1) := by decide +kernel
theorem dL_act_278 : decode cL_act 278 = .ok (.if_icmp .ne 7, 3) := by decide +kernel
theorem dL_act_281 : decode cL_act 281 = .ok (.iconst 1, 1) := by decide +kernel
theorem dL_act_282 : decode cL_act 282 = .ok (.goto 4, 3) := by decide +kernel
theorem dL_act_285 : decode cL_act 285 = .ok (.iconst 0, 1) := by decide +kernel
theorem dL_act_286 : decode cL_act 286 = .ok (.invokestatic 67, 3) := by decide +kernel
theorem dL_act_289 : decode cL_act 289 = .ok (.ireturn, 1) := by decide +kernel
theorem dL_act_290 : decode cL_act 290 = .ok (.aload_n 0, 1) := by decide +kernel
theorem dL_act_291 : decode cL_act 291 = .ok (.iload 4, 2) := by decide +kernel
theorem dL_act_293 : decode cL_act 293 = .ok (.iload_n 2, 1) := by decide +kernel
theorem dL_act_294 : decode cL_act 294 = .ok (.ifCond .eq 15, 3) := by decide +kernel
theorem dL_act_297 : decode cL_act 297 = .ok (.iload_n 1, 1) := by decide +kernel
theorem dL_act_298 : decode cL_act 298 = .ok (.bipush 9, 2) := by decide +kernel
theorem dL_act_300 : decode cL_act 300 = .ok (.ishr, 1) := by decide +kernel
theorem dL_act_301 : decode cL_act 301 = .ok (.bipush 13, 2) := by decide +kernel
theorem dL_act_303 : decode cL_act 303 = .ok (.invokestatic 57, 3) := by decide +kernel
theorem dL_act_306 : decode cL_act 306 = .ok (.goto 14, 3) := by decide +kernel
theorem dL_act_309 : decode cL_act 309 = .ok (.iconst 1, 1) := by decide +kernel
theorem dL_act_310 : decode cL_act 310 = .ok (.iload_n 1, 1) := by decide +kernel
theorem dL_act_311 : decode cL_act 311 = .ok (.bipush 9, 2) := by decide +kernel
theorem dL_act_313 : decode cL_act 313 = .ok (.ishr, 1) := by decide +kernel
theorem dL_act_314 : decode cL_act 314 = .ok (.bipush 10, 2) := by decide +kernel
theorem dL_act_316 : decode cL_act 316 = .ok (.invokestatic 57, 3) := by decide +kernel
theorem dL_act_319 : decode cL_act 319 = .ok (.iadd, 1) := by decide +kernel
theorem dL_act_320 : decode cL_act 320 = .ok (.invokestatic 70, 3) := by decide +kernel
theorem dL_act_323 : decode cL_act 323 = .ok (.ireturn, 1) := by decide +kernel
theorem dL_act_324 : decode cL_act 324 = .ok (.aload_n 0, 1) := by decide +kernel
theorem dL_act_325 : decode cL_act 325 = .ok (.iload 4, 2) := by decide +kernel
theorem dL_act_327 : decode cL_act 327 = .ok (.iload_n 1, 1) := by decide +kernel
theorem dL_act_328 : decode cL_act 328 = .ok (.bipush 9, 2) := by decide +kernel
theorem dL_act_330 : decode cL_act 330 = .ok (.ishr, 1) := by decide +kernel
theorem dL_act_331 : decode cL_act 331 = .ok (.iconst 1, 1) := by decide +kernel
theorem dL_act_332 : decode cL_act 332 = .ok (.iand, 1) := by decide +kernel
theorem dL_act_333 : decode cL_act 333 = .ok (.iconst 1, 1) := by decide +kernel
theorem dL_act_334 : decode cL_act 334 = .ok (.if_icmp .ne 7, 3) := by decide +kernel
theorem dL_act_337 : decode cL_act 337 = .ok (.iconst 1, 1) := by decide +kernel
theorem dL_act_338 : decode cL_act 338 = .ok (.goto 4, 3) := by decide +kernel
theorem dL_act_341 : decode cL_act 341 = .ok (.iconst 0, 1) := by decide +kernel
theorem dL_act_342 : decode cL_act 342 = .ok (.iload_n 2, 1) := by decide +kernel
theorem dL_act_343 : decode cL_act 343 = .ok (.ifCond .eq 17, 3) := by decide +kernel
theorem dL_act_346 : decode cL_act 346 = .ok (.iload_n 1, 1) := by decide +kernel
theorem dL_act_347 : decode cL_act 347 = .ok (.bipush 10, 2) := by decide +kernel
theorem dL_act_349 : decode cL_act 349 = .ok (.ishr, 1) := by decide +kernel
theorem dL_act_350 : decode cL_act 350 = .ok (.bipush 13, 2) := by decide +kernel
theorem dL_act_352 : decode cL_act 352 = .ok (.invokestatic 57, 3) := by decide +kernel
theorem dL_act_355 : decode cL_act 355 = .ok (.iconst 1, 1) := by decide +kernel
theorem dL_act_356 : decode cL_act 356 = .ok (.isub, 1) := by decide +kernel
theorem dL_act_357 : decode cL_act 357 = .ok (.goto 11, 3) := by decide +kernel
theorem dL_act_360 : decode cL_act 360 = .ok (.iload_n 1, 1) := by decide +kernel
theorem dL_act_361 : decode cL_act 361 = .ok (.bipush 10, 2) := by decide +kernel
theorem dL_act_363 : decode cL_act 363 = .ok (.ishr, 1) := by decide +kernel
theorem dL_act_364 : decode cL_act 364 = .ok (.iconst 4, 1) := by decide +kernel
theorem dL_act_365 : decode cL_act 365 = .ok (.invokestatic 57, 3) := by decide +kernel
theorem dL_act_368 : decode cL_act 368 = .ok (.invokestatic 73, 3) := by decide +kernel
theorem dL_act_371 : decode cL_act 371 = .ok (.ireturn, 1) := by decide +kernel
theorem dL_act_372 : decode cL_act 372 = .ok (.aload_n 0, 1) := by decide +kernel
theorem dL_act_373 : decode cL_act 373 = .ok (.iload_n 3, 1) := by decide +kernel
theorem dL_act_374 : decode cL_act 374 = .ok (.iload_n 1, 1) := by decide +kernel
theorem dL_act_375 : decode cL_act 375 = .ok (.bipush 9, 2) := by decide +kernel
theorem dL_act_377 : decode cL_act 377 = .ok (.ishr, 1) := by decide +kernel
theorem dL_act_378 : decode cL_act 378 = .ok (.iconst 4, 1) := by decide +kernel
theorem dL_act_379 : decode cL_act 379 = .ok (.invokestatic 57, 3) := by decide +kernel
theorem dL_act_382 : decode cL_act 382 = .ok (.iload_n 1, 1) := by decide +kernel
theorem dL_act_383 : decode cL_act 383 = .ok (.bipush 11, 2) := by decide +kernel
theorem dL_act_385 : decode cL_act 385 = .ok (.ishr, 1) := by decide +kernel
theorem dL_act_386 : decode cL_act 386 = .ok (.iconst 1, 1) := by decide +kernel
theorem dL_act_387 : decode cL_act 387 = .ok (.iand, 1) := by decide +kernel
theorem dL_act_388 : decode cL_act 388 = .ok (.iconst 1, 1) := by decide +kernel
theorem dL_act_389 : decode cL_act 389 = .ok (.if_icmp .ne 7, 3) := by decide +kernel
theorem dL_act_392 : decode cL_act 392 = .ok (.iconst 1, 1) := by decide +kernel
theorem dL_act_393 : decode cL_act 393 = .ok (.goto 4, 3) := by decide +kernel
theorem dL_act_396 : decode cL_act 396 = .ok (.iconst 0, 1) := by decide +kernel
theorem dL_act_397 : decode cL_act 397 = .ok (.invokestatic 76, 3) := by decide +kernel
theorem dL_act_400 : decode cL_act 400 = .ok (.ireturn, 1) := by decide +kernel
theorem dL_act_401 : decode cL_act 401 = .ok (.aload_n 0, 1) := by decide +kernel
theorem dL_act_402 : decode cL_act 402 = .ok (.iload_n 3, 1) := by decide +kernel
theorem dL_act_403 : decode cL_act 403 = .ok (.invokestatic 78, 3) := by decide +kernel
theorem dL_act_406 : decode cL_act 406 = .ok (.ireturn, 1) := by decide +kernel
theorem dL_act_407 : decode cL_act 407 = .ok (.aload_n 0, 1) := by decide +kernel
theorem dL_act_408 : decode cL_act 408 = .ok (.iload_n 3, 1) := by decide +kernel
theorem dL_act_409 : decode cL_act 409 = .ok (.invokestatic 81, 3) := by decide +kernel
theorem dL_act_412 : decode cL_act 412 = .ok (.ireturn, 1) := by decide +kernel
theorem dL_act_413 : decode cL_act 413 = .ok (.aload_n 0, 1) := by decide +kernel
theorem dL_act_414 : decode cL_act 414 = .ok (.iload_n 3, 1) := by decide +kernel
theorem dL_act_415 : decode cL_act 415 = .ok (.iload 4, 2) := by decide +kernel
theorem dL_act_417 : decode cL_act 417 = .ok (.invokestatic 83, 3) := by decide +kernel
theorem dL_act_420 : decode cL_act 420 = .ok (.ireturn, 1) := by decide +kernel
theorem dL_act_421 : decode cL_act 421 = .ok (.aload_n 0, 1) := by decide +kernel
theorem dL_act_422 : decode cL_act 422 = .ok (.iload 4, 2) := by decide +kernel
theorem dL_act_424 : decode cL_act 424 = .ok (.iload_n 2, 1) := by decide +kernel
theorem dL_act_425 : decode cL_act 425 = .ok (.ifCond .eq 15, 3) := by decide +kernel
theorem dL_act_428 : decode cL_act 428 = .ok (.iload_n 1, 1) := by decide +kernel
theorem dL_act_429 : decode cL_act 429 = .ok (.bipush 9, 2) := by decide +kernel
theorem dL_act_431 : decode cL_act 431 = .ok (.ishr, 1) := by decide +kernel
theorem dL_act_432 : decode cL_act 432 = .ok (.bipush 103, 2) := by decide +kernel
theorem dL_act_434 : decode cL_act 434 = .ok (.invokestatic 57, 3) := by decide +kernel
theorem dL_act_437 : decode cL_act 437 = .ok (.goto 14, 3) := by decide +kernel
theorem dL_act_440 : decode cL_act 440 = .ok (.iconst 1, 1) := by decide +kernel
theorem dL_act_441 : decode cL_act 441 = .ok (.iload_n 1, 1) := by decide +kernel
theorem dL_act_442 : decode cL_act 442 = .ok (.bipush 9, 2) := by decide +kernel
theorem dL_act_444 : decode cL_act 444 = .ok (.ishr, 1) := by decide +kernel
theorem dL_act_445 : decode cL_act 445 = .ok (.bipush 30, 2) := by decide +kernel
theorem dL_act_447 : decode cL_act 447 = .ok (.invokestatic 57, 3) := by decide +kernel
theorem dL_act_450 : decode cL_act 450 = .ok (.iadd, 1) := by decide +kernel
theorem dL_act_451 : decode cL_act 451 = .ok (.invokestatic 85, 3) := by decide +kernel
theorem dL_act_454 : decode cL_act 454 = .ok (.ireturn, 1) := by decide +kernel
theorem dL_act_455 : decode cL_act 455 = .ok (.aload_n 0, 1) := by decide +kernel
theorem dL_act_456 : decode cL_act 456 = .ok (.iload_n 2, 1) := by decide +kernel
theorem dL_act_457 : decode cL_act 457 = .ok (.ifCond .eq 15, 3) := by decide +kernel
theorem dL_act_460 : decode cL_act 460 = .ok (.iload_n 1, 1) := by decide +kernel
theorem dL_act_461 : decode cL_act 461 = .ok (.bipush 9, 2) := by decide +kernel
theorem dL_act_463 : decode cL_act 463 = .ok (.ishr, 1) := by decide +kernel
theorem dL_act_464 : decode cL_act 464 = .ok (.bipush 53, 2) := by decide +kernel
theorem dL_act_466 : decode cL_act 466 = .ok (.invokestatic 57, 3) := by decide +kernel
theorem dL_act_469 : decode cL_act 469 = .ok (.goto 14, 3) := by decide +kernel
theorem dL_act_472 : decode cL_act 472 = .ok (.iconst 1, 1) := by decide +kernel
theorem dL_act_473 : decode cL_act 473 = .ok (.iload_n 1, 1) := by decide +kernel
theorem dL_act_474 : decode cL_act 474 = .ok (.bipush 9, 2) := by decide +kernel
theorem dL_act_476 : decode cL_act 476 = .ok (.ishr, 1) := by decide +kernel
theorem dL_act_477 : decode cL_act 477 = .ok (.bipush 14, 2) := by decide +kernel
theorem dL_act_479 : decode cL_act 479 = .ok (.invokestatic 57, 3) := by decide +kernel
theorem dL_act_482 : decode cL_act 482 = .ok (.iadd, 1) := by decide +kernel
theorem dL_act_483 : decode cL_act 483 = .ok (.invokestatic 87, 3) := by decide +kernel
theorem dL_act_486 : decode cL_act 486 = .ok (.ireturn, 1) := by decide +kernel
set_option maxRecDepth 20000 in
theorem ggL_areAlike_X0_repairs : GoodIn wsL_areAlike wsX0_repairs := goodIn_r _ [5, 6, 65, 66, 67, 68, 69, 70, 71, 72, 73, 74, 75, 76, 77, 78, 79, 80, 81, 82] (by decide +kernel) (by decide +kernel)
set_option maxRecDepth 20000 in
theorem gL_areAlike_X0_repairs : GoodIn wsL_areAlike (wsV RL 89 RX0 yX0_repairs wsX0_repairs) := goodIn_app (goodIn_of _ (by decide +kernel)) ggL_areAlike_X0_repairs
set_option maxRecDepth 20000 in
theorem ggL_areAlike_X0_masters : GoodIn wsL_areAlike wsX0_masters := goodIn_ca (goodIn_r _ [10, 11, 12, 4, 13, 14, 15, 16, 17, 18, 19, 20, 21, 22, 23, 65, 66, 67, 68, 69, 70, 71, 72, 73, 74, 75, 76, 77, 78, 79, 80, 81, 82] (by decide +kernel) (by decide +kernel)) (goodIn_sub (fun _ h => List.mem_cons_of_mem _ (List.mem_append_left _ (List.mem_append_right _ h))) (by decide +kernel))
set_option maxRecDepth 20000 in
theorem gL_areAlike_X0_masters : GoodIn wsL_areAlike (wsV RL 93 RX0 yX0_masters wsX0_masters) := goodIn_app (goodIn_of _ (by decide +kernel)) ggL_areAlike_X0_masters
set_option maxRecDepth 20000 in
theorem ggL_areAlike_X0_gaps : GoodIn wsL_areAlike wsX0_gaps := goodIn_ca (goodIn_r _ [27, 28, 11, 12, 4, 13, 14, 15, 65, 66, 67, 68, 69, 70, 71, 72, 73, 74, 75, 76, 77, 78, 79, 80, 81, 82] (by decide +kernel) (by decide +kernel)) (goodIn_sub (fun _ h => List.mem_cons_of_mem _ (List.mem_append_left _ (List.mem_append_right _ h))) (by decide +kernel))
set_option maxRecDepth 20000 in
theorem gL_areAlike_X0_gaps : GoodIn wsL_areAlike (wsV RL 96 RX0 yX0_gaps wsX0_gaps) := goodIn_app (goodIn_of _ (by decide +kernel)) ggL_areAlike_X0_gaps
set_option maxRecDepth 20000 in
theorem ggL_areAlike_X0_sent : GoodIn wsL_areAlike wsX0_sent := goodIn_ca (goodIn_r _ [32, 33, 11, 12, 4, 13, 14, 15, 65, 66, 67, 68, 69, 70, 71, 72, 73, 74, 75, 76, 77, 78, 79, 80, 81, 82] (by decide +kernel) (by decide +kernel)) (goodIn_sub (fun _ h => List.mem_cons_of_mem _ (List.mem_append_left _ (List.mem_append_right _ h))) (by decide +kernel))
set_option maxRecDepth 20000 in
theorem gL_areAlike_X0_sent : GoodIn wsL_areAlike (wsV RL 99 RX0 yX0_sent wsX0_sent) := goodIn_app (goodIn_of _ (by decide +kernel)) ggL_areAlike_X0_sent
set_option maxRecDepth 20000 in
theorem ggL_areAlike_X0_state : GoodIn wsL_areAlike wsX0_state := goodIn_ca (goodIn_r _ [37, 20, 38, 39, 4, 40, 14, 15, 11, 12, 13, 21, 22, 23, 65, 66, 67, 68, 69, 70, 71, 72, 73, 74, 75, 76, 77, 78, 79, 80, 81, 82] (by decide +kernel) (by decide +kernel)) (goodIn_sub (fun _ h => List.mem_cons_of_mem _ (List.mem_append_left _ (List.mem_append_right _ h))) (by decide +kernel))
set_option maxRecDepth 20000 in
theorem gL_areAlike_X0_state : GoodIn wsL_areAlike (wsV RL 102 RX0 yX0_state wsX0_state) := goodIn_app (goodIn_of _ (by decide +kernel)) ggL_areAlike_X0_state
set_option maxRecDepth 20000 in
theorem ggL_areAlike_L_timer : GoodIn wsL_areAlike wsL_timer := goodIn_ca (goodIn_ca (goodIn_r _ [44, 45, 46, 47, 48, 49, 50, 4, 51, 52, 53, 20, 54, 38, 39, 40, 14, 15, 11, 12, 13, 21, 22, 23, 65, 66, 67, 68, 69, 70, 71, 72, 73, 74, 75, 76, 77, 78, 79, 80, 81, 82] (by decide +kernel) (by decide +kernel)) (goodIn_sub (fun _ h => List.mem_cons_of_mem _ (List.mem_append_right _ h)) (by decide +kernel))) (goodIn_sub (fun _ h => List.mem_cons_of_mem _ (List.mem_append_left _ (List.mem_append_right _ h))) (by decide +kernel))
set_option maxRecDepth 20000 in
theorem gL_areAlike_L_timer : GoodIn wsL_areAlike (va_wsS RL 105 yL_timer wsL_timer) := goodIn_app (goodIn_of _ (by decide +kernel)) ggL_areAlike_L_timer
set_option maxRecDepth 20000 in
theorem ggL_areAlike_X0_known : GoodIn wsL_areAlike wsX0_known := goodIn_ca (goodIn_r _ [58, 59, 38, 39, 4, 40, 14, 15, 11, 12, 13, 21, 22, 23, 65, 66, 67, 68, 69, 70, 71, 72, 73, 74, 75, 76, 77, 78, 79, 80, 81, 82] (by decide +kernel) (by decide +kernel)) (goodIn_sub (fun _ h => List.mem_cons_of_mem _ (List.mem_append_left _ (List.mem_append_right _ h))) (by decide +kernel))
set_option maxRecDepth 20000 in
theorem gL_areAlike_X0_known : GoodIn wsL_areAlike (wsV RL 107 RX0 yX0_known wsX0_known) := goodIn_app (goodIn_of _ (by decide +kernel)) ggL_areAlike_X0_known
set_option maxRecDepth 20000 in
theorem ggL_areAlike_X0_changes : GoodIn wsL_areAlike wsX0_changes := goodIn_ca (goodIn_r _ [63, 64, 38, 39, 4, 40, 14, 15, 11, 12, 13, 21, 22, 23, 65, 66, 67, 68, 69, 70, 71, 72, 73, 74, 75, 76, 77, 78, 79, 80, 81, 82] (by decide +kernel) (by decide +kernel)) (goodIn_sub (fun _ h => List.mem_cons_of_mem _ (List.mem_append_left _ (List.mem_append_right _ h))) (by decide +kernel))
set_option maxRecDepth 20000 in
theorem gL_areAlike_X0_changes : GoodIn wsL_areAlike (wsV RL 110 RX0 yX0_changes wsX0_changes) := goodIn_app (goodIn_of _ (by decide +kernel)) ggL_areAlike_X0_changes
