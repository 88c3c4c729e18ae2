/-! printed: the law's methods, decoded: the rest -/
theorem dL_began_261 : decode cL_began 261 = .ok (.iastore, 1) := by decide +kernel
theorem dL_began_262 : decode cL_began 262 = .ok (.iinc 6 1, 3) := by decide +kernel
theorem dL_began_265 : decode cL_began 265 = .ok (.goto (-61), 3) := by decide +kernel
theorem dL_began_268 : decode cL_began 268 = .ok (.aload_n 0, 1) := by decide +kernel
theorem dL_began_269 : decode cL_began 269 = .ok (.aload 5, 2) := by decide +kernel
theorem dL_began_271 : decode cL_began 271 = .ok (.iconst 0, 1) := by decide +kernel
theorem dL_began_272 : decode cL_began 272 = .ok (.iaload, 1) := by decide +kernel
theorem dL_began_273 : decode cL_began 273 = .ok (.aload 5, 2) := by decide +kernel
theorem dL_began_275 : decode cL_began 275 = .ok (.iconst 1, 1) := by decide +kernel
theorem dL_began_276 : decode cL_began 276 = .ok (.iaload, 1) := by decide +kernel
theorem dL_began_277 : decode cL_began 277 = .ok (.aload 5, 2) := by decide +kernel
theorem dL_began_279 : decode cL_began 279 = .ok (.iconst 2, 1) := by decide +kernel
theorem dL_began_280 : decode cL_began 280 = .ok (.iaload, 1) := by decide +kernel
theorem dL_began_281 : decode cL_began 281 = .ok (.aload 5, 2) := by decide +kernel
theorem dL_began_283 : decode cL_began 283 = .ok (.iconst 3, 1) := by decide +kernel
theorem dL_began_284 : decode cL_began 284 = .ok (.iaload, 1) := by decide +kernel
theorem dL_began_285 : decode cL_began 285 = .ok (.aload 5, 2) := by decide +kernel
theorem dL_began_287 : decode cL_began 287 = .ok (.iconst 4, 1) := by decide +kernel
theorem dL_began_288 : decode cL_began 288 = .ok (.iaload, 1) := by decide +kernel
theorem dL_began_289 : decode cL_began 289 = .ok (.invokevirtual 182, 3) := by decide +kernel
theorem dL_began_292 : decode cL_began 292 = .ok (.pop, 1) := by decide +kernel
theorem dL_began_293 : decode cL_began 293 = .ok (.iinc 4 20, 3) := by decide +kernel
theorem dL_began_296 : decode cL_began 296 = .ok (.goto (-109), 3) := by decide +kernel
theorem dL_began_299 : decode cL_began 299 = .ok (.aload_n 0, 1) := by decide +kernel
theorem dL_began_300 : decode cL_began 300 = .ok (.invokevirtual 185, 3) := by decide +kernel
theorem dL_began_303 : decode cL_began 303 = .ok (.ireturn, 1) := by decide +kernel
theorem dL_act_0 : decode cL_act 0 = .ok (.aload_n 1, 1) := by decide +kernel
theorem dL_act_1 : decode cL_act 1 = .ok (.iload_n 2, 1) := by decide +kernel
theorem dL_act_2 : decode cL_act 2 = .ok (.iconst 1, 1) := by decide +kernel
theorem dL_act_3 : decode cL_act 3 = .ok (.iadd, 1) := by decide +kernel
theorem dL_act_4 : decode cL_act 4 = .ok (.invokestatic 7, 3) := by decide +kernel
theorem dL_act_7 : decode cL_act 7 = .ok (.ldc 166, 2) := by decide +kernel
theorem dL_act_9 : decode cL_act 9 = .ok (.iand, 1) := by decide +kernel
theorem dL_act_10 : decode cL_act 10 = .ok (.istore_n 3, 1) := by decide +kernel
theorem dL_act_11 : decode cL_act 11 = .ok (.iload_n 3, 1) := by decide +kernel
theorem dL_act_12 : decode cL_act 12 = .ok (.iconst 1, 1) := by decide +kernel
theorem dL_act_13 : decode cL_act 13 = .ok (.aload_n 0, 1) := by decide +kernel
theorem dL_act_14 : decode cL_act 14 = .ok (.invokevirtual 188, 3) := by decide +kernel
theorem dL_act_17 : decode cL_act 17 = .ok (.invokestatic 191, 3) := by decide +kernel
theorem dL_act_20 : decode cL_act 20 = .ok (.irem, 1) := by decide +kernel
theorem dL_act_21 : decode cL_act 21 = .ok (.istore 4, 2) := by decide +kernel
theorem dL_act_23 : decode cL_act 23 = .ok (.iload_n 3, 1) := by decide +kernel
theorem dL_act_24 : decode cL_act 24 = .ok (.bipush 32, 2) := by decide +kernel
theorem dL_act_26 : decode cL_act 26 = .ok (.idiv, 1) := by decide +kernel
theorem dL_act_27 : decode cL_act 27 = .ok (.iconst 1, 1) := by decide +kernel
theorem dL_act_28 : decode cL_act 28 = .ok (.aload_n 0, 1) := by decide +kernel
theorem dL_act_29 : decode cL_act 29 = .ok (.invokevirtual 194, 3) := by decide +kernel
theorem dL_act_32 : decode cL_act 32 = .ok (.invokestatic 191, 3) := by decide +kernel
theorem dL_act_35 : decode cL_act 35 = .ok (.irem, 1) := by decide +kernel
theorem dL_act_36 : decode cL_act 36 = .ok (.istore 5, 2) := by decide +kernel
theorem dL_act_38 : decode cL_act 38 = .ok (.iload_n 3, 1) := by decide +kernel
theorem dL_act_39 : decode cL_act 39 = .ok (.sipush 2048, 3) := by decide +kernel
theorem dL_act_42 : decode cL_act 42 = .ok (.idiv, 1) := by decide +kernel
theorem dL_act_43 : decode cL_act 43 = .ok (.aload_n 0, 1) := by decide +kernel
theorem dL_act_44 : decode cL_act 44 = .ok (.invokevirtual 197, 3) := by decide +kernel
theorem dL_act_47 : decode cL_act 47 = .ok (.irem, 1) := by decide +kernel
theorem dL_act_48 : decode cL_act 48 = .ok (.istore 6, 2) := by decide +kernel
theorem dL_act_50 : decode cL_act 50 = .ok (.iload_n 3, 1) := by decide +kernel
theorem dL_act_51 : decode cL_act 51 = .ok (.sipush 16384, 3) := by decide +kernel
theorem dL_act_54 : decode cL_act 54 = .ok (.idiv, 1) := by decide +kernel
theorem dL_act_55 : decode cL_act 55 = .ok (.istore 7, 2) := by decide +kernel
theorem dL_act_57 : decode cL_act 57 = .ok (.aload_n 1, 1) := by decide +kernel
theorem dL_act_58 : decode cL_act 58 = .ok (.iload_n 2, 1) := by decide +kernel
theorem dL_act_59 : decode cL_act 59 = .ok (.iconst 0, 1) := by decide +kernel
theorem dL_act_60 : decode cL_act 60 = .ok (.bipush 28, 2) := by decide +kernel
theorem dL_act_62 : decode cL_act 62 = .ok (.invokestatic 148, 3) := by decide +kernel
theorem dL_act_65 : decode cL_act 65 = .ok (.tableswitch 428 0 26 #[123, 123, 123, 123, 162, 162, 162, 162, 162, 174, 174, 174, 200, 217, 217, 231, 246, 262, 272, 282, 292, 309, 323, 323, 340, 388, 415], 123) := by decide +kernel
theorem dL_act_188 : decode cL_act 188 = .ok (.aload_n 0, 1) := by decide +kernel
theorem dL_act_189 : decode cL_act 189 = .ok (.iconst 1, 1) := by decide +kernel
theorem dL_act_190 : decode cL_act 190 = .ok (.iload_n 3, 1) := by decide +kernel
theorem dL_act_191 : decode cL_act 191 = .ok (.bipush 15, 2) := by decide +kernel
theorem dL_act_193 : decode cL_act 193 = .ok (.irem, 1) := by decide +kernel
theorem dL_act_194 : decode cL_act 194 = .ok (.iadd, 1) := by decide +kernel
theorem dL_act_195 : decode cL_act 195 = .ok (.aload_n 0, 1) := by decide +kernel
theorem dL_act_196 : decode cL_act 196 = .ok (.invokevirtual 200, 3) := by decide +kernel
theorem dL_act_199 : decode cL_act 199 = .ok (.iload 7, 2) := by decide +kernel
theorem dL_act_201 : decode cL_act 201 = .ok (.iconst 3, 1) := by decide +kernel
theorem dL_act_202 : decode cL_act 202 = .ok (.irem, 1) := by decide +kernel
theorem dL_act_203 : decode cL_act 203 = .ok (.iadd, 1) := by decide +kernel
theorem dL_act_204 : decode cL_act 204 = .ok (.iconst 1, 1) := by decide +kernel
theorem dL_act_205 : decode cL_act 205 = .ok (.iload 7, 2) := by decide +kernel
theorem dL_act_207 : decode cL_act 207 = .ok (.iconst 4, 1) := by decide +kernel
theorem dL_act_208 : decode cL_act 208 = .ok (.idiv, 1) := by decide +kernel
theorem dL_act_209 : decode cL_act 209 = .ok (.bipush 14, 2) := by decide +kernel
theorem dL_act_211 : decode cL_act 211 = .ok (.irem, 1) := by decide +kernel
theorem dL_act_212 : decode cL_act 212 = .ok (.iadd, 1) := by decide +kernel
theorem dL_act_213 : decode cL_act 213 = .ok (.iload 7, 2) := by decide +kernel
theorem dL_act_215 : decode cL_act 215 = .ok (.bipush 64, 2) := by decide +kernel
theorem dL_act_217 : decode cL_act 217 = .ok (.idiv, 1) := by decide +kernel
theorem dL_act_218 : decode cL_act 218 = .ok (.iconst 2, 1) := by decide +kernel
theorem dL_act_219 : decode cL_act 219 = .ok (.irem, 1) := by decide +kernel
theorem dL_act_220 : decode cL_act 220 = .ok (.invokestatic 203, 3) := by decide +kernel
theorem dL_act_223 : decode cL_act 223 = .ok (.pop, 1) := by decide +kernel
theorem dL_act_224 : decode cL_act 224 = .ok (.goto 307, 3) := by decide +kernel
theorem dL_act_227 : decode cL_act 227 = .ok (.aload_n 0, 1) := by decide +kernel
theorem dL_act_228 : decode cL_act 228 = .ok (.iload 5, 2) := by decide +kernel
theorem dL_act_230 : decode cL_act 230 = .ok (.iload 6, 2) := by decide +kernel
theorem dL_act_232 : decode cL_act 232 = .ok (.invokestatic 206, 3) := by decide +kernel
theorem dL_act_235 : decode cL_act 235 = .ok (.pop, 1) := by decide +kernel
theorem dL_act_236 : decode cL_act 236 = .ok (.goto 295, 3) := by decide +kernel
theorem dL_act_239 : decode cL_act 239 = .ok (.aload_n 0, 1) := by decide +kernel
theorem dL_act_240 : decode cL_act 240 = .ok (.iload 5, 2) := by decide +kernel
theorem dL_act_242 : decode cL_act 242 = .ok (.iload 6, 2) := by decide +kernel
theorem dL_act_244 : decode cL_act 244 = .ok (.invokestatic 206, 3) := by decide +kernel
theorem dL_act_247 : decode cL_act 247 = .ok (.pop, 1) := by decide +kernel
theorem dL_act_248 : decode cL_act 248 = .ok (.aload_n 0, 1) := by decide +kernel
theorem dL_act_249 : decode cL_act 249 = .ok (.iload 5, 2) := by decide +kernel
theorem dL_act_251 : decode cL_act 251 = .ok (.iconst 1, 1) := by decide +kernel
theorem dL_act_252 : decode cL_act 252 = .ok (.iload 7, 2) := by decide +kernel
theorem dL_act_254 : decode cL_act 254 = .ok (.bipush 9, 2) := by decide +kernel
theorem dL_act_256 : decode cL_act 256 = .ok (.irem, 1) := by decide +kernel
theorem dL_act_257 : decode cL_act 257 = .ok (.iadd, 1) := by decide +kernel
theorem dL_act_258 : decode cL_act 258 = .ok (.invokestatic 209, 3) := by decide +kernel
theorem dL_act_261 : decode cL_act 261 = .ok (.pop, 1) := by decide +kernel
theorem dL_act_262 : decode cL_act 262 = .ok (.goto 269, 3) := by decide +kernel
theorem dL_act_265 : decode cL_act 265 = .ok (.aload_n 0, 1) := by decide +kernel
theorem dL_act_266 : decode cL_act 266 = .ok (.iload 5, 2) := by decide +kernel
theorem dL_act_268 : decode cL_act 268 = .ok (.iconst 1, 1) := by decide +kernel
theorem dL_act_269 : decode cL_act 269 = .ok (.iload 7, 2) := by decide +kernel
theorem dL_act_271 : decode cL_act 271 = .ok (.bipush 9, 2) := by decide +kernel
theorem dL_act_273 : decode cL_act 273 = .ok (.irem, 1) := by decide +kernel
theorem dL_act_274 : decode cL_act 274 = .ok (.iadd, 1) := by decide +kernel
theorem dL_act_275 : decode cL_act 275 = .ok (.invokestatic 209, 3) := by decide +kernel
theorem dL_act_278 : decode cL_act 278 = .ok (.pop, 1) := by decide +kernel
theorem dL_act_279 : decode cL_act 279 = .ok (.goto 252, 3) := by decide +kernel
theorem dL_act_282 : decode cL_act 282 = .ok (.aload_n 0, 1) := by decide +kernel
theorem dL_act_283 : decode cL_act 283 = .ok (.iconst 1, 1) := by decide +kernel
theorem dL_act_284 : decode cL_act 284 = .ok (.iload 7, 2) := by decide +kernel
theorem dL_act_286 : decode cL_act 286 = .ok (.iconst 4, 1) := by decide +kernel
theorem dL_act_287 : decode cL_act 287 = .ok (.irem, 1) := by decide +kernel
theorem dL_act_288 : decode cL_act 288 = .ok (.iadd, 1) := by decide +kernel
theorem dL_act_289 : decode cL_act 289 = .ok (.invokestatic 211, 3) := by decide +kernel
theorem dL_act_292 : decode cL_act 292 = .ok (.pop, 1) := by decide +kernel
theorem dL_act_293 : decode cL_act 293 = .ok (.goto 238, 3) := by decide +kernel
theorem dL_act_296 : decode cL_act 296 = .ok (.aload_n 0, 1) := by decide +kernel
theorem dL_act_297 : decode cL_act 297 = .ok (.iconst 1, 1) := by decide +kernel
theorem dL_act_298 : decode cL_act 298 = .ok (.iload 7, 2) := by decide +kernel
theorem dL_act_300 : decode cL_act 300 = .ok (.bipush 40, 2) := by decide +kernel
theorem dL_act_302 : decode cL_act 302 = .ok (.irem, 1) := by decide +kernel
theorem dL_act_303 : decode cL_act 303 = .ok (.iadd, 1) := by decide +kernel
theorem dL_act_304 : decode cL_act 304 = .ok (.invokestatic 211, 3) := by decide +kernel
theorem dL_act_307 : decode cL_act 307 = .ok (.pop, 1) := by decide +kernel
theorem dL_act_308 : decode cL_act 308 = .ok (.goto 223, 3) := by decide +kernel
theorem dL_act_311 : decode cL_act 311 = .ok (.aload_n 0, 1) := by decide +kernel
theorem dL_act_312 : decode cL_act 312 = .ok (.iconst 1, 1) := by decide +kernel
theorem dL_act_313 : decode cL_act 313 = .ok (.iload 7, 2) := by decide +kernel
theorem dL_act_315 : decode cL_act 315 = .ok (.sipush 150, 3) := by decide +kernel
theorem dL_act_318 : decode cL_act 318 = .ok (.irem, 1) := by decide +kernel
theorem dL_act_319 : decode cL_act 319 = .ok (.iadd, 1) := by decide +kernel
theorem dL_act_320 : decode cL_act 320 = .ok (.invokestatic 211, 3) := by decide +kernel
theorem dL_act_323 : decode cL_act 323 = .ok (.pop, 1) := by decide +kernel
theorem dL_act_324 : decode cL_act 324 = .ok (.goto 207, 3) := by decide +kernel
theorem dL_act_327 : decode cL_act 327 = .ok (.aload_n 0, 1) := by decide +kernel
theorem dL_act_328 : decode cL_act 328 = .ok (.iload 4, 2) := by decide +kernel
theorem dL_act_330 : decode cL_act 330 = .ok (.invokestatic 214, 3) := by decide +kernel
theorem dL_act_333 : decode cL_act 333 = .ok (.pop, 1) := by decide +kernel
theorem dL_act_334 : decode cL_act 334 = .ok (.goto 197, 3) := by decide +kernel
theorem dL_act_337 : decode cL_act 337 = .ok (.aload_n 0, 1) := by decide +kernel
theorem dL_act_338 : decode cL_act 338 = .ok (.iload 4, 2) := by decide +kernel
theorem dL_act_340 : decode cL_act 340 = .ok (.invokestatic 216, 3) := by decide +kernel
theorem dL_act_343 : decode cL_act 343 = .ok (.pop, 1) := by decide +kernel
theorem dL_act_344 : decode cL_act 344 = .ok (.goto 187, 3) := by decide +kernel
theorem dL_act_347 : decode cL_act 347 = .ok (.aload_n 0, 1) := by decide +kernel
theorem dL_act_348 : decode cL_act 348 = .ok (.iload 4, 2) := by decide +kernel
theorem dL_act_350 : decode cL_act 350 = .ok (.invokestatic 218, 3) := by decide +kernel
theorem dL_act_353 : decode cL_act 353 = .ok (.pop, 1) := by decide +kernel
theorem dL_act_354 : decode cL_act 354 = .ok (.goto 177, 3) := by decide +kernel
theorem dL_act_357 : decode cL_act 357 = .ok (.aload_n 0, 1) := by decide +kernel
theorem dL_act_358 : decode cL_act 358 = .ok (.iload 4, 2) := by decide +kernel
theorem dL_act_360 : decode cL_act 360 = .ok (.iconst 1, 1) := by decide +kernel
theorem dL_act_361 : decode cL_act 361 = .ok (.iload 7, 2) := by decide +kernel
theorem dL_act_363 : decode cL_act 363 = .ok (.bipush 6, 2) := by decide +kernel
theorem dL_act_365 : decode cL_act 365 = .ok (.irem, 1) := by decide +kernel
theorem dL_act_366 : decode cL_act 366 = .ok (.iadd, 1) := by decide +kernel
theorem dL_act_367 : decode cL_act 367 = .ok (.invokestatic 220, 3) := by decide +kernel
theorem dL_act_370 : decode cL_act 370 = .ok (.pop, 1) := by decide +kernel
theorem dL_act_371 : decode cL_act 371 = .ok (.goto 160, 3) := by decide +kernel
theorem dL_act_374 : decode cL_act 374 = .ok (.aload_n 0, 1) := by decide +kernel
theorem dL_act_375 : decode cL_act 375 = .ok (.iload 4, 2) := by decide +kernel
theorem dL_act_377 : decode cL_act 377 = .ok (.iload 7, 2) := by decide +kernel
theorem dL_act_379 : decode cL_act 379 = .ok (.iconst 5, 1) := by decide +kernel
theorem dL_act_380 : decode cL_act 380 = .ok (.irem, 1) := by decide +kernel
theorem dL_act_381 : decode cL_act 381 = .ok (.invokestatic 222, 3) := by decide +kernel
theorem dL_act_384 : decode cL_act 384 = .ok (.pop, 1) := by decide +kernel
theorem dL_act_385 : decode cL_act 385 = .ok (.goto 146, 3) := by decide +kernel
theorem dL_act_388 : decode cL_act 388 = .ok (.aload_n 0, 1) := by decide +kernel
theorem dL_act_389 : decode cL_act 389 = .ok (.iload 4, 2) := by decide +kernel
theorem dL_act_391 : decode cL_act 391 = .ok (.iconst 1, 1) := by decide +kernel
theorem dL_act_392 : decode cL_act 392 = .ok (.iload 7, 2) := by decide +kernel
theorem dL_act_394 : decode cL_act 394 = .ok (.bipush 30, 2) := by decide +kernel
theorem dL_act_396 : decode cL_act 396 = .ok (.irem, 1) := by decide +kernel
theorem dL_act_397 : decode cL_act 397 = .ok (.iadd, 1) := by decide +kernel
theorem dL_act_398 : decode cL_act 398 = .ok (.invokestatic 224, 3) := by decide +kernel
theorem dL_act_401 : decode cL_act 401 = .ok (.pop, 1) := by decide +kernel
theorem dL_act_402 : decode cL_act 402 = .ok (.goto 129, 3) := by decide +kernel
theorem dL_act_405 : decode cL_act 405 = .ok (.iload 7, 2) := by decide +kernel
theorem dL_act_407 : decode cL_act 407 = .ok (.iconst 2, 1) := by decide +kernel
theorem dL_act_408 : decode cL_act 408 = .ok (.irem, 1) := by decide +kernel
theorem dL_act_409 : decode cL_act 409 = .ok (.ifCond .ne 27, 3) := by decide +kernel
theorem dL_act_412 : decode cL_act 412 = .ok (.aload_n 0, 1) := by decide +kernel
theorem dL_act_413 : decode cL_act 413 = .ok (.iload 7, 2) := by decide +kernel
theorem dL_act_415 : decode cL_act 415 = .ok (.iconst 2, 1) := by decide +kernel
theorem dL_act_416 : decode cL_act 416 = .ok (.idiv, 1) := by decide +kernel
theorem dL_act_417 : decode cL_act 417 = .ok (.iconst 4, 1) := by decide +kernel
theorem dL_act_418 : decode cL_act 418 = .ok (.irem, 1) := by decide +kernel
theorem dL_act_419 : decode cL_act 419 = .ok (.iconst 1, 1) := by decide +kernel
theorem dL_act_420 : decode cL_act 420 = .ok (.iload 7, 2) := by decide +kernel
theorem dL_act_422 : decode cL_act 422 = .ok (.bipush 16, 2) := by decide +kernel
theorem dL_act_424 : decode cL_act 424 = .ok (.idiv, 1) := by decide +kernel
theorem dL_act_425 : decode cL_act 425 = .ok (.bipush 99, 2) := by decide +kernel
theorem dL_act_427 : decode cL_act 427 = .ok (.irem, 1) := by decide +kernel
theorem dL_act_428 : decode cL_act 428 = .ok (.iadd, 1) := by decide +kernel
theorem dL_act_429 : decode cL_act 429 = .ok (.invokestatic 226, 3) := by decide +kernel
theorem dL_act_432 : decode cL_act 432 = .ok (.pop, 1) := by decide +kernel
theorem dL_act_433 : decode cL_act 433 = .ok (.goto 98, 3) := by decide +kernel
theorem dL_act_436 : decode cL_act 436 = .ok (.aload_n 0, 1) := by decide +kernel
theorem dL_act_437 : decode cL_act 437 = .ok (.iconst 1, 1) := by decide +kernel
theorem dL_act_438 : decode cL_act 438 = .ok (.iload 7, 2) := by decide +kernel
theorem dL_act_440 : decode cL_act 440 = .ok (.iconst 2, 1) := by decide +kernel
theorem dL_act_441 : decode cL_act 441 = .ok (.idiv, 1) := by decide +kernel
theorem dL_act_442 : decode cL_act 442 = .ok (.bipush 20, 2) := by decide +kernel
theorem dL_act_444 : decode cL_act 444 = .ok (.irem, 1) := by decide +kernel
theorem dL_act_445 : decode cL_act 445 = .ok (.iadd, 1) := by decide +kernel
theorem dL_act_446 : decode cL_act 446 = .ok (.invokestatic 228, 3) := by decide +kernel
theorem dL_act_449 : decode cL_act 449 = .ok (.pop, 1) := by decide +kernel
theorem dL_act_450 : decode cL_act 450 = .ok (.goto 81, 3) := by decide +kernel
theorem dL_act_453 : decode cL_act 453 = .ok (.aload_n 0, 1) := by decide +kernel
theorem dL_act_454 : decode cL_act 454 = .ok (.bipush 40, 2) := by decide +kernel
theorem dL_act_456 : decode cL_act 456 = .ok (.iload 7, 2) := by decide +kernel
theorem dL_act_458 : decode cL_act 458 = .ok (.bipush 20, 2) := by decide +kernel
theorem dL_act_460 : decode cL_act 460 = .ok (.irem, 1) := by decide +kernel
theorem dL_act_461 : decode cL_act 461 = .ok (.iadd, 1) := by decide +kernel
theorem dL_act_462 : decode cL_act 462 = .ok (.bipush 60, 2) := by decide +kernel
theorem dL_act_464 : decode cL_act 464 = .ok (.iload 7, 2) := by decide +kernel
theorem dL_act_466 : decode cL_act 466 = .ok (.bipush 32, 2) := by decide +kernel
theorem dL_act_468 : decode cL_act 468 = .ok (.idiv, 1) := by decide +kernel
theorem dL_act_469 : decode cL_act 469 = .ok (.bipush 12, 2) := by decide +kernel
theorem dL_act_471 : decode cL_act 471 = .ok (.irem, 1) := by decide +kernel
theorem dL_act_472 : decode cL_act 472 = .ok (.iadd, 1) := by decide +kernel
theorem dL_act_473 : decode cL_act 473 = .ok (.invokestatic 230, 3) := by decide +kernel
theorem dL_act_476 : decode cL_act 476 = .ok (.pop, 1) := by decide +kernel
theorem dL_act_477 : decode cL_act 477 = .ok (.goto 54, 3) := by decide +kernel
theorem dL_act_480 : decode cL_act 480 = .ok (.aload_n 0, 1) := by decide +kernel
theorem dL_act_481 : decode cL_act 481 = .ok (.iload 7, 2) := by decide +kernel
theorem dL_act_483 : decode cL_act 483 = .ok (.bipush 9, 2) := by decide +kernel
theorem dL_act_485 : decode cL_act 485 = .ok (.irem, 1) := by decide +kernel
theorem dL_act_486 : decode cL_act 486 = .ok (.invokestatic 232, 3) := by decide +kernel
theorem dL_act_489 : decode cL_act 489 = .ok (.pop, 1) := by decide +kernel
theorem dL_act_490 : decode cL_act 490 = .ok (.goto 41, 3) := by decide +kernel
theorem dL_act_493 : decode cL_act 493 = .ok (.aload_n 0, 1) := by decide +kernel
theorem dL_act_494 : decode cL_act 494 = .ok (.iload 7, 2) := by decide +kernel
theorem dL_act_496 : decode cL_act 496 = .ok (.iconst 4, 1) := by decide +kernel
theorem dL_act_497 : decode cL_act 497 = .ok (.irem, 1) := by decide +kernel
theorem dL_act_498 : decode cL_act 498 = .ok (.iconst 1, 1) := by decide +kernel
theorem dL_act_499 : decode cL_act 499 = .ok (.iload 7, 2) := by decide +kernel
theorem dL_act_501 : decode cL_act 501 = .ok (.iconst 4, 1) := by decide +kernel
theorem dL_act_502 : decode cL_act 502 = .ok (.idiv, 1) := by decide +kernel
theorem dL_act_503 : decode cL_act 503 = .ok (.iconst 3, 1) := by decide +kernel
theorem dL_act_504 : decode cL_act 504 = .ok (.irem, 1) := by decide +kernel
theorem dL_act_505 : decode cL_act 505 = .ok (.iadd, 1) := by decide +kernel
theorem dL_act_506 : decode cL_act 506 = .ok (.aload_n 0, 1) := by decide +kernel
theorem dL_act_507 : decode cL_act 507 = .ok (.invokevirtual 200, 3) := by decide +kernel
theorem dL_act_510 : decode cL_act 510 = .ok (.bipush 99, 2) := by decide +kernel
theorem dL_act_512 : decode cL_act 512 = .ok (.aload_n 0, 1) := by decide +kernel
theorem dL_act_513 : decode cL_act 513 = .ok (.invokevirtual 200, 3) := by decide +kernel
theorem dL_act_516 : decode cL_act 516 = .ok (.iload 7, 2) := by decide +kernel
theorem dL_act_518 : decode cL_act 518 = .ok (.bipush 16, 2) := by decide +kernel
theorem dL_act_520 : decode cL_act 520 = .ok (.idiv, 1) := by decide +kernel
theorem dL_act_521 : decode cL_act 521 = .ok (.iconst 5, 1) := by decide +kernel
theorem dL_act_522 : decode cL_act 522 = .ok (.irem, 1) := by decide +kernel
theorem dL_act_523 : decode cL_act 523 = .ok (.iadd, 1) := by decide +kernel
theorem dL_act_524 : decode cL_act 524 = .ok (.invokestatic 234, 3) := by decide +kernel
theorem dL_act_527 : decode cL_act 527 = .ok (.invokestatic 237, 3) := by decide +kernel
theorem dL_act_530 : decode cL_act 530 = .ok (.pop, 1) := by decide +kernel
theorem dL_act_531 : decode cL_act 531 = .ok (.return_, 1) := by decide +kernel
theorem dL_law_0 : decode cL_law 0 = .ok (.new 20, 3) := by decide +kernel
theorem dL_law_3 : decode cL_law 3 = .ok (.dup, 1) := by decide +kernel
theorem dL_law_4 : decode cL_law 4 = .ok (.invokespecial 313, 3) := by decide +kernel
theorem dL_law_7 : decode cL_law 7 = .ok (.astore_n 1, 1) := by decide +kernel
theorem dL_law_8 : decode cL_law 8 = .ok (.aload_n 1, 1) := by decide +kernel
theorem dL_law_9 : decode cL_law 9 = .ok (.invokestatic 314, 3) := by decide +kernel
theorem dL_law_12 : decode cL_law 12 = .ok (.ifCond .eq 30, 3) := by decide +kernel
theorem dL_law_15 : decode cL_law 15 = .ok (.aload_n 1, 1) := by decide +kernel
theorem dL_law_16 : decode cL_law 16 = .ok (.iconst 1, 1) := by decide +kernel
theorem dL_law_17 : decode cL_law 17 = .ok (.iconst 0, 1) := by decide +kernel
theorem dL_law_18 : decode cL_law 18 = .ok (.invokestatic 318, 3) := by decide +kernel
theorem dL_law_21 : decode cL_law 21 = .ok (.ifCond .eq 21, 3) := by decide +kernel
theorem dL_law_24 : decode cL_law 24 = .ok (.aload_n 1, 1) := by decide +kernel
theorem dL_law_25 : decode cL_law 25 = .ok (.iconst 5, 1) := by decide +kernel
theorem dL_law_26 : decode cL_law 26 = .ok (.bipush 100, 2) := by decide +kernel
theorem dL_law_28 : decode cL_law 28 = .ok (.invokestatic 322, 3) := by decide +kernel
theorem dL_law_31 : decode cL_law 31 = .ok (.ifCond .eq 11, 3) := by decide +kernel
theorem dL_law_34 : decode cL_law 34 = .ok (.aload_n 1, 1) := by decide +kernel
theorem dL_law_35 : decode cL_law 35 = .ok (.aload_n 0, 1) := by decide +kernel
theorem dL_law_36 : decode cL_law 36 = .ok (.invokestatic 325, 3) := by decide +kernel
theorem dL_law_39 : decode cL_law 39 = .ok (.ifCond .eq 5, 3) := by decide +kernel
theorem dL_law_42 : decode cL_law 42 = .ok (.iconst 0, 1) := by decide +kernel
theorem dL_law_43 : decode cL_law 43 = .ok (.ireturn, 1) := by decide +kernel
theorem dL_law_44 : decode cL_law 44 = .ok (.bipush 10, 2) := by decide +kernel
theorem dL_law_46 : decode cL_law 46 = .ok (.istore_n 2, 1) := by decide +kernel
theorem dL_law_47 : decode cL_law 47 = .ok (.iload_n 2, 1) := by decide +kernel
theorem dL_law_48 : decode cL_law 48 = .ok (.bipush 70, 2) := by decide +kernel
theorem dL_law_50 : decode cL_law 50 = .ok (.if_icmp .ge 104, 3) := by decide +kernel
theorem dL_law_53 : decode cL_law 53 = .ok (.aload_n 1, 1) := by decide +kernel
theorem dL_law_54 : decode cL_law 54 = .ok (.aload_n 0, 1) := by decide +kernel
theorem dL_law_55 : decode cL_law 55 = .ok (.iload_n 2, 1) := by decide +kernel
theorem dL_law_56 : decode cL_law 56 = .ok (.invokestatic 329, 3) := by decide +kernel
theorem dL_law_59 : decode cL_law 59 = .ok (.aload_n 0, 1) := by decide +kernel
theorem dL_law_60 : decode cL_law 60 = .ok (.iload_n 2, 1) := by decide +kernel
theorem dL_law_61 : decode cL_law 61 = .ok (.invokestatic 7, 3) := by decide +kernel
theorem dL_law_64 : decode cL_law 64 = .ok (.iconst 5, 1) := by decide +kernel
theorem dL_law_65 : decode cL_law 65 = .ok (.ishr, 1) := by decide +kernel
theorem dL_law_66 : decode cL_law 66 = .ok (.ldc_w 333, 3) := by decide +kernel
theorem dL_law_69 : decode cL_law 69 = .ok (.iand, 1) := by decide +kernel
theorem dL_law_70 : decode cL_law 70 = .ok (.istore_n 3, 1) := by decide +kernel
theorem dL_law_71 : decode cL_law 71 = .ok (.aload_n 1, 1) := by decide +kernel
theorem dL_law_72 : decode cL_law 72 = .ok (.invokestatic 314, 3) := by decide +kernel
theorem dL_law_75 : decode cL_law 75 = .ok (.ifCond .ne 5, 3) := by decide +kernel
theorem dL_law_78 : decode cL_law 78 = .ok (.iconst 0, 1) := by decide +kernel
theorem dL_law_79 : decode cL_law 79 = .ok (.ireturn, 1) := by decide +kernel
theorem dL_law_80 : decode cL_law 80 = .ok (.aload_n 1, 1) := by decide +kernel
theorem dL_law_81 : decode cL_law 81 = .ok (.invokevirtual 194, 3) := by decide +kernel
theorem dL_law_84 : decode cL_law 84 = .ok (.ifCond .le 27, 3) := by decide +kernel
theorem dL_law_87 : decode cL_law 87 = .ok (.aload_n 1, 1) := by decide +kernel
theorem dL_law_88 : decode cL_law 88 = .ok (.iload_n 3, 1) := by decide +kernel
theorem dL_law_89 : decode cL_law 89 = .ok (.aload_n 1, 1) := by decide +kernel
theorem dL_law_90 : decode cL_law 90 = .ok (.invokevirtual 194, 3) := by decide +kernel
theorem dL_law_93 : decode cL_law 93 = .ok (.irem, 1) := by decide +kernel
theorem dL_law_94 : decode cL_law 94 = .ok (.iload_n 3, 1) := by decide +kernel
theorem dL_law_95 : decode cL_law 95 = .ok (.bipush 64, 2) := by decide +kernel
theorem dL_law_97 : decode cL_law 97 = .ok (.idiv, 1) := by decide +kernel
theorem dL_law_98 : decode cL_law 98 = .ok (.aload_n 1, 1) := by decide +kernel
theorem dL_law_99 : decode cL_law 99 = .ok (.invokevirtual 197, 3) := by decide +kernel
theorem dL_law_102 : decode cL_law 102 = .ok (.irem, 1) := by decide +kernel
theorem dL_law_103 : decode cL_law 103 = .ok (.invokestatic 318, 3) := by decide +kernel
theorem dL_law_106 : decode cL_law 106 = .ok (.ifCond .ne 5, 3) := by decide +kernel
theorem dL_law_109 : decode cL_law 109 = .ok (.iconst 0, 1) := by decide +kernel
theorem dL_law_110 : decode cL_law 110 = .ok (.ireturn, 1) := by decide +kernel
theorem dL_law_111 : decode cL_law 111 = .ok (.iload_n 2, 1) := by decide +kernel
theorem dL_law_112 : decode cL_law 112 = .ok (.bipush 6, 2) := by decide +kernel
theorem dL_law_114 : decode cL_law 114 = .ok (.irem, 1) := by decide +kernel
theorem dL_law_115 : decode cL_law 115 = .ok (.iconst 4, 1) := by decide +kernel
theorem dL_law_116 : decode cL_law 116 = .ok (.if_icmp .ne 32, 3) := by decide +kernel
theorem dL_law_119 : decode cL_law 119 = .ok (.aload_n 1, 1) := by decide +kernel
theorem dL_law_120 : decode cL_law 120 = .ok (.iconst 1, 1) := by decide +kernel
theorem dL_law_121 : decode cL_law 121 = .ok (.iload_n 3, 1) := by decide +kernel
theorem dL_law_122 : decode cL_law 122 = .ok (.bipush 8, 2) := by decide +kernel
theorem dL_law_124 : decode cL_law 124 = .ok (.idiv, 1) := by decide +kernel
theorem dL_law_125 : decode cL_law 125 = .ok (.bipush 30, 2) := by decide +kernel
theorem dL_law_127 : decode cL_law 127 = .ok (.irem, 1) := by decide +kernel
theorem dL_law_128 : decode cL_law 128 = .ok (.iadd, 1) := by decide +kernel
theorem dL_law_129 : decode cL_law 129 = .ok (.iconst 1, 1) := by decide +kernel
theorem dL_law_130 : decode cL_law 130 = .ok (.iload_n 3, 1) := by decide +kernel
theorem dL_law_131 : decode cL_law 131 = .ok (.sipush 256, 3) := by decide +kernel
theorem dL_law_134 : decode cL_law 134 = .ok (.idiv, 1) := by decide +kernel
theorem dL_law_135 : decode cL_law 135 = .ok (.sipush 200, 3) := by decide +kernel
theorem dL_law_138 : decode cL_law 138 = .ok (.irem, 1) := by decide +kernel
theorem dL_law_139 : decode cL_law 139 = .ok (.iadd, 1) := by decide +kernel
theorem dL_law_140 : decode cL_law 140 = .ok (.invokestatic 322, 3) := by decide +kernel
theorem dL_law_143 : decode cL_law 143 = .ok (.ifCond .ne 5, 3) := by decide +kernel
theorem dL_law_146 : decode cL_law 146 = .ok (.iconst 0, 1) := by decide +kernel
theorem dL_law_147 : decode cL_law 147 = .ok (.ireturn, 1) := by decide +kernel
theorem dL_law_148 : decode cL_law 148 = .ok (.iinc 2 2, 3) := by decide +kernel
theorem dL_law_151 : decode cL_law 151 = .ok (.goto (-104), 3) := by decide +kernel
theorem dL_law_154 : decode cL_law 154 = .ok (.iconst 1, 1) := by decide +kernel
theorem dL_law_155 : decode cL_law 155 = .ok (.ireturn, 1) := by decide +kernel
