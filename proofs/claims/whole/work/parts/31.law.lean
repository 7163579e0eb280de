theorem dL_law_0 : decode cL_law 0 = .ok (.new 7, 3) := by decide +kernel
theorem dL_law_3 : decode cL_law 3 = .ok (.dup, 1) := by decide +kernel
theorem dL_law_4 : decode cL_law 4 = .ok (.invokespecial 9, 3) := by decide +kernel
theorem dL_law_7 : decode cL_law 7 = .ok (.astore_n 1, 1) := by decide +kernel
theorem dL_law_8 : decode cL_law 8 = .ok (.new 10, 3) := by decide +kernel
theorem dL_law_11 : decode cL_law 11 = .ok (.dup, 1) := by decide +kernel
theorem dL_law_12 : decode cL_law 12 = .ok (.invokespecial 12, 3) := by decide +kernel
theorem dL_law_15 : decode cL_law 15 = .ok (.astore_n 2, 1) := by decide +kernel
theorem dL_law_16 : decode cL_law 16 = .ok (.iconst 0, 1) := by decide +kernel
theorem dL_law_17 : decode cL_law 17 = .ok (.istore_n 3, 1) := by decide +kernel
theorem dL_law_18 : decode cL_law 18 = .ok (.iload_n 3, 1) := by decide +kernel
theorem dL_law_19 : decode cL_law 19 = .ok (.aload_n 0, 1) := by decide +kernel
theorem dL_law_20 : decode cL_law 20 = .ok (.arraylength, 1) := by decide +kernel
theorem dL_law_21 : decode cL_law 21 = .ok (.iconst 5, 1) := by decide +kernel
theorem dL_law_22 : decode cL_law 22 = .ok (.isub, 1) := by decide +kernel
theorem dL_law_23 : decode cL_law 23 = .ok (.if_icmp .gt 1184, 3) := by decide +kernel
theorem dL_law_26 : decode cL_law 26 = .ok (.aload_n 0, 1) := by decide +kernel
theorem dL_law_27 : decode cL_law 27 = .ok (.iload_n 3, 1) := by decide +kernel
theorem dL_law_28 : decode cL_law 28 = .ok (.iaload, 1) := by decide +kernel
theorem dL_law_29 : decode cL_law 29 = .ok (.bipush 63, 2) := by decide +kernel
theorem dL_law_31 : decode cL_law 31 = .ok (.iand, 1) := by decide +kernel
theorem dL_law_32 : decode cL_law 32 = .ok (.tableswitch 1169 0 35 #[160, 213, 226, 249, 262, 275, 288, 311, 344, 377, 420, 453, 486, 499, 532, 555, 598, 631, 664, 707, 740, 763, 786, 819, 832, 845, 888, 921, 934, 987, 1030, 1063, 1106, 1119, 1132, 1155], 160) := by decide +kernel
theorem dL_law_192 : decode cL_law 192 = .ok (.aload_n 1, 1) := by decide +kernel
theorem dL_law_193 : decode cL_law 193 = .ok (.aload_n 0, 1) := by decide +kernel
theorem dL_law_194 : decode cL_law 194 = .ok (.iload_n 3, 1) := by decide +kernel
theorem dL_law_195 : decode cL_law 195 = .ok (.iconst 1, 1) := by decide +kernel
theorem dL_law_196 : decode cL_law 196 = .ok (.iadd, 1) := by decide +kernel
theorem dL_law_197 : decode cL_law 197 = .ok (.iaload, 1) := by decide +kernel
theorem dL_law_198 : decode cL_law 198 = .ok (.i2l, 1) := by decide +kernel
theorem dL_law_199 : decode cL_law 199 = .ok (.bipush 32, 2) := by decide +kernel
theorem dL_law_201 : decode cL_law 201 = .ok (.lshl, 1) := by decide +kernel
theorem dL_law_202 : decode cL_law 202 = .ok (.aload_n 0, 1) := by decide +kernel
theorem dL_law_203 : decode cL_law 203 = .ok (.iload_n 3, 1) := by decide +kernel
theorem dL_law_204 : decode cL_law 204 = .ok (.iconst 2, 1) := by decide +kernel
theorem dL_law_205 : decode cL_law 205 = .ok (.iadd, 1) := by decide +kernel
theorem dL_law_206 : decode cL_law 206 = .ok (.iaload, 1) := by decide +kernel
theorem dL_law_207 : decode cL_law 207 = .ok (.i2l, 1) := by decide +kernel
theorem dL_law_208 : decode cL_law 208 = .ok (.ldc2_w 13, 3) := by decide +kernel
theorem dL_law_211 : decode cL_law 211 = .ok (.land, 1) := by decide +kernel
theorem dL_law_212 : decode cL_law 212 = .ok (.lor, 1) := by decide +kernel
theorem dL_law_213 : decode cL_law 213 = .ok (.invokevirtual 15, 3) := by decide +kernel
theorem dL_law_216 : decode cL_law 216 = .ok (.aload_n 2, 1) := by decide +kernel
theorem dL_law_217 : decode cL_law 217 = .ok (.aload_n 0, 1) := by decide +kernel
theorem dL_law_218 : decode cL_law 218 = .ok (.iload_n 3, 1) := by decide +kernel
theorem dL_law_219 : decode cL_law 219 = .ok (.iconst 1, 1) := by decide +kernel
theorem dL_law_220 : decode cL_law 220 = .ok (.iadd, 1) := by decide +kernel
theorem dL_law_221 : decode cL_law 221 = .ok (.iaload, 1) := by decide +kernel
theorem dL_law_222 : decode cL_law 222 = .ok (.i2l, 1) := by decide +kernel
theorem dL_law_223 : decode cL_law 223 = .ok (.bipush 32, 2) := by decide +kernel
theorem dL_law_225 : decode cL_law 225 = .ok (.lshl, 1) := by decide +kernel
theorem dL_law_226 : decode cL_law 226 = .ok (.aload_n 0, 1) := by decide +kernel
theorem dL_law_227 : decode cL_law 227 = .ok (.iload_n 3, 1) := by decide +kernel
theorem dL_law_228 : decode cL_law 228 = .ok (.iconst 2, 1) := by decide +kernel
theorem dL_law_229 : decode cL_law 229 = .ok (.iadd, 1) := by decide +kernel
theorem dL_law_230 : decode cL_law 230 = .ok (.iaload, 1) := by decide +kernel
theorem dL_law_231 : decode cL_law 231 = .ok (.i2l, 1) := by decide +kernel
theorem dL_law_232 : decode cL_law 232 = .ok (.ldc2_w 13, 3) := by decide +kernel
theorem dL_law_235 : decode cL_law 235 = .ok (.land, 1) := by decide +kernel
theorem dL_law_236 : decode cL_law 236 = .ok (.lor, 1) := by decide +kernel
theorem dL_law_237 : decode cL_law 237 = .ok (.invokevirtual 19, 3) := by decide +kernel
theorem dL_law_240 : decode cL_law 240 = .ok (.if_icmp .eq 961, 3) := by decide +kernel
theorem dL_law_243 : decode cL_law 243 = .ok (.iconst 0, 1) := by decide +kernel
theorem dL_law_244 : decode cL_law 244 = .ok (.ireturn, 1) := by decide +kernel
theorem dL_law_245 : decode cL_law 245 = .ok (.aload_n 1, 1) := by decide +kernel
theorem dL_law_246 : decode cL_law 246 = .ok (.invokevirtual 20, 3) := by decide +kernel
theorem dL_law_249 : decode cL_law 249 = .ok (.aload_n 2, 1) := by decide +kernel
theorem dL_law_250 : decode cL_law 250 = .ok (.invokevirtual 24, 3) := by decide +kernel
theorem dL_law_253 : decode cL_law 253 = .ok (.if_icmp .eq 948, 3) := by decide +kernel
theorem dL_law_256 : decode cL_law 256 = .ok (.iconst 0, 1) := by decide +kernel
theorem dL_law_257 : decode cL_law 257 = .ok (.ireturn, 1) := by decide +kernel
theorem dL_law_258 : decode cL_law 258 = .ok (.aload_n 1, 1) := by decide +kernel
theorem dL_law_259 : decode cL_law 259 = .ok (.aload_n 0, 1) := by decide +kernel
theorem dL_law_260 : decode cL_law 260 = .ok (.iload_n 3, 1) := by decide +kernel
theorem dL_law_261 : decode cL_law 261 = .ok (.iconst 1, 1) := by decide +kernel
theorem dL_law_262 : decode cL_law 262 = .ok (.iadd, 1) := by decide +kernel
theorem dL_law_263 : decode cL_law 263 = .ok (.iaload, 1) := by decide +kernel
theorem dL_law_264 : decode cL_law 264 = .ok (.invokevirtual 25, 3) := by decide +kernel
theorem dL_law_267 : decode cL_law 267 = .ok (.aload_n 2, 1) := by decide +kernel
theorem dL_law_268 : decode cL_law 268 = .ok (.aload_n 0, 1) := by decide +kernel
theorem dL_law_269 : decode cL_law 269 = .ok (.iload_n 3, 1) := by decide +kernel
theorem dL_law_270 : decode cL_law 270 = .ok (.iconst 1, 1) := by decide +kernel
theorem dL_law_271 : decode cL_law 271 = .ok (.iadd, 1) := by decide +kernel
theorem dL_law_272 : decode cL_law 272 = .ok (.iaload, 1) := by decide +kernel
theorem dL_law_273 : decode cL_law 273 = .ok (.invokevirtual 29, 3) := by decide +kernel
theorem dL_law_276 : decode cL_law 276 = .ok (.if_icmp .eq 925, 3) := by decide +kernel
theorem dL_law_279 : decode cL_law 279 = .ok (.iconst 0, 1) := by decide +kernel
theorem dL_law_280 : decode cL_law 280 = .ok (.ireturn, 1) := by decide +kernel
theorem dL_law_281 : decode cL_law 281 = .ok (.aload_n 1, 1) := by decide +kernel
theorem dL_law_282 : decode cL_law 282 = .ok (.invokevirtual 30, 3) := by decide +kernel
theorem dL_law_285 : decode cL_law 285 = .ok (.aload_n 2, 1) := by decide +kernel
theorem dL_law_286 : decode cL_law 286 = .ok (.invokevirtual 33, 3) := by decide +kernel
theorem dL_law_289 : decode cL_law 289 = .ok (.if_icmp .eq 912, 3) := by decide +kernel
theorem dL_law_292 : decode cL_law 292 = .ok (.iconst 0, 1) := by decide +kernel
theorem dL_law_293 : decode cL_law 293 = .ok (.ireturn, 1) := by decide +kernel
theorem dL_law_294 : decode cL_law 294 = .ok (.aload_n 1, 1) := by decide +kernel
theorem dL_law_295 : decode cL_law 295 = .ok (.invokevirtual 34, 3) := by decide +kernel
theorem dL_law_298 : decode cL_law 298 = .ok (.aload_n 2, 1) := by decide +kernel
theorem dL_law_299 : decode cL_law 299 = .ok (.invokevirtual 37, 3) := by decide +kernel
theorem dL_law_302 : decode cL_law 302 = .ok (.if_icmp .eq 899, 3) := by decide +kernel
theorem dL_law_305 : decode cL_law 305 = .ok (.iconst 0, 1) := by decide +kernel
theorem dL_law_306 : decode cL_law 306 = .ok (.ireturn, 1) := by decide +kernel
theorem dL_law_307 : decode cL_law 307 = .ok (.aload_n 1, 1) := by decide +kernel
theorem dL_law_308 : decode cL_law 308 = .ok (.invokevirtual 38, 3) := by decide +kernel
theorem dL_law_311 : decode cL_law 311 = .ok (.aload_n 2, 1) := by decide +kernel
theorem dL_law_312 : decode cL_law 312 = .ok (.invokevirtual 41, 3) := by decide +kernel
theorem dL_law_315 : decode cL_law 315 = .ok (.if_icmp .eq 886, 3) := by decide +kernel
theorem dL_law_318 : decode cL_law 318 = .ok (.iconst 0, 1) := by decide +kernel
theorem dL_law_319 : decode cL_law 319 = .ok (.ireturn, 1) := by decide +kernel
theorem dL_law_320 : decode cL_law 320 = .ok (.aload_n 1, 1) := by decide +kernel
theorem dL_law_321 : decode cL_law 321 = .ok (.aload_n 0, 1) := by decide +kernel
theorem dL_law_322 : decode cL_law 322 = .ok (.iload_n 3, 1) := by decide +kernel
theorem dL_law_323 : decode cL_law 323 = .ok (.iconst 1, 1) := by decide +kernel
theorem dL_law_324 : decode cL_law 324 = .ok (.iadd, 1) := by decide +kernel
theorem dL_law_325 : decode cL_law 325 = .ok (.iaload, 1) := by decide +kernel
theorem dL_law_326 : decode cL_law 326 = .ok (.invokevirtual 42, 3) := by decide +kernel
theorem dL_law_329 : decode cL_law 329 = .ok (.aload_n 2, 1) := by decide +kernel
theorem dL_law_330 : decode cL_law 330 = .ok (.aload_n 0, 1) := by decide +kernel
theorem dL_law_331 : decode cL_law 331 = .ok (.iload_n 3, 1) := by decide +kernel
theorem dL_law_332 : decode cL_law 332 = .ok (.iconst 1, 1) := by decide +kernel
theorem dL_law_333 : decode cL_law 333 = .ok (.iadd, 1) := by decide +kernel
theorem dL_law_334 : decode cL_law 334 = .ok (.iaload, 1) := by decide +kernel
theorem dL_law_335 : decode cL_law 335 = .ok (.invokevirtual 45, 3) := by decide +kernel
theorem dL_law_338 : decode cL_law 338 = .ok (.if_icmp .eq 863, 3) := by decide +kernel
theorem dL_law_341 : decode cL_law 341 = .ok (.iconst 0, 1) := by decide +kernel
theorem dL_law_342 : decode cL_law 342 = .ok (.ireturn, 1) := by decide +kernel
theorem dL_law_343 : decode cL_law 343 = .ok (.aload_n 1, 1) := by decide +kernel
theorem dL_law_344 : decode cL_law 344 = .ok (.aload_n 0, 1) := by decide +kernel
theorem dL_law_345 : decode cL_law 345 = .ok (.iload_n 3, 1) := by decide +kernel
theorem dL_law_346 : decode cL_law 346 = .ok (.iconst 1, 1) := by decide +kernel
theorem dL_law_347 : decode cL_law 347 = .ok (.iadd, 1) := by decide +kernel
theorem dL_law_348 : decode cL_law 348 = .ok (.iaload, 1) := by decide +kernel
theorem dL_law_349 : decode cL_law 349 = .ok (.aload_n 0, 1) := by decide +kernel
theorem dL_law_350 : decode cL_law 350 = .ok (.iload_n 3, 1) := by decide +kernel
theorem dL_law_351 : decode cL_law 351 = .ok (.iconst 2, 1) := by decide +kernel
theorem dL_law_352 : decode cL_law 352 = .ok (.iadd, 1) := by decide +kernel
theorem dL_law_353 : decode cL_law 353 = .ok (.iaload, 1) := by decide +kernel
theorem dL_law_354 : decode cL_law 354 = .ok (.invokevirtual 46, 3) := by decide +kernel
theorem dL_law_357 : decode cL_law 357 = .ok (.aload_n 2, 1) := by decide +kernel
theorem dL_law_358 : decode cL_law 358 = .ok (.aload_n 0, 1) := by decide +kernel
theorem dL_law_359 : decode cL_law 359 = .ok (.iload_n 3, 1) := by decide +kernel
theorem dL_law_360 : decode cL_law 360 = .ok (.iconst 1, 1) := by decide +kernel
theorem dL_law_361 : decode cL_law 361 = .ok (.iadd, 1) := by decide +kernel
theorem dL_law_362 : decode cL_law 362 = .ok (.iaload, 1) := by decide +kernel
theorem dL_law_363 : decode cL_law 363 = .ok (.aload_n 0, 1) := by decide +kernel
theorem dL_law_364 : decode cL_law 364 = .ok (.iload_n 3, 1) := by decide +kernel
theorem dL_law_365 : decode cL_law 365 = .ok (.iconst 2, 1) := by decide +kernel
theorem dL_law_366 : decode cL_law 366 = .ok (.iadd, 1) := by decide +kernel
theorem dL_law_367 : decode cL_law 367 = .ok (.iaload, 1) := by decide +kernel
theorem dL_law_368 : decode cL_law 368 = .ok (.invokevirtual 50, 3) := by decide +kernel
theorem dL_law_371 : decode cL_law 371 = .ok (.if_icmp .eq 830, 3) := by decide +kernel
theorem dL_law_374 : decode cL_law 374 = .ok (.iconst 0, 1) := by decide +kernel
theorem dL_law_375 : decode cL_law 375 = .ok (.ireturn, 1) := by decide +kernel
theorem dL_law_376 : decode cL_law 376 = .ok (.aload_n 1, 1) := by decide +kernel
theorem dL_law_377 : decode cL_law 377 = .ok (.aload_n 0, 1) := by decide +kernel
theorem dL_law_378 : decode cL_law 378 = .ok (.iload_n 3, 1) := by decide +kernel
theorem dL_law_379 : decode cL_law 379 = .ok (.iconst 1, 1) := by decide +kernel
theorem dL_law_380 : decode cL_law 380 = .ok (.iadd, 1) := by decide +kernel
theorem dL_law_381 : decode cL_law 381 = .ok (.iaload, 1) := by decide +kernel
theorem dL_law_382 : decode cL_law 382 = .ok (.aload_n 0, 1) := by decide +kernel
theorem dL_law_383 : decode cL_law 383 = .ok (.iload_n 3, 1) := by decide +kernel
theorem dL_law_384 : decode cL_law 384 = .ok (.iconst 2, 1) := by decide +kernel
theorem dL_law_385 : decode cL_law 385 = .ok (.iadd, 1) := by decide +kernel
theorem dL_law_386 : decode cL_law 386 = .ok (.iaload, 1) := by decide +kernel
theorem dL_law_387 : decode cL_law 387 = .ok (.invokevirtual 51, 3) := by decide +kernel
theorem dL_law_390 : decode cL_law 390 = .ok (.aload_n 2, 1) := by decide +kernel
theorem dL_law_391 : decode cL_law 391 = .ok (.aload_n 0, 1) := by decide +kernel
theorem dL_law_392 : decode cL_law 392 = .ok (.iload_n 3, 1) := by decide +kernel
theorem dL_law_393 : decode cL_law 393 = .ok (.iconst 1, 1) := by decide +kernel
theorem dL_law_394 : decode cL_law 394 = .ok (.iadd, 1) := by decide +kernel
theorem dL_law_395 : decode cL_law 395 = .ok (.iaload, 1) := by decide +kernel
theorem dL_law_396 : decode cL_law 396 = .ok (.aload_n 0, 1) := by decide +kernel
theorem dL_law_397 : decode cL_law 397 = .ok (.iload_n 3, 1) := by decide +kernel
theorem dL_law_398 : decode cL_law 398 = .ok (.iconst 2, 1) := by decide +kernel
theorem dL_law_399 : decode cL_law 399 = .ok (.iadd, 1) := by decide +kernel
theorem dL_law_400 : decode cL_law 400 = .ok (.iaload, 1) := by decide +kernel
theorem dL_law_401 : decode cL_law 401 = .ok (.invokevirtual 54, 3) := by decide +kernel
theorem dL_law_404 : decode cL_law 404 = .ok (.if_icmp .eq 797, 3) := by decide +kernel
theorem dL_law_407 : decode cL_law 407 = .ok (.iconst 0, 1) := by decide +kernel
theorem dL_law_408 : decode cL_law 408 = .ok (.ireturn, 1) := by decide +kernel
theorem dL_law_409 : decode cL_law 409 = .ok (.aload_n 1, 1) := by decide +kernel
theorem dL_law_410 : decode cL_law 410 = .ok (.aload_n 0, 1) := by decide +kernel
theorem dL_law_411 : decode cL_law 411 = .ok (.iload_n 3, 1) := by decide +kernel
theorem dL_law_412 : decode cL_law 412 = .ok (.iconst 1, 1) := by decide +kernel
theorem dL_law_413 : decode cL_law 413 = .ok (.iadd, 1) := by decide +kernel
theorem dL_law_414 : decode cL_law 414 = .ok (.iaload, 1) := by decide +kernel
theorem dL_law_415 : decode cL_law 415 = .ok (.aload_n 0, 1) := by decide +kernel
theorem dL_law_416 : decode cL_law 416 = .ok (.iload_n 3, 1) := by decide +kernel
theorem dL_law_417 : decode cL_law 417 = .ok (.iconst 2, 1) := by decide +kernel
theorem dL_law_418 : decode cL_law 418 = .ok (.iadd, 1) := by decide +kernel
theorem dL_law_419 : decode cL_law 419 = .ok (.iaload, 1) := by decide +kernel
theorem dL_law_420 : decode cL_law 420 = .ok (.aload_n 0, 1) := by decide +kernel
theorem dL_law_421 : decode cL_law 421 = .ok (.iload_n 3, 1) := by decide +kernel
theorem dL_law_422 : decode cL_law 422 = .ok (.iconst 3, 1) := by decide +kernel
theorem dL_law_423 : decode cL_law 423 = .ok (.iadd, 1) := by decide +kernel
theorem dL_law_424 : decode cL_law 424 = .ok (.iaload, 1) := by decide +kernel
theorem dL_law_425 : decode cL_law 425 = .ok (.invokevirtual 55, 3) := by decide +kernel
theorem dL_law_428 : decode cL_law 428 = .ok (.aload_n 2, 1) := by decide +kernel
theorem dL_law_429 : decode cL_law 429 = .ok (.aload_n 0, 1) := by decide +kernel
theorem dL_law_430 : decode cL_law 430 = .ok (.iload_n 3, 1) := by decide +kernel
theorem dL_law_431 : decode cL_law 431 = .ok (.iconst 1, 1) := by decide +kernel
theorem dL_law_432 : decode cL_law 432 = .ok (.iadd, 1) := by decide +kernel
theorem dL_law_433 : decode cL_law 433 = .ok (.iaload, 1) := by decide +kernel
theorem dL_law_434 : decode cL_law 434 = .ok (.aload_n 0, 1) := by decide +kernel
theorem dL_law_435 : decode cL_law 435 = .ok (.iload_n 3, 1) := by decide +kernel
theorem dL_law_436 : decode cL_law 436 = .ok (.iconst 2, 1) := by decide +kernel
theorem dL_law_437 : decode cL_law 437 = .ok (.iadd, 1) := by decide +kernel
theorem dL_law_438 : decode cL_law 438 = .ok (.iaload, 1) := by decide +kernel
theorem dL_law_439 : decode cL_law 439 = .ok (.aload_n 0, 1) := by decide +kernel
theorem dL_law_440 : decode cL_law 440 = .ok (.iload_n 3, 1) := by decide +kernel
theorem dL_law_441 : decode cL_law 441 = .ok (.iconst 3, 1) := by decide +kernel
theorem dL_law_442 : decode cL_law 442 = .ok (.iadd, 1) := by decide +kernel
theorem dL_law_443 : decode cL_law 443 = .ok (.iaload, 1) := by decide +kernel
theorem dL_law_444 : decode cL_law 444 = .ok (.invokevirtual 59, 3) := by decide +kernel
theorem dL_law_447 : decode cL_law 447 = .ok (.if_icmp .eq 754, 3) := by decide +kernel
theorem dL_law_450 : decode cL_law 450 = .ok (.iconst 0, 1) := by decide +kernel
theorem dL_law_451 : decode cL_law 451 = .ok (.ireturn, 1) := by decide +kernel
theorem dL_law_452 : decode cL_law 452 = .ok (.aload_n 1, 1) := by decide +kernel
theorem dL_law_453 : decode cL_law 453 = .ok (.aload_n 0, 1) := by decide +kernel
theorem dL_law_454 : decode cL_law 454 = .ok (.iload_n 3, 1) := by decide +kernel
theorem dL_law_455 : decode cL_law 455 = .ok (.iconst 1, 1) := by decide +kernel
theorem dL_law_456 : decode cL_law 456 = .ok (.iadd, 1) := by decide +kernel
theorem dL_law_457 : decode cL_law 457 = .ok (.iaload, 1) := by decide +kernel
theorem dL_law_458 : decode cL_law 458 = .ok (.aload_n 0, 1) := by decide +kernel
theorem dL_law_459 : decode cL_law 459 = .ok (.iload_n 3, 1) := by decide +kernel
theorem dL_law_460 : decode cL_law 460 = .ok (.iconst 2, 1) := by decide +kernel
theorem dL_law_461 : decode cL_law 461 = .ok (.iadd, 1) := by decide +kernel
theorem dL_law_462 : decode cL_law 462 = .ok (.iaload, 1) := by decide +kernel
theorem dL_law_463 : decode cL_law 463 = .ok (.invokevirtual 60, 3) := by decide +kernel
theorem dL_law_466 : decode cL_law 466 = .ok (.aload_n 2, 1) := by decide +kernel
theorem dL_law_467 : decode cL_law 467 = .ok (.aload_n 0, 1) := by decide +kernel
theorem dL_law_468 : decode cL_law 468 = .ok (.iload_n 3, 1) := by decide +kernel
theorem dL_law_469 : decode cL_law 469 = .ok (.iconst 1, 1) := by decide +kernel
theorem dL_law_470 : decode cL_law 470 = .ok (.iadd, 1) := by decide +kernel
theorem dL_law_471 : decode cL_law 471 = .ok (.iaload, 1) := by decide +kernel
theorem dL_law_472 : decode cL_law 472 = .ok (.aload_n 0, 1) := by decide +kernel
theorem dL_law_473 : decode cL_law 473 = .ok (.iload_n 3, 1) := by decide +kernel
theorem dL_law_474 : decode cL_law 474 = .ok (.iconst 2, 1) := by decide +kernel
theorem dL_law_475 : decode cL_law 475 = .ok (.iadd, 1) := by decide +kernel
theorem dL_law_476 : decode cL_law 476 = .ok (.iaload, 1) := by decide +kernel
theorem dL_law_477 : decode cL_law 477 = .ok (.invokevirtual 63, 3) := by decide +kernel
theorem dL_law_480 : decode cL_law 480 = .ok (.if_icmp .eq 721, 3) := by decide +kernel
theorem dL_law_483 : decode cL_law 483 = .ok (.iconst 0, 1) := by decide +kernel
theorem dL_law_484 : decode cL_law 484 = .ok (.ireturn, 1) := by decide +kernel
theorem dL_law_485 : decode cL_law 485 = .ok (.aload_n 1, 1) := by decide +kernel
theorem dL_law_486 : decode cL_law 486 = .ok (.aload_n 0, 1) := by decide +kernel
theorem dL_law_487 : decode cL_law 487 = .ok (.iload_n 3, 1) := by decide +kernel
theorem dL_law_488 : decode cL_law 488 = .ok (.iconst 1, 1) := by decide +kernel
theorem dL_law_489 : decode cL_law 489 = .ok (.iadd, 1) := by decide +kernel
theorem dL_law_490 : decode cL_law 490 = .ok (.iaload, 1) := by decide +kernel
theorem dL_law_491 : decode cL_law 491 = .ok (.aload_n 0, 1) := by decide +kernel
theorem dL_law_492 : decode cL_law 492 = .ok (.iload_n 3, 1) := by decide +kernel
theorem dL_law_493 : decode cL_law 493 = .ok (.iconst 2, 1) := by decide +kernel
theorem dL_law_494 : decode cL_law 494 = .ok (.iadd, 1) := by decide +kernel
theorem dL_law_495 : decode cL_law 495 = .ok (.iaload, 1) := by decide +kernel
theorem dL_law_496 : decode cL_law 496 = .ok (.invokevirtual 64, 3) := by decide +kernel
theorem dL_law_499 : decode cL_law 499 = .ok (.aload_n 2, 1) := by decide +kernel
theorem dL_law_500 : decode cL_law 500 = .ok (.aload_n 0, 1) := by decide +kernel
theorem dL_law_501 : decode cL_law 501 = .ok (.iload_n 3, 1) := by decide +kernel
theorem dL_law_502 : decode cL_law 502 = .ok (.iconst 1, 1) := by decide +kernel
theorem dL_law_503 : decode cL_law 503 = .ok (.iadd, 1) := by decide +kernel
theorem dL_law_504 : decode cL_law 504 = .ok (.iaload, 1) := by decide +kernel
theorem dL_law_505 : decode cL_law 505 = .ok (.aload_n 0, 1) := by decide +kernel
theorem dL_law_506 : decode cL_law 506 = .ok (.iload_n 3, 1) := by decide +kernel
theorem dL_law_507 : decode cL_law 507 = .ok (.iconst 2, 1) := by decide +kernel
theorem dL_law_508 : decode cL_law 508 = .ok (.iadd, 1) := by decide +kernel
theorem dL_law_509 : decode cL_law 509 = .ok (.iaload, 1) := by decide +kernel
theorem dL_law_510 : decode cL_law 510 = .ok (.invokevirtual 67, 3) := by decide +kernel
theorem dL_law_513 : decode cL_law 513 = .ok (.if_icmp .eq 688, 3) := by decide +kernel
theorem dL_law_516 : decode cL_law 516 = .ok (.iconst 0, 1) := by decide +kernel
theorem dL_law_517 : decode cL_law 517 = .ok (.ireturn, 1) := by decide +kernel
theorem dL_law_518 : decode cL_law 518 = .ok (.aload_n 1, 1) := by decide +kernel
theorem dL_law_519 : decode cL_law 519 = .ok (.invokevirtual 68, 3) := by decide +kernel
theorem dL_law_522 : decode cL_law 522 = .ok (.aload_n 2, 1) := by decide +kernel
theorem dL_law_523 : decode cL_law 523 = .ok (.invokevirtual 71, 3) := by decide +kernel
theorem dL_law_526 : decode cL_law 526 = .ok (.if_icmp .eq 675, 3) := by decide +kernel
theorem dL_law_529 : decode cL_law 529 = .ok (.iconst 0, 1) := by decide +kernel
theorem dL_law_530 : decode cL_law 530 = .ok (.ireturn, 1) := by decide +kernel
theorem dL_law_531 : decode cL_law 531 = .ok (.aload_n 1, 1) := by decide +kernel
theorem dL_law_532 : decode cL_law 532 = .ok (.aload_n 0, 1) := by decide +kernel
theorem dL_law_533 : decode cL_law 533 = .ok (.iload_n 3, 1) := by decide +kernel
theorem dL_law_534 : decode cL_law 534 = .ok (.iconst 1, 1) := by decide +kernel
theorem dL_law_535 : decode cL_law 535 = .ok (.iadd, 1) := by decide +kernel
theorem dL_law_536 : decode cL_law 536 = .ok (.iaload, 1) := by decide +kernel
theorem dL_law_537 : decode cL_law 537 = .ok (.aload_n 0, 1) := by decide +kernel
theorem dL_law_538 : decode cL_law 538 = .ok (.iload_n 3, 1) := by decide +kernel
theorem dL_law_539 : decode cL_law 539 = .ok (.iconst 2, 1) := by decide +kernel
theorem dL_law_540 : decode cL_law 540 = .ok (.iadd, 1) := by decide +kernel
theorem dL_law_541 : decode cL_law 541 = .ok (.iaload, 1) := by decide +kernel
theorem dL_law_542 : decode cL_law 542 = .ok (.invokevirtual 72, 3) := by decide +kernel
theorem dL_law_545 : decode cL_law 545 = .ok (.aload_n 2, 1) := by decide +kernel
theorem dL_law_546 : decode cL_law 546 = .ok (.aload_n 0, 1) := by decide +kernel
theorem dL_law_547 : decode cL_law 547 = .ok (.iload_n 3, 1) := by decide +kernel
theorem dL_law_548 : decode cL_law 548 = .ok (.iconst 1, 1) := by decide +kernel
theorem dL_law_549 : decode cL_law 549 = .ok (.iadd, 1) := by decide +kernel
theorem dL_law_550 : decode cL_law 550 = .ok (.iaload, 1) := by decide +kernel
theorem dL_law_551 : decode cL_law 551 = .ok (.aload_n 0, 1) := by decide +kernel
theorem dL_law_552 : decode cL_law 552 = .ok (.iload_n 3, 1) := by decide +kernel
theorem dL_law_553 : decode cL_law 553 = .ok (.iconst 2, 1) := by decide +kernel
theorem dL_law_554 : decode cL_law 554 = .ok (.iadd, 1) := by decide +kernel
theorem dL_law_555 : decode cL_law 555 = .ok (.iaload, 1) := by decide +kernel
theorem dL_law_556 : decode cL_law 556 = .ok (.invokevirtual 75, 3) := by decide +kernel
theorem dL_law_559 : decode cL_law 559 = .ok (.if_icmp .eq 642, 3) := by decide +kernel
theorem dL_law_562 : decode cL_law 562 = .ok (.iconst 0, 1) := by decide +kernel
theorem dL_law_563 : decode cL_law 563 = .ok (.ireturn, 1) := by decide +kernel
theorem dL_law_564 : decode cL_law 564 = .ok (.aload_n 1, 1) := by decide +kernel
theorem dL_law_565 : decode cL_law 565 = .ok (.aload_n 0, 1) := by decide +kernel
theorem dL_law_566 : decode cL_law 566 = .ok (.iload_n 3, 1) := by decide +kernel
theorem dL_law_567 : decode cL_law 567 = .ok (.iconst 1, 1) := by decide +kernel
theorem dL_law_568 : decode cL_law 568 = .ok (.iadd, 1) := by decide +kernel
theorem dL_law_569 : decode cL_law 569 = .ok (.iaload, 1) := by decide +kernel
theorem dL_law_570 : decode cL_law 570 = .ok (.invokevirtual 76, 3) := by decide +kernel
theorem dL_law_573 : decode cL_law 573 = .ok (.aload_n 2, 1) := by decide +kernel
theorem dL_law_574 : decode cL_law 574 = .ok (.aload_n 0, 1) := by decide +kernel
theorem dL_law_575 : decode cL_law 575 = .ok (.iload_n 3, 1) := by decide +kernel
theorem dL_law_576 : decode cL_law 576 = .ok (.iconst 1, 1) := by decide +kernel
theorem dL_law_577 : decode cL_law 577 = .ok (.iadd, 1) := by decide +kernel
theorem dL_law_578 : decode cL_law 578 = .ok (.iaload, 1) := by decide +kernel
theorem dL_law_579 : decode cL_law 579 = .ok (.invokevirtual 79, 3) := by decide +kernel
theorem dL_law_582 : decode cL_law 582 = .ok (.if_icmp .eq 619, 3) := by decide +kernel
theorem dL_law_585 : decode cL_law 585 = .ok (.iconst 0, 1) := by decide +kernel
theorem dL_law_586 : decode cL_law 586 = .ok (.ireturn, 1) := by decide +kernel
theorem dL_law_587 : decode cL_law 587 = .ok (.aload_n 1, 1) := by decide +kernel
theorem dL_law_588 : decode cL_law 588 = .ok (.aload_n 0, 1) := by decide +kernel
theorem dL_law_589 : decode cL_law 589 = .ok (.iload_n 3, 1) := by decide +kernel
theorem dL_law_590 : decode cL_law 590 = .ok (.iconst 1, 1) := by decide +kernel
theorem dL_law_591 : decode cL_law 591 = .ok (.iadd, 1) := by decide +kernel
theorem dL_law_592 : decode cL_law 592 = .ok (.iaload, 1) := by decide +kernel
theorem dL_law_593 : decode cL_law 593 = .ok (.aload_n 0, 1) := by decide +kernel
theorem dL_law_594 : decode cL_law 594 = .ok (.iload_n 3, 1) := by decide +kernel
theorem dL_law_595 : decode cL_law 595 = .ok (.iconst 2, 1) := by decide +kernel
theorem dL_law_596 : decode cL_law 596 = .ok (.iadd, 1) := by decide +kernel
theorem dL_law_597 : decode cL_law 597 = .ok (.iaload, 1) := by decide +kernel
theorem dL_law_598 : decode cL_law 598 = .ok (.aload_n 0, 1) := by decide +kernel
theorem dL_law_599 : decode cL_law 599 = .ok (.iload_n 3, 1) := by decide +kernel
theorem dL_law_600 : decode cL_law 600 = .ok (.iconst 3, 1) := by decide +kernel
theorem dL_law_601 : decode cL_law 601 = .ok (.iadd, 1) := by decide +kernel
theorem dL_law_602 : decode cL_law 602 = .ok (.iaload, 1) := by decide +kernel
theorem dL_law_603 : decode cL_law 603 = .ok (.invokevirtual 80, 3) := by decide +kernel
theorem dL_law_606 : decode cL_law 606 = .ok (.aload_n 2, 1) := by decide +kernel
theorem dL_law_607 : decode cL_law 607 = .ok (.aload_n 0, 1) := by decide +kernel
theorem dL_law_608 : decode cL_law 608 = .ok (.iload_n 3, 1) := by decide +kernel
theorem dL_law_609 : decode cL_law 609 = .ok (.iconst 1, 1) := by decide +kernel
theorem dL_law_610 : decode cL_law 610 = .ok (.iadd, 1) := by decide +kernel
theorem dL_law_611 : decode cL_law 611 = .ok (.iaload, 1) := by decide +kernel
theorem dL_law_612 : decode cL_law 612 = .ok (.aload_n 0, 1) := by decide +kernel
theorem dL_law_613 : decode cL_law 613 = .ok (.iload_n 3, 1) := by decide +kernel
theorem dL_law_614 : decode cL_law 614 = .ok (.iconst 2, 1) := by decide +kernel
theorem dL_law_615 : decode cL_law 615 = .ok (.iadd, 1) := by decide +kernel
theorem dL_law_616 : decode cL_law 616 = .ok (.iaload, 1) := by decide +kernel
theorem dL_law_617 : decode cL_law 617 = .ok (.aload_n 0, 1) := by decide +kernel
theorem dL_law_618 : decode cL_law 618 = .ok (.iload_n 3, 1) := by decide +kernel
theorem dL_law_619 : decode cL_law 619 = .ok (.iconst 3, 1) := by decide +kernel
theorem dL_law_620 : decode cL_law 620 = .ok (.iadd, 1) := by decide +kernel
theorem dL_law_621 : decode cL_law 621 = .ok (.iaload, 1) := by decide +kernel
theorem dL_law_622 : decode cL_law 622 = .ok (.invokevirtual 83, 3) := by decide +kernel
theorem dL_law_625 : decode cL_law 625 = .ok (.if_icmp .eq 576, 3) := by decide +kernel
theorem dL_law_628 : decode cL_law 628 = .ok (.iconst 0, 1) := by decide +kernel
theorem dL_law_629 : decode cL_law 629 = .ok (.ireturn, 1) := by decide +kernel
theorem dL_law_630 : decode cL_law 630 = .ok (.aload_n 1, 1) := by decide +kernel
theorem dL_law_631 : decode cL_law 631 = .ok (.aload_n 0, 1) := by decide +kernel
theorem dL_law_632 : decode cL_law 632 = .ok (.iload_n 3, 1) := by decide +kernel
theorem dL_law_633 : decode cL_law 633 = .ok (.iconst 1, 1) := by decide +kernel
theorem dL_law_634 : decode cL_law 634 = .ok (.iadd, 1) := by decide +kernel
theorem dL_law_635 : decode cL_law 635 = .ok (.iaload, 1) := by decide +kernel
theorem dL_law_636 : decode cL_law 636 = .ok (.aload_n 0, 1) := by decide +kernel
theorem dL_law_637 : decode cL_law 637 = .ok (.iload_n 3, 1) := by decide +kernel
theorem dL_law_638 : decode cL_law 638 = .ok (.iconst 2, 1) := by decide +kernel
theorem dL_law_639 : decode cL_law 639 = .ok (.iadd, 1) := by decide +kernel
theorem dL_law_640 : decode cL_law 640 = .ok (.iaload, 1) := by decide +kernel
theorem dL_law_641 : decode cL_law 641 = .ok (.invokevirtual 84, 3) := by decide +kernel
theorem dL_law_644 : decode cL_law 644 = .ok (.aload_n 2, 1) := by decide +kernel
theorem dL_law_645 : decode cL_law 645 = .ok (.aload_n 0, 1) := by decide +kernel
theorem dL_law_646 : decode cL_law 646 = .ok (.iload_n 3, 1) := by decide +kernel
theorem dL_law_647 : decode cL_law 647 = .ok (.iconst 1, 1) := by decide +kernel
theorem dL_law_648 : decode cL_law 648 = .ok (.iadd, 1) := by decide +kernel
theorem dL_law_649 : decode cL_law 649 = .ok (.iaload, 1) := by decide +kernel
theorem dL_law_650 : decode cL_law 650 = .ok (.aload_n 0, 1) := by decide +kernel
theorem dL_law_651 : decode cL_law 651 = .ok (.iload_n 3, 1) := by decide +kernel
theorem dL_law_652 : decode cL_law 652 = .ok (.iconst 2, 1) := by decide +kernel
theorem dL_law_653 : decode cL_law 653 = .ok (.iadd, 1) := by decide +kernel
theorem dL_law_654 : decode cL_law 654 = .ok (.iaload, 1) := by decide +kernel
theorem dL_law_655 : decode cL_law 655 = .ok (.invokevirtual 87, 3) := by decide +kernel
theorem dL_law_658 : decode cL_law 658 = .ok (.if_icmp .eq 543, 3) := by decide +kernel
theorem dL_law_661 : decode cL_law 661 = .ok (.iconst 0, 1) := by decide +kernel
theorem dL_law_662 : decode cL_law 662 = .ok (.ireturn, 1) := by decide +kernel
theorem dL_law_663 : decode cL_law 663 = .ok (.aload_n 1, 1) := by decide +kernel
theorem dL_law_664 : decode cL_law 664 = .ok (.aload_n 0, 1) := by decide +kernel
theorem dL_law_665 : decode cL_law 665 = .ok (.iload_n 3, 1) := by decide +kernel
theorem dL_law_666 : decode cL_law 666 = .ok (.iconst 1, 1) := by decide +kernel
theorem dL_law_667 : decode cL_law 667 = .ok (.iadd, 1) := by decide +kernel
theorem dL_law_668 : decode cL_law 668 = .ok (.iaload, 1) := by decide +kernel
theorem dL_law_669 : decode cL_law 669 = .ok (.aload_n 0, 1) := by decide +kernel
theorem dL_law_670 : decode cL_law 670 = .ok (.iload_n 3, 1) := by decide +kernel
theorem dL_law_671 : decode cL_law 671 = .ok (.iconst 2, 1) := by decide +kernel
theorem dL_law_672 : decode cL_law 672 = .ok (.iadd, 1) := by decide +kernel
theorem dL_law_673 : decode cL_law 673 = .ok (.iaload, 1) := by decide +kernel
theorem dL_law_674 : decode cL_law 674 = .ok (.invokevirtual 88, 3) := by decide +kernel
theorem dL_law_677 : decode cL_law 677 = .ok (.aload_n 2, 1) := by decide +kernel
theorem dL_law_678 : decode cL_law 678 = .ok (.aload_n 0, 1) := by decide +kernel
theorem dL_law_679 : decode cL_law 679 = .ok (.iload_n 3, 1) := by decide +kernel
theorem dL_law_680 : decode cL_law 680 = .ok (.iconst 1, 1) := by decide +kernel
theorem dL_law_681 : decode cL_law 681 = .ok (.iadd, 1) := by decide +kernel
theorem dL_law_682 : decode cL_law 682 = .ok (.iaload, 1) := by decide +kernel
theorem dL_law_683 : decode cL_law 683 = .ok (.aload_n 0, 1) := by decide +kernel
theorem dL_law_684 : decode cL_law 684 = .ok (.iload_n 3, 1) := by decide +kernel
theorem dL_law_685 : decode cL_law 685 = .ok (.iconst 2, 1) := by decide +kernel
theorem dL_law_686 : decode cL_law 686 = .ok (.iadd, 1) := by decide +kernel
theorem dL_law_687 : decode cL_law 687 = .ok (.iaload, 1) := by decide +kernel
theorem dL_law_688 : decode cL_law 688 = .ok (.invokevirtual 91, 3) := by decide +kernel
theorem dL_law_691 : decode cL_law 691 = .ok (.if_icmp .eq 510, 3) := by decide +kernel
theorem dL_law_694 : decode cL_law 694 = .ok (.iconst 0, 1) := by decide +kernel
theorem dL_law_695 : decode cL_law 695 = .ok (.ireturn, 1) := by decide +kernel
theorem dL_law_696 : decode cL_law 696 = .ok (.aload_n 1, 1) := by decide +kernel
theorem dL_law_697 : decode cL_law 697 = .ok (.aload_n 0, 1) := by decide +kernel
theorem dL_law_698 : decode cL_law 698 = .ok (.iload_n 3, 1) := by decide +kernel
theorem dL_law_699 : decode cL_law 699 = .ok (.iconst 1, 1) := by decide +kernel
theorem dL_law_700 : decode cL_law 700 = .ok (.iadd, 1) := by decide +kernel
theorem dL_law_701 : decode cL_law 701 = .ok (.iaload, 1) := by decide +kernel
theorem dL_law_702 : decode cL_law 702 = .ok (.aload_n 0, 1) := by decide +kernel
theorem dL_law_703 : decode cL_law 703 = .ok (.iload_n 3, 1) := by decide +kernel
theorem dL_law_704 : decode cL_law 704 = .ok (.iconst 2, 1) := by decide +kernel
theorem dL_law_705 : decode cL_law 705 = .ok (.iadd, 1) := by decide +kernel
theorem dL_law_706 : decode cL_law 706 = .ok (.iaload, 1) := by decide +kernel
theorem dL_law_707 : decode cL_law 707 = .ok (.aload_n 0, 1) := by decide +kernel
theorem dL_law_708 : decode cL_law 708 = .ok (.iload_n 3, 1) := by decide +kernel
theorem dL_law_709 : decode cL_law 709 = .ok (.iconst 3, 1) := by decide +kernel
theorem dL_law_710 : decode cL_law 710 = .ok (.iadd, 1) := by decide +kernel
theorem dL_law_711 : decode cL_law 711 = .ok (.iaload, 1) := by decide +kernel
theorem dL_law_712 : decode cL_law 712 = .ok (.invokevirtual 92, 3) := by decide +kernel
theorem dL_law_715 : decode cL_law 715 = .ok (.aload_n 2, 1) := by decide +kernel
theorem dL_law_716 : decode cL_law 716 = .ok (.aload_n 0, 1) := by decide +kernel
theorem dL_law_717 : decode cL_law 717 = .ok (.iload_n 3, 1) := by decide +kernel
theorem dL_law_718 : decode cL_law 718 = .ok (.iconst 1, 1) := by decide +kernel
theorem dL_law_719 : decode cL_law 719 = .ok (.iadd, 1) := by decide +kernel
theorem dL_law_720 : decode cL_law 720 = .ok (.iaload, 1) := by decide +kernel
theorem dL_law_721 : decode cL_law 721 = .ok (.aload_n 0, 1) := by decide +kernel
theorem dL_law_722 : decode cL_law 722 = .ok (.iload_n 3, 1) := by decide +kernel
theorem dL_law_723 : decode cL_law 723 = .ok (.iconst 2, 1) := by decide +kernel
theorem dL_law_724 : decode cL_law 724 = .ok (.iadd, 1) := by decide +kernel
theorem dL_law_725 : decode cL_law 725 = .ok (.iaload, 1) := by decide +kernel
theorem dL_law_726 : decode cL_law 726 = .ok (.aload_n 0, 1) := by decide +kernel
theorem dL_law_727 : decode cL_law 727 = .ok (.iload_n 3, 1) := by decide +kernel
theorem dL_law_728 : decode cL_law 728 = .ok (.iconst 3, 1) := by decide +kernel
theorem dL_law_729 : decode cL_law 729 = .ok (.iadd, 1) := by decide +kernel
theorem dL_law_730 : decode cL_law 730 = .ok (.iaload, 1) := by decide +kernel
theorem dL_law_731 : decode cL_law 731 = .ok (.invokevirtual 95, 3) := by decide +kernel
theorem dL_law_734 : decode cL_law 734 = .ok (.if_icmp .eq 467, 3) := by decide +kernel
theorem dL_law_737 : decode cL_law 737 = .ok (.iconst 0, 1) := by decide +kernel
theorem dL_law_738 : decode cL_law 738 = .ok (.ireturn, 1) := by decide +kernel
theorem dL_law_739 : decode cL_law 739 = .ok (.aload_n 1, 1) := by decide +kernel
theorem dL_law_740 : decode cL_law 740 = .ok (.aload_n 0, 1) := by decide +kernel
theorem dL_law_741 : decode cL_law 741 = .ok (.iload_n 3, 1) := by decide +kernel
theorem dL_law_742 : decode cL_law 742 = .ok (.iconst 1, 1) := by decide +kernel
theorem dL_law_743 : decode cL_law 743 = .ok (.iadd, 1) := by decide +kernel
theorem dL_law_744 : decode cL_law 744 = .ok (.iaload, 1) := by decide +kernel
theorem dL_law_745 : decode cL_law 745 = .ok (.aload_n 0, 1) := by decide +kernel
theorem dL_law_746 : decode cL_law 746 = .ok (.iload_n 3, 1) := by decide +kernel
theorem dL_law_747 : decode cL_law 747 = .ok (.iconst 2, 1) := by decide +kernel
theorem dL_law_748 : decode cL_law 748 = .ok (.iadd, 1) := by decide +kernel
theorem dL_law_749 : decode cL_law 749 = .ok (.iaload, 1) := by decide +kernel
theorem dL_law_750 : decode cL_law 750 = .ok (.invokevirtual 96, 3) := by decide +kernel
theorem dL_law_753 : decode cL_law 753 = .ok (.aload_n 2, 1) := by decide +kernel
theorem dL_law_754 : decode cL_law 754 = .ok (.aload_n 0, 1) := by decide +kernel
theorem dL_law_755 : decode cL_law 755 = .ok (.iload_n 3, 1) := by decide +kernel
theorem dL_law_756 : decode cL_law 756 = .ok (.iconst 1, 1) := by decide +kernel
theorem dL_law_757 : decode cL_law 757 = .ok (.iadd, 1) := by decide +kernel
theorem dL_law_758 : decode cL_law 758 = .ok (.iaload, 1) := by decide +kernel
theorem dL_law_759 : decode cL_law 759 = .ok (.aload_n 0, 1) := by decide +kernel
theorem dL_law_760 : decode cL_law 760 = .ok (.iload_n 3, 1) := by decide +kernel
theorem dL_law_761 : decode cL_law 761 = .ok (.iconst 2, 1) := by decide +kernel
theorem dL_law_762 : decode cL_law 762 = .ok (.iadd, 1) := by decide +kernel
theorem dL_law_763 : decode cL_law 763 = .ok (.iaload, 1) := by decide +kernel
theorem dL_law_764 : decode cL_law 764 = .ok (.invokevirtual 99, 3) := by decide +kernel
theorem dL_law_767 : decode cL_law 767 = .ok (.if_icmp .eq 434, 3) := by decide +kernel
theorem dL_law_770 : decode cL_law 770 = .ok (.iconst 0, 1) := by decide +kernel
theorem dL_law_771 : decode cL_law 771 = .ok (.ireturn, 1) := by decide +kernel
theorem dL_law_772 : decode cL_law 772 = .ok (.aload_n 1, 1) := by decide +kernel
theorem dL_law_773 : decode cL_law 773 = .ok (.aload_n 0, 1) := by decide +kernel
theorem dL_law_774 : decode cL_law 774 = .ok (.iload_n 3, 1) := by decide +kernel
theorem dL_law_775 : decode cL_law 775 = .ok (.iconst 1, 1) := by decide +kernel
theorem dL_law_776 : decode cL_law 776 = .ok (.iadd, 1) := by decide +kernel
theorem dL_law_777 : decode cL_law 777 = .ok (.iaload, 1) := by decide +kernel
theorem dL_law_778 : decode cL_law 778 = .ok (.invokevirtual 100, 3) := by decide +kernel
theorem dL_law_781 : decode cL_law 781 = .ok (.aload_n 2, 1) := by decide +kernel
theorem dL_law_782 : decode cL_law 782 = .ok (.aload_n 0, 1) := by decide +kernel
theorem dL_law_783 : decode cL_law 783 = .ok (.iload_n 3, 1) := by decide +kernel
theorem dL_law_784 : decode cL_law 784 = .ok (.iconst 1, 1) := by decide +kernel
theorem dL_law_785 : decode cL_law 785 = .ok (.iadd, 1) := by decide +kernel
theorem dL_law_786 : decode cL_law 786 = .ok (.iaload, 1) := by decide +kernel
theorem dL_law_787 : decode cL_law 787 = .ok (.invokevirtual 103, 3) := by decide +kernel
theorem dL_law_790 : decode cL_law 790 = .ok (.if_icmp .eq 411, 3) := by decide +kernel
theorem dL_law_793 : decode cL_law 793 = .ok (.iconst 0, 1) := by decide +kernel
theorem dL_law_794 : decode cL_law 794 = .ok (.ireturn, 1) := by decide +kernel
theorem dL_law_795 : decode cL_law 795 = .ok (.aload_n 1, 1) := by decide +kernel
theorem dL_law_796 : decode cL_law 796 = .ok (.aload_n 0, 1) := by decide +kernel
theorem dL_law_797 : decode cL_law 797 = .ok (.iload_n 3, 1) := by decide +kernel
theorem dL_law_798 : decode cL_law 798 = .ok (.iconst 1, 1) := by decide +kernel
theorem dL_law_799 : decode cL_law 799 = .ok (.iadd, 1) := by decide +kernel
theorem dL_law_800 : decode cL_law 800 = .ok (.iaload, 1) := by decide +kernel
theorem dL_law_801 : decode cL_law 801 = .ok (.invokevirtual 104, 3) := by decide +kernel
theorem dL_law_804 : decode cL_law 804 = .ok (.aload_n 2, 1) := by decide +kernel
theorem dL_law_805 : decode cL_law 805 = .ok (.aload_n 0, 1) := by decide +kernel
theorem dL_law_806 : decode cL_law 806 = .ok (.iload_n 3, 1) := by decide +kernel
theorem dL_law_807 : decode cL_law 807 = .ok (.iconst 1, 1) := by decide +kernel
theorem dL_law_808 : decode cL_law 808 = .ok (.iadd, 1) := by decide +kernel
theorem dL_law_809 : decode cL_law 809 = .ok (.iaload, 1) := by decide +kernel
theorem dL_law_810 : decode cL_law 810 = .ok (.invokevirtual 107, 3) := by decide +kernel
theorem dL_law_813 : decode cL_law 813 = .ok (.if_icmp .eq 388, 3) := by decide +kernel
theorem dL_law_816 : decode cL_law 816 = .ok (.iconst 0, 1) := by decide +kernel
theorem dL_law_817 : decode cL_law 817 = .ok (.ireturn, 1) := by decide +kernel
theorem dL_law_818 : decode cL_law 818 = .ok (.aload_n 1, 1) := by decide +kernel
theorem dL_law_819 : decode cL_law 819 = .ok (.aload_n 0, 1) := by decide +kernel
theorem dL_law_820 : decode cL_law 820 = .ok (.iload_n 3, 1) := by decide +kernel
theorem dL_law_821 : decode cL_law 821 = .ok (.iconst 1, 1) := by decide +kernel
theorem dL_law_822 : decode cL_law 822 = .ok (.iadd, 1) := by decide +kernel
theorem dL_law_823 : decode cL_law 823 = .ok (.iaload, 1) := by decide +kernel
theorem dL_law_824 : decode cL_law 824 = .ok (.aload_n 0, 1) := by decide +kernel
theorem dL_law_825 : decode cL_law 825 = .ok (.iload_n 3, 1) := by decide +kernel
theorem dL_law_826 : decode cL_law 826 = .ok (.iconst 2, 1) := by decide +kernel
theorem dL_law_827 : decode cL_law 827 = .ok (.iadd, 1) := by decide +kernel
theorem dL_law_828 : decode cL_law 828 = .ok (.iaload, 1) := by decide +kernel
theorem dL_law_829 : decode cL_law 829 = .ok (.invokevirtual 108, 3) := by decide +kernel
theorem dL_law_832 : decode cL_law 832 = .ok (.aload_n 2, 1) := by decide +kernel
theorem dL_law_833 : decode cL_law 833 = .ok (.aload_n 0, 1) := by decide +kernel
theorem dL_law_834 : decode cL_law 834 = .ok (.iload_n 3, 1) := by decide +kernel
theorem dL_law_835 : decode cL_law 835 = .ok (.iconst 1, 1) := by decide +kernel
theorem dL_law_836 : decode cL_law 836 = .ok (.iadd, 1) := by decide +kernel
theorem dL_law_837 : decode cL_law 837 = .ok (.iaload, 1) := by decide +kernel
theorem dL_law_838 : decode cL_law 838 = .ok (.aload_n 0, 1) := by decide +kernel
theorem dL_law_839 : decode cL_law 839 = .ok (.iload_n 3, 1) := by decide +kernel
theorem dL_law_840 : decode cL_law 840 = .ok (.iconst 2, 1) := by decide +kernel
theorem dL_law_841 : decode cL_law 841 = .ok (.iadd, 1) := by decide +kernel
theorem dL_law_842 : decode cL_law 842 = .ok (.iaload, 1) := by decide +kernel
theorem dL_law_843 : decode cL_law 843 = .ok (.invokevirtual 111, 3) := by decide +kernel
theorem dL_law_846 : decode cL_law 846 = .ok (.if_icmp .eq 355, 3) := by decide +kernel
theorem dL_law_849 : decode cL_law 849 = .ok (.iconst 0, 1) := by decide +kernel
theorem dL_law_850 : decode cL_law 850 = .ok (.ireturn, 1) := by decide +kernel
theorem dL_law_851 : decode cL_law 851 = .ok (.aload_n 1, 1) := by decide +kernel
theorem dL_law_852 : decode cL_law 852 = .ok (.invokevirtual 112, 3) := by decide +kernel
theorem dL_law_855 : decode cL_law 855 = .ok (.aload_n 2, 1) := by decide +kernel
theorem dL_law_856 : decode cL_law 856 = .ok (.invokevirtual 115, 3) := by decide +kernel
theorem dL_law_859 : decode cL_law 859 = .ok (.if_icmp .eq 342, 3) := by decide +kernel
theorem dL_law_862 : decode cL_law 862 = .ok (.iconst 0, 1) := by decide +kernel
theorem dL_law_863 : decode cL_law 863 = .ok (.ireturn, 1) := by decide +kernel
theorem dL_law_864 : decode cL_law 864 = .ok (.aload_n 1, 1) := by decide +kernel
theorem dL_law_865 : decode cL_law 865 = .ok (.invokevirtual 116, 3) := by decide +kernel
theorem dL_law_868 : decode cL_law 868 = .ok (.aload_n 2, 1) := by decide +kernel
theorem dL_law_869 : decode cL_law 869 = .ok (.invokevirtual 119, 3) := by decide +kernel
theorem dL_law_872 : decode cL_law 872 = .ok (.if_icmp .eq 329, 3) := by decide +kernel
theorem dL_law_875 : decode cL_law 875 = .ok (.iconst 0, 1) := by decide +kernel
theorem dL_law_876 : decode cL_law 876 = .ok (.ireturn, 1) := by decide +kernel
theorem dL_law_877 : decode cL_law 877 = .ok (.aload_n 1, 1) := by decide +kernel
theorem dL_law_878 : decode cL_law 878 = .ok (.aload_n 0, 1) := by decide +kernel
theorem dL_law_879 : decode cL_law 879 = .ok (.iload_n 3, 1) := by decide +kernel
theorem dL_law_880 : decode cL_law 880 = .ok (.iconst 1, 1) := by decide +kernel
theorem dL_law_881 : decode cL_law 881 = .ok (.iadd, 1) := by decide +kernel
theorem dL_law_882 : decode cL_law 882 = .ok (.iaload, 1) := by decide +kernel
theorem dL_law_883 : decode cL_law 883 = .ok (.aload_n 0, 1) := by decide +kernel
theorem dL_law_884 : decode cL_law 884 = .ok (.iload_n 3, 1) := by decide +kernel
theorem dL_law_885 : decode cL_law 885 = .ok (.iconst 2, 1) := by decide +kernel
theorem dL_law_886 : decode cL_law 886 = .ok (.iadd, 1) := by decide +kernel
theorem dL_law_887 : decode cL_law 887 = .ok (.iaload, 1) := by decide +kernel
theorem dL_law_888 : decode cL_law 888 = .ok (.aload_n 0, 1) := by decide +kernel
theorem dL_law_889 : decode cL_law 889 = .ok (.iload_n 3, 1) := by decide +kernel
theorem dL_law_890 : decode cL_law 890 = .ok (.iconst 3, 1) := by decide +kernel
theorem dL_law_891 : decode cL_law 891 = .ok (.iadd, 1) := by decide +kernel
theorem dL_law_892 : decode cL_law 892 = .ok (.iaload, 1) := by decide +kernel
theorem dL_law_893 : decode cL_law 893 = .ok (.invokevirtual 120, 3) := by decide +kernel
theorem dL_law_896 : decode cL_law 896 = .ok (.aload_n 2, 1) := by decide +kernel
theorem dL_law_897 : decode cL_law 897 = .ok (.aload_n 0, 1) := by decide +kernel
theorem dL_law_898 : decode cL_law 898 = .ok (.iload_n 3, 1) := by decide +kernel
theorem dL_law_899 : decode cL_law 899 = .ok (.iconst 1, 1) := by decide +kernel
theorem dL_law_900 : decode cL_law 900 = .ok (.iadd, 1) := by decide +kernel
theorem dL_law_901 : decode cL_law 901 = .ok (.iaload, 1) := by decide +kernel
theorem dL_law_902 : decode cL_law 902 = .ok (.aload_n 0, 1) := by decide +kernel
theorem dL_law_903 : decode cL_law 903 = .ok (.iload_n 3, 1) := by decide +kernel
theorem dL_law_904 : decode cL_law 904 = .ok (.iconst 2, 1) := by decide +kernel
theorem dL_law_905 : decode cL_law 905 = .ok (.iadd, 1) := by decide +kernel
theorem dL_law_906 : decode cL_law 906 = .ok (.iaload, 1) := by decide +kernel
theorem dL_law_907 : decode cL_law 907 = .ok (.aload_n 0, 1) := by decide +kernel
theorem dL_law_908 : decode cL_law 908 = .ok (.iload_n 3, 1) := by decide +kernel
theorem dL_law_909 : decode cL_law 909 = .ok (.iconst 3, 1) := by decide +kernel
theorem dL_law_910 : decode cL_law 910 = .ok (.iadd, 1) := by decide +kernel
theorem dL_law_911 : decode cL_law 911 = .ok (.iaload, 1) := by decide +kernel
theorem dL_law_912 : decode cL_law 912 = .ok (.invokevirtual 123, 3) := by decide +kernel
theorem dL_law_915 : decode cL_law 915 = .ok (.if_icmp .eq 286, 3) := by decide +kernel
theorem dL_law_918 : decode cL_law 918 = .ok (.iconst 0, 1) := by decide +kernel
theorem dL_law_919 : decode cL_law 919 = .ok (.ireturn, 1) := by decide +kernel
theorem dL_law_920 : decode cL_law 920 = .ok (.aload_n 1, 1) := by decide +kernel
theorem dL_law_921 : decode cL_law 921 = .ok (.aload_n 0, 1) := by decide +kernel
theorem dL_law_922 : decode cL_law 922 = .ok (.iload_n 3, 1) := by decide +kernel
theorem dL_law_923 : decode cL_law 923 = .ok (.iconst 1, 1) := by decide +kernel
theorem dL_law_924 : decode cL_law 924 = .ok (.iadd, 1) := by decide +kernel
theorem dL_law_925 : decode cL_law 925 = .ok (.iaload, 1) := by decide +kernel
theorem dL_law_926 : decode cL_law 926 = .ok (.aload_n 0, 1) := by decide +kernel
theorem dL_law_927 : decode cL_law 927 = .ok (.iload_n 3, 1) := by decide +kernel
theorem dL_law_928 : decode cL_law 928 = .ok (.iconst 2, 1) := by decide +kernel
theorem dL_law_929 : decode cL_law 929 = .ok (.iadd, 1) := by decide +kernel
theorem dL_law_930 : decode cL_law 930 = .ok (.iaload, 1) := by decide +kernel
theorem dL_law_931 : decode cL_law 931 = .ok (.invokevirtual 124, 3) := by decide +kernel
theorem dL_law_934 : decode cL_law 934 = .ok (.aload_n 2, 1) := by decide +kernel
theorem dL_law_935 : decode cL_law 935 = .ok (.aload_n 0, 1) := by decide +kernel
theorem dL_law_936 : decode cL_law 936 = .ok (.iload_n 3, 1) := by decide +kernel
theorem dL_law_937 : decode cL_law 937 = .ok (.iconst 1, 1) := by decide +kernel
theorem dL_law_938 : decode cL_law 938 = .ok (.iadd, 1) := by decide +kernel
theorem dL_law_939 : decode cL_law 939 = .ok (.iaload, 1) := by decide +kernel
theorem dL_law_940 : decode cL_law 940 = .ok (.aload_n 0, 1) := by decide +kernel
theorem dL_law_941 : decode cL_law 941 = .ok (.iload_n 3, 1) := by decide +kernel
theorem dL_law_942 : decode cL_law 942 = .ok (.iconst 2, 1) := by decide +kernel
theorem dL_law_943 : decode cL_law 943 = .ok (.iadd, 1) := by decide +kernel
theorem dL_law_944 : decode cL_law 944 = .ok (.iaload, 1) := by decide +kernel
theorem dL_law_945 : decode cL_law 945 = .ok (.invokevirtual 127, 3) := by decide +kernel
theorem dL_law_948 : decode cL_law 948 = .ok (.if_icmp .eq 253, 3) := by decide +kernel
theorem dL_law_951 : decode cL_law 951 = .ok (.iconst 0, 1) := by decide +kernel
theorem dL_law_952 : decode cL_law 952 = .ok (.ireturn, 1) := by decide +kernel
theorem dL_law_953 : decode cL_law 953 = .ok (.aload_n 1, 1) := by decide +kernel
theorem dL_law_954 : decode cL_law 954 = .ok (.invokevirtual 128, 3) := by decide +kernel
theorem dL_law_957 : decode cL_law 957 = .ok (.aload_n 2, 1) := by decide +kernel
theorem dL_law_958 : decode cL_law 958 = .ok (.invokevirtual 131, 3) := by decide +kernel
theorem dL_law_961 : decode cL_law 961 = .ok (.if_icmp .eq 240, 3) := by decide +kernel
theorem dL_law_964 : decode cL_law 964 = .ok (.iconst 0, 1) := by decide +kernel
theorem dL_law_965 : decode cL_law 965 = .ok (.ireturn, 1) := by decide +kernel
theorem dL_law_966 : decode cL_law 966 = .ok (.aload_n 1, 1) := by decide +kernel
theorem dL_law_967 : decode cL_law 967 = .ok (.aload_n 0, 1) := by decide +kernel
theorem dL_law_968 : decode cL_law 968 = .ok (.iload_n 3, 1) := by decide +kernel
theorem dL_law_969 : decode cL_law 969 = .ok (.iconst 1, 1) := by decide +kernel
theorem dL_law_970 : decode cL_law 970 = .ok (.iadd, 1) := by decide +kernel
theorem dL_law_971 : decode cL_law 971 = .ok (.iaload, 1) := by decide +kernel
theorem dL_law_972 : decode cL_law 972 = .ok (.aload_n 0, 1) := by decide +kernel
theorem dL_law_973 : decode cL_law 973 = .ok (.iload_n 3, 1) := by decide +kernel
theorem dL_law_974 : decode cL_law 974 = .ok (.iconst 2, 1) := by decide +kernel
theorem dL_law_975 : decode cL_law 975 = .ok (.iadd, 1) := by decide +kernel
theorem dL_law_976 : decode cL_law 976 = .ok (.iaload, 1) := by decide +kernel
theorem dL_law_977 : decode cL_law 977 = .ok (.aload_n 0, 1) := by decide +kernel
theorem dL_law_978 : decode cL_law 978 = .ok (.iload_n 3, 1) := by decide +kernel
theorem dL_law_979 : decode cL_law 979 = .ok (.iconst 3, 1) := by decide +kernel
theorem dL_law_980 : decode cL_law 980 = .ok (.iadd, 1) := by decide +kernel
theorem dL_law_981 : decode cL_law 981 = .ok (.iaload, 1) := by decide +kernel
theorem dL_law_982 : decode cL_law 982 = .ok (.aload_n 0, 1) := by decide +kernel
theorem dL_law_983 : decode cL_law 983 = .ok (.iload_n 3, 1) := by decide +kernel
theorem dL_law_984 : decode cL_law 984 = .ok (.iconst 4, 1) := by decide +kernel
theorem dL_law_985 : decode cL_law 985 = .ok (.iadd, 1) := by decide +kernel
theorem dL_law_986 : decode cL_law 986 = .ok (.iaload, 1) := by decide +kernel
theorem dL_law_987 : decode cL_law 987 = .ok (.invokevirtual 132, 3) := by decide +kernel
theorem dL_law_990 : decode cL_law 990 = .ok (.aload_n 2, 1) := by decide +kernel
theorem dL_law_991 : decode cL_law 991 = .ok (.aload_n 0, 1) := by decide +kernel
theorem dL_law_992 : decode cL_law 992 = .ok (.iload_n 3, 1) := by decide +kernel
theorem dL_law_993 : decode cL_law 993 = .ok (.iconst 1, 1) := by decide +kernel
theorem dL_law_994 : decode cL_law 994 = .ok (.iadd, 1) := by decide +kernel
theorem dL_law_995 : decode cL_law 995 = .ok (.iaload, 1) := by decide +kernel
theorem dL_law_996 : decode cL_law 996 = .ok (.aload_n 0, 1) := by decide +kernel
theorem dL_law_997 : decode cL_law 997 = .ok (.iload_n 3, 1) := by decide +kernel
theorem dL_law_998 : decode cL_law 998 = .ok (.iconst 2, 1) := by decide +kernel
theorem dL_law_999 : decode cL_law 999 = .ok (.iadd, 1) := by decide +kernel
theorem dL_law_1000 : decode cL_law 1000 = .ok (.iaload, 1) := by decide +kernel
theorem dL_law_1001 : decode cL_law 1001 = .ok (.aload_n 0, 1) := by decide +kernel
theorem dL_law_1002 : decode cL_law 1002 = .ok (.iload_n 3, 1) := by decide +kernel
theorem dL_law_1003 : decode cL_law 1003 = .ok (.iconst 3, 1) := by decide +kernel
theorem dL_law_1004 : decode cL_law 1004 = .ok (.iadd, 1) := by decide +kernel
theorem dL_law_1005 : decode cL_law 1005 = .ok (.iaload, 1) := by decide +kernel
theorem dL_law_1006 : decode cL_law 1006 = .ok (.aload_n 0, 1) := by decide +kernel
theorem dL_law_1007 : decode cL_law 1007 = .ok (.iload_n 3, 1) := by decide +kernel
theorem dL_law_1008 : decode cL_law 1008 = .ok (.iconst 4, 1) := by decide +kernel
theorem dL_law_1009 : decode cL_law 1009 = .ok (.iadd, 1) := by decide +kernel
theorem dL_law_1010 : decode cL_law 1010 = .ok (.iaload, 1) := by decide +kernel
theorem dL_law_1011 : decode cL_law 1011 = .ok (.invokevirtual 136, 3) := by decide +kernel
theorem dL_law_1014 : decode cL_law 1014 = .ok (.if_icmp .eq 187, 3) := by decide +kernel
theorem dL_law_1017 : decode cL_law 1017 = .ok (.iconst 0, 1) := by decide +kernel
theorem dL_law_1018 : decode cL_law 1018 = .ok (.ireturn, 1) := by decide +kernel
theorem dL_law_1019 : decode cL_law 1019 = .ok (.aload_n 1, 1) := by decide +kernel
theorem dL_law_1020 : decode cL_law 1020 = .ok (.aload_n 0, 1) := by decide +kernel
theorem dL_law_1021 : decode cL_law 1021 = .ok (.iload_n 3, 1) := by decide +kernel
theorem dL_law_1022 : decode cL_law 1022 = .ok (.iconst 1, 1) := by decide +kernel
theorem dL_law_1023 : decode cL_law 1023 = .ok (.iadd, 1) := by decide +kernel
theorem dL_law_1024 : decode cL_law 1024 = .ok (.iaload, 1) := by decide +kernel
theorem dL_law_1025 : decode cL_law 1025 = .ok (.aload_n 0, 1) := by decide +kernel
theorem dL_law_1026 : decode cL_law 1026 = .ok (.iload_n 3, 1) := by decide +kernel
theorem dL_law_1027 : decode cL_law 1027 = .ok (.iconst 2, 1) := by decide +kernel
theorem dL_law_1028 : decode cL_law 1028 = .ok (.iadd, 1) := by decide +kernel
theorem dL_law_1029 : decode cL_law 1029 = .ok (.iaload, 1) := by decide +kernel
theorem dL_law_1030 : decode cL_law 1030 = .ok (.aload_n 0, 1) := by decide +kernel
theorem dL_law_1031 : decode cL_law 1031 = .ok (.iload_n 3, 1) := by decide +kernel
theorem dL_law_1032 : decode cL_law 1032 = .ok (.iconst 3, 1) := by decide +kernel
theorem dL_law_1033 : decode cL_law 1033 = .ok (.iadd, 1) := by decide +kernel
theorem dL_law_1034 : decode cL_law 1034 = .ok (.iaload, 1) := by decide +kernel
theorem dL_law_1035 : decode cL_law 1035 = .ok (.invokevirtual 137, 3) := by decide +kernel
theorem dL_law_1038 : decode cL_law 1038 = .ok (.aload_n 2, 1) := by decide +kernel
theorem dL_law_1039 : decode cL_law 1039 = .ok (.aload_n 0, 1) := by decide +kernel
theorem dL_law_1040 : decode cL_law 1040 = .ok (.iload_n 3, 1) := by decide +kernel
theorem dL_law_1041 : decode cL_law 1041 = .ok (.iconst 1, 1) := by decide +kernel
theorem dL_law_1042 : decode cL_law 1042 = .ok (.iadd, 1) := by decide +kernel
theorem dL_law_1043 : decode cL_law 1043 = .ok (.iaload, 1) := by decide +kernel
theorem dL_law_1044 : decode cL_law 1044 = .ok (.aload_n 0, 1) := by decide +kernel
theorem dL_law_1045 : decode cL_law 1045 = .ok (.iload_n 3, 1) := by decide +kernel
theorem dL_law_1046 : decode cL_law 1046 = .ok (.iconst 2, 1) := by decide +kernel
theorem dL_law_1047 : decode cL_law 1047 = .ok (.iadd, 1) := by decide +kernel
theorem dL_law_1048 : decode cL_law 1048 = .ok (.iaload, 1) := by decide +kernel
theorem dL_law_1049 : decode cL_law 1049 = .ok (.aload_n 0, 1) := by decide +kernel
theorem dL_law_1050 : decode cL_law 1050 = .ok (.iload_n 3, 1) := by decide +kernel
theorem dL_law_1051 : decode cL_law 1051 = .ok (.iconst 3, 1) := by decide +kernel
theorem dL_law_1052 : decode cL_law 1052 = .ok (.iadd, 1) := by decide +kernel
theorem dL_law_1053 : decode cL_law 1053 = .ok (.iaload, 1) := by decide +kernel
theorem dL_law_1054 : decode cL_law 1054 = .ok (.invokevirtual 140, 3) := by decide +kernel
theorem dL_law_1057 : decode cL_law 1057 = .ok (.if_icmp .eq 144, 3) := by decide +kernel
theorem dL_law_1060 : decode cL_law 1060 = .ok (.iconst 0, 1) := by decide +kernel
theorem dL_law_1061 : decode cL_law 1061 = .ok (.ireturn, 1) := by decide +kernel
theorem dL_law_1062 : decode cL_law 1062 = .ok (.aload_n 1, 1) := by decide +kernel
theorem dL_law_1063 : decode cL_law 1063 = .ok (.aload_n 0, 1) := by decide +kernel
theorem dL_law_1064 : decode cL_law 1064 = .ok (.iload_n 3, 1) := by decide +kernel
theorem dL_law_1065 : decode cL_law 1065 = .ok (.iconst 1, 1) := by decide +kernel
theorem dL_law_1066 : decode cL_law 1066 = .ok (.iadd, 1) := by decide +kernel
theorem dL_law_1067 : decode cL_law 1067 = .ok (.iaload, 1) := by decide +kernel
theorem dL_law_1068 : decode cL_law 1068 = .ok (.aload_n 0, 1) := by decide +kernel
theorem dL_law_1069 : decode cL_law 1069 = .ok (.iload_n 3, 1) := by decide +kernel
theorem dL_law_1070 : decode cL_law 1070 = .ok (.iconst 2, 1) := by decide +kernel
theorem dL_law_1071 : decode cL_law 1071 = .ok (.iadd, 1) := by decide +kernel
theorem dL_law_1072 : decode cL_law 1072 = .ok (.iaload, 1) := by decide +kernel
theorem dL_law_1073 : decode cL_law 1073 = .ok (.invokevirtual 141, 3) := by decide +kernel
theorem dL_law_1076 : decode cL_law 1076 = .ok (.aload_n 2, 1) := by decide +kernel
theorem dL_law_1077 : decode cL_law 1077 = .ok (.aload_n 0, 1) := by decide +kernel
theorem dL_law_1078 : decode cL_law 1078 = .ok (.iload_n 3, 1) := by decide +kernel
theorem dL_law_1079 : decode cL_law 1079 = .ok (.iconst 1, 1) := by decide +kernel
theorem dL_law_1080 : decode cL_law 1080 = .ok (.iadd, 1) := by decide +kernel
theorem dL_law_1081 : decode cL_law 1081 = .ok (.iaload, 1) := by decide +kernel
theorem dL_law_1082 : decode cL_law 1082 = .ok (.aload_n 0, 1) := by decide +kernel
theorem dL_law_1083 : decode cL_law 1083 = .ok (.iload_n 3, 1) := by decide +kernel
theorem dL_law_1084 : decode cL_law 1084 = .ok (.iconst 2, 1) := by decide +kernel
theorem dL_law_1085 : decode cL_law 1085 = .ok (.iadd, 1) := by decide +kernel
theorem dL_law_1086 : decode cL_law 1086 = .ok (.iaload, 1) := by decide +kernel
theorem dL_law_1087 : decode cL_law 1087 = .ok (.invokevirtual 144, 3) := by decide +kernel
theorem dL_law_1090 : decode cL_law 1090 = .ok (.if_icmp .eq 111, 3) := by decide +kernel
theorem dL_law_1093 : decode cL_law 1093 = .ok (.iconst 0, 1) := by decide +kernel
theorem dL_law_1094 : decode cL_law 1094 = .ok (.ireturn, 1) := by decide +kernel
theorem dL_law_1095 : decode cL_law 1095 = .ok (.aload_n 1, 1) := by decide +kernel
theorem dL_law_1096 : decode cL_law 1096 = .ok (.aload_n 0, 1) := by decide +kernel
theorem dL_law_1097 : decode cL_law 1097 = .ok (.iload_n 3, 1) := by decide +kernel
theorem dL_law_1098 : decode cL_law 1098 = .ok (.iconst 1, 1) := by decide +kernel
theorem dL_law_1099 : decode cL_law 1099 = .ok (.iadd, 1) := by decide +kernel
theorem dL_law_1100 : decode cL_law 1100 = .ok (.iaload, 1) := by decide +kernel
theorem dL_law_1101 : decode cL_law 1101 = .ok (.aload_n 0, 1) := by decide +kernel
theorem dL_law_1102 : decode cL_law 1102 = .ok (.iload_n 3, 1) := by decide +kernel
theorem dL_law_1103 : decode cL_law 1103 = .ok (.iconst 2, 1) := by decide +kernel
theorem dL_law_1104 : decode cL_law 1104 = .ok (.iadd, 1) := by decide +kernel
theorem dL_law_1105 : decode cL_law 1105 = .ok (.iaload, 1) := by decide +kernel
theorem dL_law_1106 : decode cL_law 1106 = .ok (.aload_n 0, 1) := by decide +kernel
theorem dL_law_1107 : decode cL_law 1107 = .ok (.iload_n 3, 1) := by decide +kernel
theorem dL_law_1108 : decode cL_law 1108 = .ok (.iconst 3, 1) := by decide +kernel
theorem dL_law_1109 : decode cL_law 1109 = .ok (.iadd, 1) := by decide +kernel
theorem dL_law_1110 : decode cL_law 1110 = .ok (.iaload, 1) := by decide +kernel
theorem dL_law_1111 : decode cL_law 1111 = .ok (.invokevirtual 145, 3) := by decide +kernel
theorem dL_law_1114 : decode cL_law 1114 = .ok (.aload_n 2, 1) := by decide +kernel
theorem dL_law_1115 : decode cL_law 1115 = .ok (.aload_n 0, 1) := by decide +kernel
theorem dL_law_1116 : decode cL_law 1116 = .ok (.iload_n 3, 1) := by decide +kernel
theorem dL_law_1117 : decode cL_law 1117 = .ok (.iconst 1, 1) := by decide +kernel
theorem dL_law_1118 : decode cL_law 1118 = .ok (.iadd, 1) := by decide +kernel
theorem dL_law_1119 : decode cL_law 1119 = .ok (.iaload, 1) := by decide +kernel
theorem dL_law_1120 : decode cL_law 1120 = .ok (.aload_n 0, 1) := by decide +kernel
theorem dL_law_1121 : decode cL_law 1121 = .ok (.iload_n 3, 1) := by decide +kernel
theorem dL_law_1122 : decode cL_law 1122 = .ok (.iconst 2, 1) := by decide +kernel
theorem dL_law_1123 : decode cL_law 1123 = .ok (.iadd, 1) := by decide +kernel
theorem dL_law_1124 : decode cL_law 1124 = .ok (.iaload, 1) := by decide +kernel
theorem dL_law_1125 : decode cL_law 1125 = .ok (.aload_n 0, 1) := by decide +kernel
theorem dL_law_1126 : decode cL_law 1126 = .ok (.iload_n 3, 1) := by decide +kernel
theorem dL_law_1127 : decode cL_law 1127 = .ok (.iconst 3, 1) := by decide +kernel
theorem dL_law_1128 : decode cL_law 1128 = .ok (.iadd, 1) := by decide +kernel
theorem dL_law_1129 : decode cL_law 1129 = .ok (.iaload, 1) := by decide +kernel
theorem dL_law_1130 : decode cL_law 1130 = .ok (.invokevirtual 148, 3) := by decide +kernel
theorem dL_law_1133 : decode cL_law 1133 = .ok (.if_icmp .eq 68, 3) := by decide +kernel
theorem dL_law_1136 : decode cL_law 1136 = .ok (.iconst 0, 1) := by decide +kernel
theorem dL_law_1137 : decode cL_law 1137 = .ok (.ireturn, 1) := by decide +kernel
theorem dL_law_1138 : decode cL_law 1138 = .ok (.aload_n 1, 1) := by decide +kernel
theorem dL_law_1139 : decode cL_law 1139 = .ok (.invokevirtual 149, 3) := by decide +kernel
theorem dL_law_1142 : decode cL_law 1142 = .ok (.aload_n 2, 1) := by decide +kernel
theorem dL_law_1143 : decode cL_law 1143 = .ok (.invokevirtual 152, 3) := by decide +kernel
theorem dL_law_1146 : decode cL_law 1146 = .ok (.if_icmp .eq 55, 3) := by decide +kernel
theorem dL_law_1149 : decode cL_law 1149 = .ok (.iconst 0, 1) := by decide +kernel
theorem dL_law_1150 : decode cL_law 1150 = .ok (.ireturn, 1) := by decide +kernel
theorem dL_law_1151 : decode cL_law 1151 = .ok (.aload_n 1, 1) := by decide +kernel
theorem dL_law_1152 : decode cL_law 1152 = .ok (.invokevirtual 153, 3) := by decide +kernel
theorem dL_law_1155 : decode cL_law 1155 = .ok (.aload_n 2, 1) := by decide +kernel
theorem dL_law_1156 : decode cL_law 1156 = .ok (.invokevirtual 156, 3) := by decide +kernel
theorem dL_law_1159 : decode cL_law 1159 = .ok (.if_icmp .eq 42, 3) := by decide +kernel
theorem dL_law_1162 : decode cL_law 1162 = .ok (.iconst 0, 1) := by decide +kernel
theorem dL_law_1163 : decode cL_law 1163 = .ok (.ireturn, 1) := by decide +kernel
theorem dL_law_1164 : decode cL_law 1164 = .ok (.aload_n 1, 1) := by decide +kernel
theorem dL_law_1165 : decode cL_law 1165 = .ok (.aload_n 0, 1) := by decide +kernel
theorem dL_law_1166 : decode cL_law 1166 = .ok (.iload_n 3, 1) := by decide +kernel
theorem dL_law_1167 : decode cL_law 1167 = .ok (.iconst 1, 1) := by decide +kernel
theorem dL_law_1168 : decode cL_law 1168 = .ok (.iadd, 1) := by decide +kernel
theorem dL_law_1169 : decode cL_law 1169 = .ok (.iaload, 1) := by decide +kernel
theorem dL_law_1170 : decode cL_law 1170 = .ok (.invokevirtual 157, 3) := by decide +kernel
theorem dL_law_1173 : decode cL_law 1173 = .ok (.aload_n 2, 1) := by decide +kernel
theorem dL_law_1174 : decode cL_law 1174 = .ok (.aload_n 0, 1) := by decide +kernel
theorem dL_law_1175 : decode cL_law 1175 = .ok (.iload_n 3, 1) := by decide +kernel
theorem dL_law_1176 : decode cL_law 1176 = .ok (.iconst 1, 1) := by decide +kernel
theorem dL_law_1177 : decode cL_law 1177 = .ok (.iadd, 1) := by decide +kernel
theorem dL_law_1178 : decode cL_law 1178 = .ok (.iaload, 1) := by decide +kernel
theorem dL_law_1179 : decode cL_law 1179 = .ok (.invokevirtual 160, 3) := by decide +kernel
theorem dL_law_1182 : decode cL_law 1182 = .ok (.if_icmp .eq 19, 3) := by decide +kernel
theorem dL_law_1185 : decode cL_law 1185 = .ok (.iconst 0, 1) := by decide +kernel
theorem dL_law_1186 : decode cL_law 1186 = .ok (.ireturn, 1) := by decide +kernel
theorem dL_law_1187 : decode cL_law 1187 = .ok (.aload_n 1, 1) := by decide +kernel
theorem dL_law_1188 : decode cL_law 1188 = .ok (.invokevirtual 161, 3) := by decide +kernel
theorem dL_law_1191 : decode cL_law 1191 = .ok (.aload_n 2, 1) := by decide +kernel
theorem dL_law_1192 : decode cL_law 1192 = .ok (.invokevirtual 165, 3) := by decide +kernel
theorem dL_law_1195 : decode cL_law 1195 = .ok (.lcmp, 1) := by decide +kernel
theorem dL_law_1196 : decode cL_law 1196 = .ok (.ifCond .eq 5, 3) := by decide +kernel
theorem dL_law_1199 : decode cL_law 1199 = .ok (.iconst 0, 1) := by decide +kernel
theorem dL_law_1200 : decode cL_law 1200 = .ok (.ireturn, 1) := by decide +kernel
theorem dL_law_1201 : decode cL_law 1201 = .ok (.iinc 3 5, 3) := by decide +kernel
theorem dL_law_1204 : decode cL_law 1204 = .ok (.goto (-1186), 3) := by decide +kernel
theorem dL_law_1207 : decode cL_law 1207 = .ok (.iconst 1, 1) := by decide +kernel
theorem dL_law_1208 : decode cL_law 1208 = .ok (.ireturn, 1) := by decide +kernel
set_option maxHeartbeats 40000000 in
set_option maxRecDepth 100000 in
theorem c_law (l : Launch) (E : zE) (n : Nat) (xs : Nat → Int32) (L : Nat) (h : zH) (res : Unit) (hf : F_L_law n xs L h = some res) {p : Program} {e : Env} {s : State} {m : MethodId} {below : List Frame} {meth : Method} {c : Code} {b : Nat} (C : zC p s m #[Value.ref b] meth c code 4 RL E) (hr : meth.sig.returnType = ret) (hgo : zB E = s.heap.size) (hX : va_X b L xs s E.2.2.1) (hbl : b < zB E) : zW p l e room_1 s m #[Value.ref b] below meth c E 4 (lw_Z below #[Value.ref b] s) 0 0 0 [(0, .ref b)] [] h := by
  unfold F_L_law at hf
  refine zr_new C hf kw_L_7 (Nat.le_of_ble_eq_true rfl) (Nat.le_of_ble_eq_true rfl) dL_law_0 (fun w1 h2 hf => ?_)
  refine zr_dup C dL_law_3 rfl ?_
  refine zr_callI (As := []) (rest := [.ref (zB E + w1)]) C hf (fun x hx => c_X10_init l E n h2 w1 x hx) ki_L_9 rfl rfl (Nat.le_of_ble_eq_true rfl) ⟨rfl, rfl⟩ ⟨Nat.le_of_ble_eq_true rfl, Nat.le_of_ble_eq_true rfl⟩ ⟨by show _ ≤ 866946; omega, by show _ ≤ 6501410; omega⟩ dL_law_4 (fun _ h3 hf => ?_)
  refine zr_astore_n (lo2 := [(1, .ref (zB E + w1)), (0, .ref b)]) C dL_law_7 rfl (by decide) rfl ?_
  refine zr_new C hf kw_L_10 (Nat.le_of_ble_eq_true rfl) (Nat.le_of_ble_eq_true rfl) dL_law_8 (fun w4 h5 hf => ?_)
  refine zr_dup C dL_law_11 rfl ?_
  refine zr_callI (As := []) (rest := [.ref (zB E + w4)]) C hf (fun x hx => c_X11_init l E n h5 w4 x hx) ki_L_12 rfl rfl (Nat.le_of_ble_eq_true rfl) ⟨rfl, rfl⟩ ⟨Nat.le_of_ble_eq_true rfl, Nat.le_of_ble_eq_true rfl⟩ ⟨by show _ ≤ 866946; omega, by show _ ≤ 6501410; omega⟩ dL_law_12 (fun _ h6 hf => ?_)
  refine zr_astore_n (lo2 := [(2, .ref (zB E + w4)), (1, .ref (zB E + w1)), (0, .ref b)]) C dL_law_15 rfl (by decide) rfl ?_
  refine zr_iconst (v := 0) C dL_law_16 (by decide) ?_
  refine zr_istore_n (lo2 := [(3, .int (0 : Int32)), (2, .ref (zB E + w4)), (1, .ref (zB E + w1)), (0, .ref b)]) C dL_law_17 rfl (by decide) rfl ?_
  have L18 : ∀ (fu : Nat) (x : zH × Int32 × Nat), zloop (fun kc x => F_L_law_B18 n xs L kc x.2.2 x.1 w1 w4 x.2.1) fu x = some res → zW p l e room_1 s m #[Value.ref b] below meth c E 4 (lw_Z below #[Value.ref b] s) (117 + 20 * x.2.2) (1026 + 48 * x.2.2) 18 [(0, .ref b), (1, .ref (zB E + w1)), (2, .ref (zB E + w4)), (3, .int x.2.1)] [] x.1 := by
    refine z_loop _ ?_
    intro kc18 hk18 x hf
    obtain ⟨h384, x383, gn⟩ := x
    dsimp only at hf ⊢
    unfold F_L_law_B18 at hf
    obtain ⟨hg20, hf⟩ := zif hf
    have J1201 : ∀ (h386 : zH) (x385 : Int32), F_L_law_J1201 n xs L kc18 gn h386 w1 w4 x385 = some res → zW p l e room_1 s m #[Value.ref b] below meth c E 4 (lw_Z below #[Value.ref b] s) (117 + 20 * gn + 20) (1026 + 48 * gn + 48) 1201 [(0, .ref b), (1, .ref (zB E + w1)), (2, .ref (zB E + w4)), (3, .int x385)] [] h386 := by
      intro h386 x385 hf
      unfold F_L_law_J1201 at hf
      refine zr_iinc (v0 := 5) (k := 3) (f := fun v => [(3, .int v), (0, .ref b), (1, .ref (zB E + w1)), (2, .ref (zB E + w4))]) C hf (by decide) dL_law_1201 rfl (by decide) (fun v => rfl) (fun x387 hf => ?_)
      refine zr_goto (tgt := 18) C dL_law_1204 (by decide) ?_
      refine zsub [1, 2, 3, 0] rfl ?_
      refine zwiden (k := 117 + 20 * (gn + 1)) (n := 1026 + 48 * (gn + 1)) (by omega) (by omega) ?_
      exact hk18 (h386, x387, gn + 1) hf
    refine zr_iload_n C dL_law_18 rfl 3 rfl ?_
    refine zr_aload_n C dL_law_19 rfl 0 rfl ?_
    refine zr_slen C hf hX hbl dL_law_20 (fun x388 hf => ?_)
    refine zr_iconst (v := 5) C dL_law_21 (by decide) ?_
    refine zr_isub C hf dL_law_22 (fun x389 hf => ?_)
    refine zr_icmp_gt (tgt := 1207) C hf dL_law_23 (by decide) (fun hf => ?_) (fun hf => ?_)
    · refine zwiden (k := 866946) (n := 6501410) (by omega) (by omega) ?_
      refine zr_iconst (v := 1) C dL_law_1207 (by decide) ?_
      exact zr_lawret C hr hgo (by omega) (by omega) dL_law_1208
    · refine zr_aload_n C dL_law_26 rfl 0 rfl ?_
      refine zr_iload_n C dL_law_27 rfl 3 rfl ?_
      refine zr_sld C hf hX hbl dL_law_28 (fun x390 hf => ?_)
      refine zr_bipush (v := 63) C dL_law_29 (by decide) ?_
      refine zr_iand C hf dL_law_31 (fun x391 hf => ?_)
      refine zr_ite hf (fun hx hf => zr_tableOut (tgt := 1201) C dL_law_32 hx (by decide) ?_) (fun hx hf => ?_)
      · refine zwiden (k := 117 + 20 * gn + 20) (n := 1026 + 48 * gn + 48) (by omega) (by omega) ?_
        exact J1201 h384 x383 hf
      · refine zr_ite hf (fun he hf => zr_tableIn (off := 160) (tgt := 192) C dL_law_32 (by rw [he]; decide) (by rw [he]; decide) (by rw [he]; decide +kernel) (by decide) ?_) (fun _ hf => ?_)
        · refine zr_aload_n C dL_law_192 rfl 1 rfl ?_
          refine zr_aload_n C dL_law_193 rfl 0 rfl ?_
          refine zr_iload_n C dL_law_194 rfl 3 rfl ?_
          refine zr_iconst (v := 1) C dL_law_195 (by decide) ?_
          refine zr_iadd C hf dL_law_196 (fun x392 hf => ?_)
          refine zr_sld C hf hX hbl dL_law_197 (fun x393 hf => ?_)
          refine zr_i2l C hf dL_law_198 (fun j394 hf => ?_)
          refine zr_bipush (v := 32) C dL_law_199 (by decide) ?_
          refine zr_lshl C hf dL_law_201 (fun j395 hf => ?_)
          refine zr_aload_n C dL_law_202 rfl 0 rfl ?_
          refine zr_iload_n C dL_law_203 rfl 3 rfl ?_
          refine zr_iconst (v := 2) C dL_law_204 (by decide) ?_
          refine zr_iadd C hf dL_law_205 (fun x396 hf => ?_)
          refine zr_sld C hf hX hbl dL_law_206 (fun x397 hf => ?_)
          refine zr_i2l C hf dL_law_207 (fun j398 hf => ?_)
          refine zr_ldc2 (v := 4294967295) C zt1343 dL_law_208 ?_
          refine zr_land C hf dL_law_211 (fun j399 hf => ?_)
          refine zr_lor C hf dL_law_212 (fun j400 hf => ?_)
          refine zr_callVi (As := [.long j400]) (rest := []) C hf (fun x hx => c_X10_letters l E n h384 w1 j400 x hx) kv_L_15 rfl rfl (Nat.le_of_ble_eq_true rfl) ⟨rfl, rfl⟩ ⟨Nat.le_of_ble_eq_true rfl, Nat.le_of_ble_eq_true rfl⟩ ⟨by show _ ≤ 866946; omega, by show _ ≤ 6501410; omega⟩ dL_law_213 (fun x402 h401 hf => ?_)
          refine zr_aload_n C dL_law_216 rfl 2 rfl ?_
          refine zr_aload_n C dL_law_217 rfl 0 rfl ?_
          refine zr_iload_n C dL_law_218 rfl 3 rfl ?_
          refine zr_iconst (v := 1) C dL_law_219 (by decide) ?_
          refine zr_iadd C hf dL_law_220 (fun x403 hf => ?_)
          refine zr_sld C hf hX hbl dL_law_221 (fun x404 hf => ?_)
          refine zr_i2l C hf dL_law_222 (fun j405 hf => ?_)
          refine zr_bipush (v := 32) C dL_law_223 (by decide) ?_
          refine zr_lshl C hf dL_law_225 (fun j406 hf => ?_)
          refine zr_aload_n C dL_law_226 rfl 0 rfl ?_
          refine zr_iload_n C dL_law_227 rfl 3 rfl ?_
          refine zr_iconst (v := 2) C dL_law_228 (by decide) ?_
          refine zr_iadd C hf dL_law_229 (fun x407 hf => ?_)
          refine zr_sld C hf hX hbl dL_law_230 (fun x408 hf => ?_)
          refine zr_i2l C hf dL_law_231 (fun j409 hf => ?_)
          refine zr_ldc2 (v := 4294967295) C zt1343 dL_law_232 ?_
          refine zr_land C hf dL_law_235 (fun j410 hf => ?_)
          refine zr_lor C hf dL_law_236 (fun j411 hf => ?_)
          refine zr_callVi (As := [.long j411]) (rest := [.int x402]) C hf (fun x hx => c_X11_letters l E n h401 w4 j411 x hx) kv_L_19 rfl rfl (Nat.le_of_ble_eq_true rfl) ⟨rfl, rfl⟩ ⟨Nat.le_of_ble_eq_true rfl, Nat.le_of_ble_eq_true rfl⟩ ⟨by show _ ≤ 866946; omega, by show _ ≤ 6501410; omega⟩ dL_law_237 (fun x413 h412 hf => ?_)
          refine zr_icmp_eq (tgt := 1201) C hf dL_law_240 (by decide) (fun hf => ?_) (fun hf => ?_)
          · refine zwiden (k := 117 + 20 * gn + 20) (n := 1026 + 48 * gn + 48) (by omega) (by omega) ?_
            exact J1201 h412 x383 hf
          · refine zwiden (k := 866946) (n := 6501410) (by omega) (by omega) ?_
            refine zr_iconst (v := 0) C dL_law_243 (by decide) ?_
            cases hf
        refine zr_ite hf (fun he hf => zr_tableIn (off := 213) (tgt := 245) C dL_law_32 (by rw [he]; decide) (by rw [he]; decide) (by rw [he]; decide +kernel) (by decide) ?_) (fun _ hf => ?_)
        · refine zr_aload_n C dL_law_245 rfl 1 rfl ?_
          refine zr_callVi (As := []) (rest := []) C hf (fun x hx => c_X10_blank l E n h384 w1 x hx) kv_L_20 rfl rfl (Nat.le_of_ble_eq_true rfl) ⟨rfl, rfl⟩ ⟨Nat.le_of_ble_eq_true rfl, Nat.le_of_ble_eq_true rfl⟩ ⟨by show _ ≤ 866946; omega, by show _ ≤ 6501410; omega⟩ dL_law_246 (fun x415 h414 hf => ?_)
          refine zr_aload_n C dL_law_249 rfl 2 rfl ?_
          refine zr_callVi (As := []) (rest := [.int x415]) C hf (fun x hx => c_X11_blank l E n h414 w4 x hx) kv_L_24 rfl rfl (Nat.le_of_ble_eq_true rfl) ⟨rfl, rfl⟩ ⟨Nat.le_of_ble_eq_true rfl, Nat.le_of_ble_eq_true rfl⟩ ⟨by show _ ≤ 866946; omega, by show _ ≤ 6501410; omega⟩ dL_law_250 (fun x417 h416 hf => ?_)
          refine zr_icmp_eq (tgt := 1201) C hf dL_law_253 (by decide) (fun hf => ?_) (fun hf => ?_)
          · refine zwiden (k := 117 + 20 * gn + 20) (n := 1026 + 48 * gn + 48) (by omega) (by omega) ?_
            exact J1201 h416 x383 hf
          · refine zwiden (k := 866946) (n := 6501410) (by omega) (by omega) ?_
            refine zr_iconst (v := 0) C dL_law_256 (by decide) ?_
            cases hf
        refine zr_ite hf (fun he hf => zr_tableIn (off := 226) (tgt := 258) C dL_law_32 (by rw [he]; decide) (by rw [he]; decide) (by rw [he]; decide +kernel) (by decide) ?_) (fun _ hf => ?_)
        · refine zr_aload_n C dL_law_258 rfl 1 rfl ?_
          refine zr_aload_n C dL_law_259 rfl 0 rfl ?_
          refine zr_iload_n C dL_law_260 rfl 3 rfl ?_
          refine zr_iconst (v := 1) C dL_law_261 (by decide) ?_
          refine zr_iadd C hf dL_law_262 (fun x418 hf => ?_)
          refine zr_sld C hf hX hbl dL_law_263 (fun x419 hf => ?_)
          refine zr_callVi (As := [.int x419]) (rest := []) C hf (fun x hx => c_X10_fault l E n h384 w1 x419 x hx) kv_L_25 rfl rfl (Nat.le_of_ble_eq_true rfl) ⟨rfl, rfl⟩ ⟨Nat.le_of_ble_eq_true rfl, Nat.le_of_ble_eq_true rfl⟩ ⟨by show _ ≤ 866946; omega, by show _ ≤ 6501410; omega⟩ dL_law_264 (fun x421 h420 hf => ?_)
          refine zr_aload_n C dL_law_267 rfl 2 rfl ?_
          refine zr_aload_n C dL_law_268 rfl 0 rfl ?_
          refine zr_iload_n C dL_law_269 rfl 3 rfl ?_
          refine zr_iconst (v := 1) C dL_law_270 (by decide) ?_
          refine zr_iadd C hf dL_law_271 (fun x422 hf => ?_)
          refine zr_sld C hf hX hbl dL_law_272 (fun x423 hf => ?_)
          refine zr_callVi (As := [.int x423]) (rest := [.int x421]) C hf (fun x hx => c_X11_fault l E n h420 w4 x423 x hx) kv_L_29 rfl rfl (Nat.le_of_ble_eq_true rfl) ⟨rfl, rfl⟩ ⟨Nat.le_of_ble_eq_true rfl, Nat.le_of_ble_eq_true rfl⟩ ⟨by show _ ≤ 866946; omega, by show _ ≤ 6501410; omega⟩ dL_law_273 (fun x425 h424 hf => ?_)
          refine zr_icmp_eq (tgt := 1201) C hf dL_law_276 (by decide) (fun hf => ?_) (fun hf => ?_)
          · refine zwiden (k := 117 + 20 * gn + 20) (n := 1026 + 48 * gn + 48) (by omega) (by omega) ?_
            exact J1201 h424 x383 hf
          · refine zwiden (k := 866946) (n := 6501410) (by omega) (by omega) ?_
            refine zr_iconst (v := 0) C dL_law_279 (by decide) ?_
            cases hf
        refine zr_ite hf (fun he hf => zr_tableIn (off := 249) (tgt := 281) C dL_law_32 (by rw [he]; decide) (by rw [he]; decide) (by rw [he]; decide +kernel) (by decide) ?_) (fun _ hf => ?_)
        · refine zr_aload_n C dL_law_281 rfl 1 rfl ?_
          refine zr_callVi (As := []) (rest := []) C hf (fun x hx => c_X10_cup l E n h384 w1 x hx) kv_L_30 rfl rfl (Nat.le_of_ble_eq_true rfl) ⟨rfl, rfl⟩ ⟨Nat.le_of_ble_eq_true rfl, Nat.le_of_ble_eq_true rfl⟩ ⟨by show _ ≤ 866946; omega, by show _ ≤ 6501410; omega⟩ dL_law_282 (fun x427 h426 hf => ?_)
          refine zr_aload_n C dL_law_285 rfl 2 rfl ?_
          refine zr_callVi (As := []) (rest := [.int x427]) C hf (fun x hx => c_X11_cup l E n h426 w4 x hx) kv_L_33 rfl rfl (Nat.le_of_ble_eq_true rfl) ⟨rfl, rfl⟩ ⟨Nat.le_of_ble_eq_true rfl, Nat.le_of_ble_eq_true rfl⟩ ⟨by show _ ≤ 866946; omega, by show _ ≤ 6501410; omega⟩ dL_law_286 (fun x429 h428 hf => ?_)
          refine zr_icmp_eq (tgt := 1201) C hf dL_law_289 (by decide) (fun hf => ?_) (fun hf => ?_)
          · refine zwiden (k := 117 + 20 * gn + 20) (n := 1026 + 48 * gn + 48) (by omega) (by omega) ?_
            exact J1201 h428 x383 hf
          · refine zwiden (k := 866946) (n := 6501410) (by omega) (by omega) ?_
            refine zr_iconst (v := 0) C dL_law_292 (by decide) ?_
            cases hf
        refine zr_ite hf (fun he hf => zr_tableIn (off := 262) (tgt := 294) C dL_law_32 (by rw [he]; decide) (by rw [he]; decide) (by rw [he]; decide +kernel) (by decide) ?_) (fun _ hf => ?_)
        · refine zr_aload_n C dL_law_294 rfl 1 rfl ?_
          refine zr_callVi (As := []) (rest := []) C hf (fun x hx => c_X10_row l E n h384 w1 x hx) kv_L_34 rfl rfl (Nat.le_of_ble_eq_true rfl) ⟨rfl, rfl⟩ ⟨Nat.le_of_ble_eq_true rfl, Nat.le_of_ble_eq_true rfl⟩ ⟨by show _ ≤ 866946; omega, by show _ ≤ 6501410; omega⟩ dL_law_295 (fun x431 h430 hf => ?_)
          refine zr_aload_n C dL_law_298 rfl 2 rfl ?_
          refine zr_callVi (As := []) (rest := [.int x431]) C hf (fun x hx => c_X11_row l E n h430 w4 x hx) kv_L_37 rfl rfl (Nat.le_of_ble_eq_true rfl) ⟨rfl, rfl⟩ ⟨Nat.le_of_ble_eq_true rfl, Nat.le_of_ble_eq_true rfl⟩ ⟨by show _ ≤ 866946; omega, by show _ ≤ 6501410; omega⟩ dL_law_299 (fun x433 h432 hf => ?_)
          refine zr_icmp_eq (tgt := 1201) C hf dL_law_302 (by decide) (fun hf => ?_) (fun hf => ?_)
          · refine zwiden (k := 117 + 20 * gn + 20) (n := 1026 + 48 * gn + 48) (by omega) (by omega) ?_
            exact J1201 h432 x383 hf
          · refine zwiden (k := 866946) (n := 6501410) (by omega) (by omega) ?_
            refine zr_iconst (v := 0) C dL_law_305 (by decide) ?_
            cases hf
        refine zr_ite hf (fun he hf => zr_tableIn (off := 275) (tgt := 307) C dL_law_32 (by rw [he]; decide) (by rw [he]; decide) (by rw [he]; decide +kernel) (by decide) ?_) (fun _ hf => ?_)
        · refine zr_aload_n C dL_law_307 rfl 1 rfl ?_
          refine zr_callVi (As := []) (rest := []) C hf (fun x hx => c_X10_river l E n h384 w1 x hx) kv_L_38 rfl rfl (Nat.le_of_ble_eq_true rfl) ⟨rfl, rfl⟩ ⟨Nat.le_of_ble_eq_true rfl, Nat.le_of_ble_eq_true rfl⟩ ⟨by show _ ≤ 866946; omega, by show _ ≤ 6501410; omega⟩ dL_law_308 (fun x435 h434 hf => ?_)
          refine zr_aload_n C dL_law_311 rfl 2 rfl ?_
          refine zr_callVi (As := []) (rest := [.int x435]) C hf (fun x hx => c_X11_river l E n h434 w4 x hx) kv_L_41 rfl rfl (Nat.le_of_ble_eq_true rfl) ⟨rfl, rfl⟩ ⟨Nat.le_of_ble_eq_true rfl, Nat.le_of_ble_eq_true rfl⟩ ⟨by show _ ≤ 866946; omega, by show _ ≤ 6501410; omega⟩ dL_law_312 (fun x437 h436 hf => ?_)
          refine zr_icmp_eq (tgt := 1201) C hf dL_law_315 (by decide) (fun hf => ?_) (fun hf => ?_)
          · refine zwiden (k := 117 + 20 * gn + 20) (n := 1026 + 48 * gn + 48) (by omega) (by omega) ?_
            exact J1201 h436 x383 hf
          · refine zwiden (k := 866946) (n := 6501410) (by omega) (by omega) ?_
            refine zr_iconst (v := 0) C dL_law_318 (by decide) ?_
            cases hf
        refine zr_ite hf (fun he hf => zr_tableIn (off := 288) (tgt := 320) C dL_law_32 (by rw [he]; decide) (by rw [he]; decide) (by rw [he]; decide +kernel) (by decide) ?_) (fun _ hf => ?_)
        · refine zr_aload_n C dL_law_320 rfl 1 rfl ?_
          refine zr_aload_n C dL_law_321 rfl 0 rfl ?_
          refine zr_iload_n C dL_law_322 rfl 3 rfl ?_
          refine zr_iconst (v := 1) C dL_law_323 (by decide) ?_
          refine zr_iadd C hf dL_law_324 (fun x438 hf => ?_)
          refine zr_sld C hf hX hbl dL_law_325 (fun x439 hf => ?_)
          refine zr_callVi (As := [.int x439]) (rest := []) C hf (fun x hx => c_X10_cupTold l E n h384 w1 x439 x hx) kv_L_42 rfl rfl (Nat.le_of_ble_eq_true rfl) ⟨rfl, rfl⟩ ⟨Nat.le_of_ble_eq_true rfl, Nat.le_of_ble_eq_true rfl⟩ ⟨by show _ ≤ 866946; omega, by show _ ≤ 6501410; omega⟩ dL_law_326 (fun x441 h440 hf => ?_)
          refine zr_aload_n C dL_law_329 rfl 2 rfl ?_
          refine zr_aload_n C dL_law_330 rfl 0 rfl ?_
          refine zr_iload_n C dL_law_331 rfl 3 rfl ?_
          refine zr_iconst (v := 1) C dL_law_332 (by decide) ?_
          refine zr_iadd C hf dL_law_333 (fun x442 hf => ?_)
          refine zr_sld C hf hX hbl dL_law_334 (fun x443 hf => ?_)
          refine zr_callVi (As := [.int x443]) (rest := [.int x441]) C hf (fun x hx => c_X11_cupTold l E n h440 w4 x443 x hx) kv_L_45 rfl rfl (Nat.le_of_ble_eq_true rfl) ⟨rfl, rfl⟩ ⟨Nat.le_of_ble_eq_true rfl, Nat.le_of_ble_eq_true rfl⟩ ⟨by show _ ≤ 866946; omega, by show _ ≤ 6501410; omega⟩ dL_law_335 (fun x445 h444 hf => ?_)
          refine zr_icmp_eq (tgt := 1201) C hf dL_law_338 (by decide) (fun hf => ?_) (fun hf => ?_)
          · refine zwiden (k := 117 + 20 * gn + 20) (n := 1026 + 48 * gn + 48) (by omega) (by omega) ?_
            exact J1201 h444 x383 hf
          · refine zwiden (k := 866946) (n := 6501410) (by omega) (by omega) ?_
            refine zr_iconst (v := 0) C dL_law_341 (by decide) ?_
            cases hf
        refine zr_ite hf (fun he hf => zr_tableIn (off := 311) (tgt := 343) C dL_law_32 (by rw [he]; decide) (by rw [he]; decide) (by rw [he]; decide +kernel) (by decide) ?_) (fun _ hf => ?_)
        · refine zr_aload_n C dL_law_343 rfl 1 rfl ?_
          refine zr_aload_n C dL_law_344 rfl 0 rfl ?_
          refine zr_iload_n C dL_law_345 rfl 3 rfl ?_
          refine zr_iconst (v := 1) C dL_law_346 (by decide) ?_
          refine zr_iadd C hf dL_law_347 (fun x446 hf => ?_)
          refine zr_sld C hf hX hbl dL_law_348 (fun x447 hf => ?_)
          refine zr_aload_n C dL_law_349 rfl 0 rfl ?_
          refine zr_iload_n C dL_law_350 rfl 3 rfl ?_
          refine zr_iconst (v := 2) C dL_law_351 (by decide) ?_
          refine zr_iadd C hf dL_law_352 (fun x448 hf => ?_)
          refine zr_sld C hf hX hbl dL_law_353 (fun x449 hf => ?_)
          refine zr_callV (rv := fun r => some (.int r)) (As := [.int x447, .int x449]) (rest := []) C hf (fun x hx => c_X10_doing l E n h384 w1 x447 x449 x hx) kv_L_46 rfl rfl (Nat.le_of_ble_eq_true rfl) ⟨rfl, rfl⟩ ⟨Nat.le_of_ble_eq_true rfl, Nat.le_of_ble_eq_true rfl⟩ ⟨by show _ ≤ 866946; omega, by show _ ≤ 6501410; omega⟩ dL_law_354 (fun x451 h450 hf => ?_)
          refine zr_aload_n C dL_law_357 rfl 2 rfl ?_
          refine zr_aload_n C dL_law_358 rfl 0 rfl ?_
          refine zr_iload_n C dL_law_359 rfl 3 rfl ?_
          refine zr_iconst (v := 1) C dL_law_360 (by decide) ?_
          refine zr_iadd C hf dL_law_361 (fun x452 hf => ?_)
          refine zr_sld C hf hX hbl dL_law_362 (fun x453 hf => ?_)
          refine zr_aload_n C dL_law_363 rfl 0 rfl ?_
          refine zr_iload_n C dL_law_364 rfl 3 rfl ?_
          refine zr_iconst (v := 2) C dL_law_365 (by decide) ?_
          refine zr_iadd C hf dL_law_366 (fun x454 hf => ?_)
          refine zr_sld C hf hX hbl dL_law_367 (fun x455 hf => ?_)
          refine zr_callVi (As := [.int x453, .int x455]) (rest := [.int x451]) C hf (fun x hx => c_X11_doing l E n h450 w4 x453 x455 x hx) kv_L_50 rfl rfl (Nat.le_of_ble_eq_true rfl) ⟨rfl, rfl⟩ ⟨Nat.le_of_ble_eq_true rfl, Nat.le_of_ble_eq_true rfl⟩ ⟨by show _ ≤ 866946; omega, by show _ ≤ 6501410; omega⟩ dL_law_368 (fun x457 h456 hf => ?_)
          refine zr_icmp_eq (tgt := 1201) C hf dL_law_371 (by decide) (fun hf => ?_) (fun hf => ?_)
          · refine zwiden (k := 117 + 20 * gn + 20) (n := 1026 + 48 * gn + 48) (by omega) (by omega) ?_
            exact J1201 h456 x383 hf
          · refine zwiden (k := 866946) (n := 6501410) (by omega) (by omega) ?_
            refine zr_iconst (v := 0) C dL_law_374 (by decide) ?_
            cases hf
        refine zr_ite hf (fun he hf => zr_tableIn (off := 344) (tgt := 376) C dL_law_32 (by rw [he]; decide) (by rw [he]; decide) (by rw [he]; decide +kernel) (by decide) ?_) (fun _ hf => ?_)
        · refine zr_aload_n C dL_law_376 rfl 1 rfl ?_
          refine zr_aload_n C dL_law_377 rfl 0 rfl ?_
          refine zr_iload_n C dL_law_378 rfl 3 rfl ?_
          refine zr_iconst (v := 1) C dL_law_379 (by decide) ?_
          refine zr_iadd C hf dL_law_380 (fun x458 hf => ?_)
          refine zr_sld C hf hX hbl dL_law_381 (fun x459 hf => ?_)
          refine zr_aload_n C dL_law_382 rfl 0 rfl ?_
          refine zr_iload_n C dL_law_383 rfl 3 rfl ?_
          refine zr_iconst (v := 2) C dL_law_384 (by decide) ?_
          refine zr_iadd C hf dL_law_385 (fun x460 hf => ?_)
          refine zr_sld C hf hX hbl dL_law_386 (fun x461 hf => ?_)
          refine zr_callVi (As := [.int x459, .int x461]) (rest := []) C hf (fun x hx => c_X10_as l E n h384 w1 x459 x461 x hx) kv_L_51 rfl rfl (Nat.le_of_ble_eq_true rfl) ⟨rfl, rfl⟩ ⟨Nat.le_of_ble_eq_true rfl, Nat.le_of_ble_eq_true rfl⟩ ⟨by show _ ≤ 866946; omega, by show _ ≤ 6501410; omega⟩ dL_law_387 (fun x463 h462 hf => ?_)
          refine zr_aload_n C dL_law_390 rfl 2 rfl ?_
          refine zr_aload_n C dL_law_391 rfl 0 rfl ?_
          refine zr_iload_n C dL_law_392 rfl 3 rfl ?_
          refine zr_iconst (v := 1) C dL_law_393 (by decide) ?_
          refine zr_iadd C hf dL_law_394 (fun x464 hf => ?_)
          refine zr_sld C hf hX hbl dL_law_395 (fun x465 hf => ?_)
          refine zr_aload_n C dL_law_396 rfl 0 rfl ?_
          refine zr_iload_n C dL_law_397 rfl 3 rfl ?_
          refine zr_iconst (v := 2) C dL_law_398 (by decide) ?_
          refine zr_iadd C hf dL_law_399 (fun x466 hf => ?_)
          refine zr_sld C hf hX hbl dL_law_400 (fun x467 hf => ?_)
          refine zr_callVi (As := [.int x465, .int x467]) (rest := [.int x463]) C hf (fun x hx => c_X11_as l E n h462 w4 x465 x467 x hx) kv_L_54 rfl rfl (Nat.le_of_ble_eq_true rfl) ⟨rfl, rfl⟩ ⟨Nat.le_of_ble_eq_true rfl, Nat.le_of_ble_eq_true rfl⟩ ⟨by show _ ≤ 866946; omega, by show _ ≤ 6501410; omega⟩ dL_law_401 (fun x469 h468 hf => ?_)
          refine zr_icmp_eq (tgt := 1201) C hf dL_law_404 (by decide) (fun hf => ?_) (fun hf => ?_)
          · refine zwiden (k := 117 + 20 * gn + 20) (n := 1026 + 48 * gn + 48) (by omega) (by omega) ?_
            exact J1201 h468 x383 hf
          · refine zwiden (k := 866946) (n := 6501410) (by omega) (by omega) ?_
            refine zr_iconst (v := 0) C dL_law_407 (by decide) ?_
            cases hf
        refine zr_ite hf (fun he hf => zr_tableIn (off := 377) (tgt := 409) C dL_law_32 (by rw [he]; decide) (by rw [he]; decide) (by rw [he]; decide +kernel) (by decide) ?_) (fun _ hf => ?_)
        · refine zr_aload_n C dL_law_409 rfl 1 rfl ?_
          refine zr_aload_n C dL_law_410 rfl 0 rfl ?_
          refine zr_iload_n C dL_law_411 rfl 3 rfl ?_
          refine zr_iconst (v := 1) C dL_law_412 (by decide) ?_
          refine zr_iadd C hf dL_law_413 (fun x470 hf => ?_)
          refine zr_sld C hf hX hbl dL_law_414 (fun x471 hf => ?_)
          refine zr_aload_n C dL_law_415 rfl 0 rfl ?_
          refine zr_iload_n C dL_law_416 rfl 3 rfl ?_
          refine zr_iconst (v := 2) C dL_law_417 (by decide) ?_
          refine zr_iadd C hf dL_law_418 (fun x472 hf => ?_)
          refine zr_sld C hf hX hbl dL_law_419 (fun x473 hf => ?_)
          refine zr_aload_n C dL_law_420 rfl 0 rfl ?_
          refine zr_iload_n C dL_law_421 rfl 3 rfl ?_
          refine zr_iconst (v := 3) C dL_law_422 (by decide) ?_
          refine zr_iadd C hf dL_law_423 (fun x474 hf => ?_)
          refine zr_sld C hf hX hbl dL_law_424 (fun x475 hf => ?_)
          refine zr_callVi (As := [.int x471, .int x473, .int x475]) (rest := []) C hf (fun x hx => c_X10_leaf l E n h384 w1 x471 x473 x475 x hx) kv_L_55 rfl rfl (Nat.le_of_ble_eq_true rfl) ⟨rfl, rfl⟩ ⟨Nat.le_of_ble_eq_true rfl, Nat.le_of_ble_eq_true rfl⟩ ⟨by show _ ≤ 866946; omega, by show _ ≤ 6501410; omega⟩ dL_law_425 (fun x477 h476 hf => ?_)
          refine zr_aload_n C dL_law_428 rfl 2 rfl ?_
          refine zr_aload_n C dL_law_429 rfl 0 rfl ?_
          refine zr_iload_n C dL_law_430 rfl 3 rfl ?_
          refine zr_iconst (v := 1) C dL_law_431 (by decide) ?_
          refine zr_iadd C hf dL_law_432 (fun x478 hf => ?_)
          refine zr_sld C hf hX hbl dL_law_433 (fun x479 hf => ?_)
          refine zr_aload_n C dL_law_434 rfl 0 rfl ?_
          refine zr_iload_n C dL_law_435 rfl 3 rfl ?_
          refine zr_iconst (v := 2) C dL_law_436 (by decide) ?_
          refine zr_iadd C hf dL_law_437 (fun x480 hf => ?_)
          refine zr_sld C hf hX hbl dL_law_438 (fun x481 hf => ?_)
          refine zr_aload_n C dL_law_439 rfl 0 rfl ?_
          refine zr_iload_n C dL_law_440 rfl 3 rfl ?_
          refine zr_iconst (v := 3) C dL_law_441 (by decide) ?_
          refine zr_iadd C hf dL_law_442 (fun x482 hf => ?_)
          refine zr_sld C hf hX hbl dL_law_443 (fun x483 hf => ?_)
          refine zr_callVi (As := [.int x479, .int x481, .int x483]) (rest := [.int x477]) C hf (fun x hx => c_X11_leaf l E n h476 w4 x479 x481 x483 x hx) kv_L_59 rfl rfl (Nat.le_of_ble_eq_true rfl) ⟨rfl, rfl⟩ ⟨Nat.le_of_ble_eq_true rfl, Nat.le_of_ble_eq_true rfl⟩ ⟨by show _ ≤ 866946; omega, by show _ ≤ 6501410; omega⟩ dL_law_444 (fun x485 h484 hf => ?_)
          refine zr_icmp_eq (tgt := 1201) C hf dL_law_447 (by decide) (fun hf => ?_) (fun hf => ?_)
          · refine zwiden (k := 117 + 20 * gn + 20) (n := 1026 + 48 * gn + 48) (by omega) (by omega) ?_
            exact J1201 h484 x383 hf
          · refine zwiden (k := 866946) (n := 6501410) (by omega) (by omega) ?_
            refine zr_iconst (v := 0) C dL_law_450 (by decide) ?_
            cases hf
        refine zr_ite hf (fun he hf => zr_tableIn (off := 420) (tgt := 452) C dL_law_32 (by rw [he]; decide) (by rw [he]; decide) (by rw [he]; decide +kernel) (by decide) ?_) (fun _ hf => ?_)
        · refine zr_aload_n C dL_law_452 rfl 1 rfl ?_
          refine zr_aload_n C dL_law_453 rfl 0 rfl ?_
          refine zr_iload_n C dL_law_454 rfl 3 rfl ?_
          refine zr_iconst (v := 1) C dL_law_455 (by decide) ?_
          refine zr_iadd C hf dL_law_456 (fun x486 hf => ?_)
          refine zr_sld C hf hX hbl dL_law_457 (fun x487 hf => ?_)
          refine zr_aload_n C dL_law_458 rfl 0 rfl ?_
          refine zr_iload_n C dL_law_459 rfl 3 rfl ?_
          refine zr_iconst (v := 2) C dL_law_460 (by decide) ?_
          refine zr_iadd C hf dL_law_461 (fun x488 hf => ?_)
          refine zr_sld C hf hX hbl dL_law_462 (fun x489 hf => ?_)
          refine zr_callVi (As := [.int x487, .int x489]) (rest := []) C hf (fun x hx => c_X10_about l E n h384 w1 x487 x489 x hx) kv_L_60 rfl rfl (Nat.le_of_ble_eq_true rfl) ⟨rfl, rfl⟩ ⟨Nat.le_of_ble_eq_true rfl, Nat.le_of_ble_eq_true rfl⟩ ⟨by show _ ≤ 866946; omega, by show _ ≤ 6501410; omega⟩ dL_law_463 (fun x491 h490 hf => ?_)
          refine zr_aload_n C dL_law_466 rfl 2 rfl ?_
          refine zr_aload_n C dL_law_467 rfl 0 rfl ?_
          refine zr_iload_n C dL_law_468 rfl 3 rfl ?_
          refine zr_iconst (v := 1) C dL_law_469 (by decide) ?_
          refine zr_iadd C hf dL_law_470 (fun x492 hf => ?_)
          refine zr_sld C hf hX hbl dL_law_471 (fun x493 hf => ?_)
          refine zr_aload_n C dL_law_472 rfl 0 rfl ?_
          refine zr_iload_n C dL_law_473 rfl 3 rfl ?_
          refine zr_iconst (v := 2) C dL_law_474 (by decide) ?_
          refine zr_iadd C hf dL_law_475 (fun x494 hf => ?_)
          refine zr_sld C hf hX hbl dL_law_476 (fun x495 hf => ?_)
          refine zr_callVi (As := [.int x493, .int x495]) (rest := [.int x491]) C hf (fun x hx => c_X11_about l E n h490 w4 x493 x495 x hx) kv_L_63 rfl rfl (Nat.le_of_ble_eq_true rfl) ⟨rfl, rfl⟩ ⟨Nat.le_of_ble_eq_true rfl, Nat.le_of_ble_eq_true rfl⟩ ⟨by show _ ≤ 866946; omega, by show _ ≤ 6501410; omega⟩ dL_law_477 (fun x497 h496 hf => ?_)
          refine zr_icmp_eq (tgt := 1201) C hf dL_law_480 (by decide) (fun hf => ?_) (fun hf => ?_)
          · refine zwiden (k := 117 + 20 * gn + 20) (n := 1026 + 48 * gn + 48) (by omega) (by omega) ?_
            exact J1201 h496 x383 hf
          · refine zwiden (k := 866946) (n := 6501410) (by omega) (by omega) ?_
            refine zr_iconst (v := 0) C dL_law_483 (by decide) ?_
            cases hf
        refine zr_ite hf (fun he hf => zr_tableIn (off := 453) (tgt := 485) C dL_law_32 (by rw [he]; decide) (by rw [he]; decide) (by rw [he]; decide +kernel) (by decide) ?_) (fun _ hf => ?_)
        · refine zr_aload_n C dL_law_485 rfl 1 rfl ?_
          refine zr_aload_n C dL_law_486 rfl 0 rfl ?_
          refine zr_iload_n C dL_law_487 rfl 3 rfl ?_
          refine zr_iconst (v := 1) C dL_law_488 (by decide) ?_
          refine zr_iadd C hf dL_law_489 (fun x498 hf => ?_)
          refine zr_sld C hf hX hbl dL_law_490 (fun x499 hf => ?_)
          refine zr_aload_n C dL_law_491 rfl 0 rfl ?_
          refine zr_iload_n C dL_law_492 rfl 3 rfl ?_
          refine zr_iconst (v := 2) C dL_law_493 (by decide) ?_
          refine zr_iadd C hf dL_law_494 (fun x500 hf => ?_)
          refine zr_sld C hf hX hbl dL_law_495 (fun x501 hf => ?_)
          refine zr_callVi (As := [.int x499, .int x501]) (rest := []) C hf (fun x hx => c_X10_ticks l E n h384 w1 x499 x501 x hx) kv_L_64 rfl rfl (Nat.le_of_ble_eq_true rfl) ⟨rfl, rfl⟩ ⟨Nat.le_of_ble_eq_true rfl, Nat.le_of_ble_eq_true rfl⟩ ⟨by show _ ≤ 866946; omega, by show _ ≤ 6501410; omega⟩ dL_law_496 (fun x503 h502 hf => ?_)
          refine zr_aload_n C dL_law_499 rfl 2 rfl ?_
          refine zr_aload_n C dL_law_500 rfl 0 rfl ?_
          refine zr_iload_n C dL_law_501 rfl 3 rfl ?_
          refine zr_iconst (v := 1) C dL_law_502 (by decide) ?_
          refine zr_iadd C hf dL_law_503 (fun x504 hf => ?_)
          refine zr_sld C hf hX hbl dL_law_504 (fun x505 hf => ?_)
          refine zr_aload_n C dL_law_505 rfl 0 rfl ?_
          refine zr_iload_n C dL_law_506 rfl 3 rfl ?_
          refine zr_iconst (v := 2) C dL_law_507 (by decide) ?_
          refine zr_iadd C hf dL_law_508 (fun x506 hf => ?_)
          refine zr_sld C hf hX hbl dL_law_509 (fun x507 hf => ?_)
          refine zr_callVi (As := [.int x505, .int x507]) (rest := [.int x503]) C hf (fun x hx => c_X11_ticks l E n h502 w4 x505 x507 x hx) kv_L_67 rfl rfl (Nat.le_of_ble_eq_true rfl) ⟨rfl, rfl⟩ ⟨Nat.le_of_ble_eq_true rfl, Nat.le_of_ble_eq_true rfl⟩ ⟨by show _ ≤ 866946; omega, by show _ ≤ 6501410; omega⟩ dL_law_510 (fun x509 h508 hf => ?_)
          refine zr_icmp_eq (tgt := 1201) C hf dL_law_513 (by decide) (fun hf => ?_) (fun hf => ?_)
          · refine zwiden (k := 117 + 20 * gn + 20) (n := 1026 + 48 * gn + 48) (by omega) (by omega) ?_
            exact J1201 h508 x383 hf
          · refine zwiden (k := 866946) (n := 6501410) (by omega) (by omega) ?_
            refine zr_iconst (v := 0) C dL_law_516 (by decide) ?_
            cases hf
        refine zr_ite hf (fun he hf => zr_tableIn (off := 486) (tgt := 518) C dL_law_32 (by rw [he]; decide) (by rw [he]; decide) (by rw [he]; decide +kernel) (by decide) ?_) (fun _ hf => ?_)
        · refine zr_aload_n C dL_law_518 rfl 1 rfl ?_
          refine zr_callVi (As := []) (rest := []) C hf (fun x hx => c_X10_still l E n h384 w1 x hx) kv_L_68 rfl rfl (Nat.le_of_ble_eq_true rfl) ⟨rfl, rfl⟩ ⟨Nat.le_of_ble_eq_true rfl, Nat.le_of_ble_eq_true rfl⟩ ⟨by show _ ≤ 866946; omega, by show _ ≤ 6501410; omega⟩ dL_law_519 (fun x511 h510 hf => ?_)
          refine zr_aload_n C dL_law_522 rfl 2 rfl ?_
          refine zr_callVi (As := []) (rest := [.int x511]) C hf (fun x hx => c_X11_still l E n h510 w4 x hx) kv_L_71 rfl rfl (Nat.le_of_ble_eq_true rfl) ⟨rfl, rfl⟩ ⟨Nat.le_of_ble_eq_true rfl, Nat.le_of_ble_eq_true rfl⟩ ⟨by show _ ≤ 866946; omega, by show _ ≤ 6501410; omega⟩ dL_law_523 (fun x513 h512 hf => ?_)
          refine zr_icmp_eq (tgt := 1201) C hf dL_law_526 (by decide) (fun hf => ?_) (fun hf => ?_)
          · refine zwiden (k := 117 + 20 * gn + 20) (n := 1026 + 48 * gn + 48) (by omega) (by omega) ?_
            exact J1201 h512 x383 hf
          · refine zwiden (k := 866946) (n := 6501410) (by omega) (by omega) ?_
            refine zr_iconst (v := 0) C dL_law_529 (by decide) ?_
            cases hf
        refine zr_ite hf (fun he hf => zr_tableIn (off := 499) (tgt := 531) C dL_law_32 (by rw [he]; decide) (by rw [he]; decide) (by rw [he]; decide +kernel) (by decide) ?_) (fun _ hf => ?_)
        · refine zr_aload_n C dL_law_531 rfl 1 rfl ?_
          refine zr_aload_n C dL_law_532 rfl 0 rfl ?_
          refine zr_iload_n C dL_law_533 rfl 3 rfl ?_
          refine zr_iconst (v := 1) C dL_law_534 (by decide) ?_
          refine zr_iadd C hf dL_law_535 (fun x514 hf => ?_)
          refine zr_sld C hf hX hbl dL_law_536 (fun x515 hf => ?_)
          refine zr_aload_n C dL_law_537 rfl 0 rfl ?_
          refine zr_iload_n C dL_law_538 rfl 3 rfl ?_
          refine zr_iconst (v := 2) C dL_law_539 (by decide) ?_
          refine zr_iadd C hf dL_law_540 (fun x516 hf => ?_)
          refine zr_sld C hf hX hbl dL_law_541 (fun x517 hf => ?_)
          refine zr_callVi (As := [.int x515, .int x517]) (rest := []) C hf (fun x hx => c_X10_round l E n h384 w1 x515 x517 x hx) kv_L_72 rfl rfl (Nat.le_of_ble_eq_true rfl) ⟨rfl, rfl⟩ ⟨Nat.le_of_ble_eq_true rfl, Nat.le_of_ble_eq_true rfl⟩ ⟨by show _ ≤ 866946; omega, by show _ ≤ 6501410; omega⟩ dL_law_542 (fun x519 h518 hf => ?_)
          refine zr_aload_n C dL_law_545 rfl 2 rfl ?_
          refine zr_aload_n C dL_law_546 rfl 0 rfl ?_
          refine zr_iload_n C dL_law_547 rfl 3 rfl ?_
          refine zr_iconst (v := 1) C dL_law_548 (by decide) ?_
          refine zr_iadd C hf dL_law_549 (fun x520 hf => ?_)
          refine zr_sld C hf hX hbl dL_law_550 (fun x521 hf => ?_)
          refine zr_aload_n C dL_law_551 rfl 0 rfl ?_
          refine zr_iload_n C dL_law_552 rfl 3 rfl ?_
          refine zr_iconst (v := 2) C dL_law_553 (by decide) ?_
          refine zr_iadd C hf dL_law_554 (fun x522 hf => ?_)
          refine zr_sld C hf hX hbl dL_law_555 (fun x523 hf => ?_)
          refine zr_callVi (As := [.int x521, .int x523]) (rest := [.int x519]) C hf (fun x hx => c_X11_round l E n h518 w4 x521 x523 x hx) kv_L_75 rfl rfl (Nat.le_of_ble_eq_true rfl) ⟨rfl, rfl⟩ ⟨Nat.le_of_ble_eq_true rfl, Nat.le_of_ble_eq_true rfl⟩ ⟨by show _ ≤ 866946; omega, by show _ ≤ 6501410; omega⟩ dL_law_556 (fun x525 h524 hf => ?_)
          refine zr_icmp_eq (tgt := 1201) C hf dL_law_559 (by decide) (fun hf => ?_) (fun hf => ?_)
          · refine zwiden (k := 117 + 20 * gn + 20) (n := 1026 + 48 * gn + 48) (by omega) (by omega) ?_
            exact J1201 h524 x383 hf
          · refine zwiden (k := 866946) (n := 6501410) (by omega) (by omega) ?_
            refine zr_iconst (v := 0) C dL_law_562 (by decide) ?_
            cases hf
        refine zr_ite hf (fun he hf => zr_tableIn (off := 532) (tgt := 564) C dL_law_32 (by rw [he]; decide) (by rw [he]; decide) (by rw [he]; decide +kernel) (by decide) ?_) (fun _ hf => ?_)
        · refine zr_aload_n C dL_law_564 rfl 1 rfl ?_
          refine zr_aload_n C dL_law_565 rfl 0 rfl ?_
          refine zr_iload_n C dL_law_566 rfl 3 rfl ?_
          refine zr_iconst (v := 1) C dL_law_567 (by decide) ?_
          refine zr_iadd C hf dL_law_568 (fun x526 hf => ?_)
          refine zr_sld C hf hX hbl dL_law_569 (fun x527 hf => ?_)
          refine zr_callVi (As := [.int x527]) (rest := []) C hf (fun x hx => c_X10_second l E n h384 w1 x527 x hx) kv_L_76 rfl rfl (Nat.le_of_ble_eq_true rfl) ⟨rfl, rfl⟩ ⟨Nat.le_of_ble_eq_true rfl, Nat.le_of_ble_eq_true rfl⟩ ⟨by show _ ≤ 866946; omega, by show _ ≤ 6501410; omega⟩ dL_law_570 (fun x529 h528 hf => ?_)
          refine zr_aload_n C dL_law_573 rfl 2 rfl ?_
          refine zr_aload_n C dL_law_574 rfl 0 rfl ?_
          refine zr_iload_n C dL_law_575 rfl 3 rfl ?_
          refine zr_iconst (v := 1) C dL_law_576 (by decide) ?_
          refine zr_iadd C hf dL_law_577 (fun x530 hf => ?_)
          refine zr_sld C hf hX hbl dL_law_578 (fun x531 hf => ?_)
          refine zr_callVi (As := [.int x531]) (rest := [.int x529]) C hf (fun x hx => c_X11_second l E n h528 w4 x531 x hx) kv_L_79 rfl rfl (Nat.le_of_ble_eq_true rfl) ⟨rfl, rfl⟩ ⟨Nat.le_of_ble_eq_true rfl, Nat.le_of_ble_eq_true rfl⟩ ⟨by show _ ≤ 866946; omega, by show _ ≤ 6501410; omega⟩ dL_law_579 (fun x533 h532 hf => ?_)
          refine zr_icmp_eq (tgt := 1201) C hf dL_law_582 (by decide) (fun hf => ?_) (fun hf => ?_)
          · refine zwiden (k := 117 + 20 * gn + 20) (n := 1026 + 48 * gn + 48) (by omega) (by omega) ?_
            exact J1201 h532 x383 hf
          · refine zwiden (k := 866946) (n := 6501410) (by omega) (by omega) ?_
            refine zr_iconst (v := 0) C dL_law_585 (by decide) ?_
            cases hf
        refine zr_ite hf (fun he hf => zr_tableIn (off := 555) (tgt := 587) C dL_law_32 (by rw [he]; decide) (by rw [he]; decide) (by rw [he]; decide +kernel) (by decide) ?_) (fun _ hf => ?_)
        · refine zr_aload_n C dL_law_587 rfl 1 rfl ?_
          refine zr_aload_n C dL_law_588 rfl 0 rfl ?_
          refine zr_iload_n C dL_law_589 rfl 3 rfl ?_
          refine zr_iconst (v := 1) C dL_law_590 (by decide) ?_
          refine zr_iadd C hf dL_law_591 (fun x534 hf => ?_)
          refine zr_sld C hf hX hbl dL_law_592 (fun x535 hf => ?_)
          refine zr_aload_n C dL_law_593 rfl 0 rfl ?_
          refine zr_iload_n C dL_law_594 rfl 3 rfl ?_
          refine zr_iconst (v := 2) C dL_law_595 (by decide) ?_
          refine zr_iadd C hf dL_law_596 (fun x536 hf => ?_)
          refine zr_sld C hf hX hbl dL_law_597 (fun x537 hf => ?_)
          refine zr_aload_n C dL_law_598 rfl 0 rfl ?_
          refine zr_iload_n C dL_law_599 rfl 3 rfl ?_
          refine zr_iconst (v := 3) C dL_law_600 (by decide) ?_
          refine zr_iadd C hf dL_law_601 (fun x538 hf => ?_)
          refine zr_sld C hf hX hbl dL_law_602 (fun x539 hf => ?_)
          refine zr_callVi (As := [.int x535, .int x537, .int x539]) (rest := []) C hf (fun x hx => c_X10_would l E n h384 w1 x535 x537 x539 x hx) kv_L_80 rfl rfl (Nat.le_of_ble_eq_true rfl) ⟨rfl, rfl⟩ ⟨Nat.le_of_ble_eq_true rfl, Nat.le_of_ble_eq_true rfl⟩ ⟨by show _ ≤ 866946; omega, by show _ ≤ 6501410; omega⟩ dL_law_603 (fun x541 h540 hf => ?_)
          refine zr_aload_n C dL_law_606 rfl 2 rfl ?_
          refine zr_aload_n C dL_law_607 rfl 0 rfl ?_
          refine zr_iload_n C dL_law_608 rfl 3 rfl ?_
          refine zr_iconst (v := 1) C dL_law_609 (by decide) ?_
          refine zr_iadd C hf dL_law_610 (fun x542 hf => ?_)
          refine zr_sld C hf hX hbl dL_law_611 (fun x543 hf => ?_)
          refine zr_aload_n C dL_law_612 rfl 0 rfl ?_
          refine zr_iload_n C dL_law_613 rfl 3 rfl ?_
          refine zr_iconst (v := 2) C dL_law_614 (by decide) ?_
          refine zr_iadd C hf dL_law_615 (fun x544 hf => ?_)
          refine zr_sld C hf hX hbl dL_law_616 (fun x545 hf => ?_)
          refine zr_aload_n C dL_law_617 rfl 0 rfl ?_
          refine zr_iload_n C dL_law_618 rfl 3 rfl ?_
          refine zr_iconst (v := 3) C dL_law_619 (by decide) ?_
          refine zr_iadd C hf dL_law_620 (fun x546 hf => ?_)
          refine zr_sld C hf hX hbl dL_law_621 (fun x547 hf => ?_)
          refine zr_callVi (As := [.int x543, .int x545, .int x547]) (rest := [.int x541]) C hf (fun x hx => c_X11_would l E n h540 w4 x543 x545 x547 x hx) kv_L_83 rfl rfl (Nat.le_of_ble_eq_true rfl) ⟨rfl, rfl⟩ ⟨Nat.le_of_ble_eq_true rfl, Nat.le_of_ble_eq_true rfl⟩ ⟨by show _ ≤ 866946; omega, by show _ ≤ 6501410; omega⟩ dL_law_622 (fun x549 h548 hf => ?_)
          refine zr_icmp_eq (tgt := 1201) C hf dL_law_625 (by decide) (fun hf => ?_) (fun hf => ?_)
          · refine zwiden (k := 117 + 20 * gn + 20) (n := 1026 + 48 * gn + 48) (by omega) (by omega) ?_
            exact J1201 h548 x383 hf
          · refine zwiden (k := 866946) (n := 6501410) (by omega) (by omega) ?_
            refine zr_iconst (v := 0) C dL_law_628 (by decide) ?_
            cases hf
        refine zr_ite hf (fun he hf => zr_tableIn (off := 598) (tgt := 630) C dL_law_32 (by rw [he]; decide) (by rw [he]; decide) (by rw [he]; decide +kernel) (by decide) ?_) (fun _ hf => ?_)
        · refine zr_aload_n C dL_law_630 rfl 1 rfl ?_
          refine zr_aload_n C dL_law_631 rfl 0 rfl ?_
          refine zr_iload_n C dL_law_632 rfl 3 rfl ?_
          refine zr_iconst (v := 1) C dL_law_633 (by decide) ?_
          refine zr_iadd C hf dL_law_634 (fun x550 hf => ?_)
          refine zr_sld C hf hX hbl dL_law_635 (fun x551 hf => ?_)
          refine zr_aload_n C dL_law_636 rfl 0 rfl ?_
          refine zr_iload_n C dL_law_637 rfl 3 rfl ?_
          refine zr_iconst (v := 2) C dL_law_638 (by decide) ?_
          refine zr_iadd C hf dL_law_639 (fun x552 hf => ?_)
          refine zr_sld C hf hX hbl dL_law_640 (fun x553 hf => ?_)
          refine zr_callVi (As := [.int x551, .int x553]) (rest := []) C hf (fun x hx => c_X10_ends l E n h384 w1 x551 x553 x hx) kv_L_84 rfl rfl (Nat.le_of_ble_eq_true rfl) ⟨rfl, rfl⟩ ⟨Nat.le_of_ble_eq_true rfl, Nat.le_of_ble_eq_true rfl⟩ ⟨by show _ ≤ 866946; omega, by show _ ≤ 6501410; omega⟩ dL_law_641 (fun x555 h554 hf => ?_)
          refine zr_aload_n C dL_law_644 rfl 2 rfl ?_
          refine zr_aload_n C dL_law_645 rfl 0 rfl ?_
          refine zr_iload_n C dL_law_646 rfl 3 rfl ?_
          refine zr_iconst (v := 1) C dL_law_647 (by decide) ?_
          refine zr_iadd C hf dL_law_648 (fun x556 hf => ?_)
          refine zr_sld C hf hX hbl dL_law_649 (fun x557 hf => ?_)
          refine zr_aload_n C dL_law_650 rfl 0 rfl ?_
          refine zr_iload_n C dL_law_651 rfl 3 rfl ?_
          refine zr_iconst (v := 2) C dL_law_652 (by decide) ?_
          refine zr_iadd C hf dL_law_653 (fun x558 hf => ?_)
          refine zr_sld C hf hX hbl dL_law_654 (fun x559 hf => ?_)
          refine zr_callVi (As := [.int x557, .int x559]) (rest := [.int x555]) C hf (fun x hx => c_X11_ends l E n h554 w4 x557 x559 x hx) kv_L_87 rfl rfl (Nat.le_of_ble_eq_true rfl) ⟨rfl, rfl⟩ ⟨Nat.le_of_ble_eq_true rfl, Nat.le_of_ble_eq_true rfl⟩ ⟨by show _ ≤ 866946; omega, by show _ ≤ 6501410; omega⟩ dL_law_655 (fun x561 h560 hf => ?_)
          refine zr_icmp_eq (tgt := 1201) C hf dL_law_658 (by decide) (fun hf => ?_) (fun hf => ?_)
          · refine zwiden (k := 117 + 20 * gn + 20) (n := 1026 + 48 * gn + 48) (by omega) (by omega) ?_
            exact J1201 h560 x383 hf
          · refine zwiden (k := 866946) (n := 6501410) (by omega) (by omega) ?_
            refine zr_iconst (v := 0) C dL_law_661 (by decide) ?_
            cases hf
        refine zr_ite hf (fun he hf => zr_tableIn (off := 631) (tgt := 663) C dL_law_32 (by rw [he]; decide) (by rw [he]; decide) (by rw [he]; decide +kernel) (by decide) ?_) (fun _ hf => ?_)
        · refine zr_aload_n C dL_law_663 rfl 1 rfl ?_
          refine zr_aload_n C dL_law_664 rfl 0 rfl ?_
          refine zr_iload_n C dL_law_665 rfl 3 rfl ?_
          refine zr_iconst (v := 1) C dL_law_666 (by decide) ?_
          refine zr_iadd C hf dL_law_667 (fun x562 hf => ?_)
          refine zr_sld C hf hX hbl dL_law_668 (fun x563 hf => ?_)
          refine zr_aload_n C dL_law_669 rfl 0 rfl ?_
          refine zr_iload_n C dL_law_670 rfl 3 rfl ?_
          refine zr_iconst (v := 2) C dL_law_671 (by decide) ?_
          refine zr_iadd C hf dL_law_672 (fun x564 hf => ?_)
          refine zr_sld C hf hX hbl dL_law_673 (fun x565 hf => ?_)
          refine zr_callVi (As := [.int x563, .int x565]) (rest := []) C hf (fun x hx => c_X10_lies l E n h384 w1 x563 x565 x hx) kv_L_88 rfl rfl (Nat.le_of_ble_eq_true rfl) ⟨rfl, rfl⟩ ⟨Nat.le_of_ble_eq_true rfl, Nat.le_of_ble_eq_true rfl⟩ ⟨by show _ ≤ 866946; omega, by show _ ≤ 6501410; omega⟩ dL_law_674 (fun x567 h566 hf => ?_)
          refine zr_aload_n C dL_law_677 rfl 2 rfl ?_
          refine zr_aload_n C dL_law_678 rfl 0 rfl ?_
          refine zr_iload_n C dL_law_679 rfl 3 rfl ?_
          refine zr_iconst (v := 1) C dL_law_680 (by decide) ?_
          refine zr_iadd C hf dL_law_681 (fun x568 hf => ?_)
          refine zr_sld C hf hX hbl dL_law_682 (fun x569 hf => ?_)
          refine zr_aload_n C dL_law_683 rfl 0 rfl ?_
          refine zr_iload_n C dL_law_684 rfl 3 rfl ?_
          refine zr_iconst (v := 2) C dL_law_685 (by decide) ?_
          refine zr_iadd C hf dL_law_686 (fun x570 hf => ?_)
          refine zr_sld C hf hX hbl dL_law_687 (fun x571 hf => ?_)
          refine zr_callVi (As := [.int x569, .int x571]) (rest := [.int x567]) C hf (fun x hx => c_X11_lies l E n h566 w4 x569 x571 x hx) kv_L_91 rfl rfl (Nat.le_of_ble_eq_true rfl) ⟨rfl, rfl⟩ ⟨Nat.le_of_ble_eq_true rfl, Nat.le_of_ble_eq_true rfl⟩ ⟨by show _ ≤ 866946; omega, by show _ ≤ 6501410; omega⟩ dL_law_688 (fun x573 h572 hf => ?_)
          refine zr_icmp_eq (tgt := 1201) C hf dL_law_691 (by decide) (fun hf => ?_) (fun hf => ?_)
          · refine zwiden (k := 117 + 20 * gn + 20) (n := 1026 + 48 * gn + 48) (by omega) (by omega) ?_
            exact J1201 h572 x383 hf
          · refine zwiden (k := 866946) (n := 6501410) (by omega) (by omega) ?_
            refine zr_iconst (v := 0) C dL_law_694 (by decide) ?_
            cases hf
        refine zr_ite hf (fun he hf => zr_tableIn (off := 664) (tgt := 696) C dL_law_32 (by rw [he]; decide) (by rw [he]; decide) (by rw [he]; decide +kernel) (by decide) ?_) (fun _ hf => ?_)
        · refine zr_aload_n C dL_law_696 rfl 1 rfl ?_
          refine zr_aload_n C dL_law_697 rfl 0 rfl ?_
          refine zr_iload_n C dL_law_698 rfl 3 rfl ?_
          refine zr_iconst (v := 1) C dL_law_699 (by decide) ?_
          refine zr_iadd C hf dL_law_700 (fun x574 hf => ?_)
          refine zr_sld C hf hX hbl dL_law_701 (fun x575 hf => ?_)
          refine zr_aload_n C dL_law_702 rfl 0 rfl ?_
          refine zr_iload_n C dL_law_703 rfl 3 rfl ?_
          refine zr_iconst (v := 2) C dL_law_704 (by decide) ?_
          refine zr_iadd C hf dL_law_705 (fun x576 hf => ?_)
          refine zr_sld C hf hX hbl dL_law_706 (fun x577 hf => ?_)
          refine zr_aload_n C dL_law_707 rfl 0 rfl ?_
          refine zr_iload_n C dL_law_708 rfl 3 rfl ?_
          refine zr_iconst (v := 3) C dL_law_709 (by decide) ?_
          refine zr_iadd C hf dL_law_710 (fun x578 hf => ?_)
          refine zr_sld C hf hX hbl dL_law_711 (fun x579 hf => ?_)
          refine zr_callVi (As := [.int x575, .int x577, .int x579]) (rest := []) C hf (fun x hx => c_X10_line l E n h384 w1 x575 x577 x579 x hx) kv_L_92 rfl rfl (Nat.le_of_ble_eq_true rfl) ⟨rfl, rfl⟩ ⟨Nat.le_of_ble_eq_true rfl, Nat.le_of_ble_eq_true rfl⟩ ⟨by show _ ≤ 866946; omega, by show _ ≤ 6501410; omega⟩ dL_law_712 (fun x581 h580 hf => ?_)
          refine zr_aload_n C dL_law_715 rfl 2 rfl ?_
          refine zr_aload_n C dL_law_716 rfl 0 rfl ?_
          refine zr_iload_n C dL_law_717 rfl 3 rfl ?_
          refine zr_iconst (v := 1) C dL_law_718 (by decide) ?_
          refine zr_iadd C hf dL_law_719 (fun x582 hf => ?_)
          refine zr_sld C hf hX hbl dL_law_720 (fun x583 hf => ?_)
          refine zr_aload_n C dL_law_721 rfl 0 rfl ?_
          refine zr_iload_n C dL_law_722 rfl 3 rfl ?_
          refine zr_iconst (v := 2) C dL_law_723 (by decide) ?_
          refine zr_iadd C hf dL_law_724 (fun x584 hf => ?_)
          refine zr_sld C hf hX hbl dL_law_725 (fun x585 hf => ?_)
          refine zr_aload_n C dL_law_726 rfl 0 rfl ?_
          refine zr_iload_n C dL_law_727 rfl 3 rfl ?_
          refine zr_iconst (v := 3) C dL_law_728 (by decide) ?_
          refine zr_iadd C hf dL_law_729 (fun x586 hf => ?_)
          refine zr_sld C hf hX hbl dL_law_730 (fun x587 hf => ?_)
          refine zr_callVi (As := [.int x583, .int x585, .int x587]) (rest := [.int x581]) C hf (fun x hx => c_X11_line l E n h580 w4 x583 x585 x587 x hx) kv_L_95 rfl rfl (Nat.le_of_ble_eq_true rfl) ⟨rfl, rfl⟩ ⟨Nat.le_of_ble_eq_true rfl, Nat.le_of_ble_eq_true rfl⟩ ⟨by show _ ≤ 866946; omega, by show _ ≤ 6501410; omega⟩ dL_law_731 (fun x589 h588 hf => ?_)
          refine zr_icmp_eq (tgt := 1201) C hf dL_law_734 (by decide) (fun hf => ?_) (fun hf => ?_)
          · refine zwiden (k := 117 + 20 * gn + 20) (n := 1026 + 48 * gn + 48) (by omega) (by omega) ?_
            exact J1201 h588 x383 hf
          · refine zwiden (k := 866946) (n := 6501410) (by omega) (by omega) ?_
            refine zr_iconst (v := 0) C dL_law_737 (by decide) ?_
            cases hf
        refine zr_ite hf (fun he hf => zr_tableIn (off := 707) (tgt := 739) C dL_law_32 (by rw [he]; decide) (by rw [he]; decide) (by rw [he]; decide +kernel) (by decide) ?_) (fun _ hf => ?_)
        · refine zr_aload_n C dL_law_739 rfl 1 rfl ?_
          refine zr_aload_n C dL_law_740 rfl 0 rfl ?_
          refine zr_iload_n C dL_law_741 rfl 3 rfl ?_
          refine zr_iconst (v := 1) C dL_law_742 (by decide) ?_
          refine zr_iadd C hf dL_law_743 (fun x590 hf => ?_)
          refine zr_sld C hf hX hbl dL_law_744 (fun x591 hf => ?_)
          refine zr_aload_n C dL_law_745 rfl 0 rfl ?_
          refine zr_iload_n C dL_law_746 rfl 3 rfl ?_
          refine zr_iconst (v := 2) C dL_law_747 (by decide) ?_
          refine zr_iadd C hf dL_law_748 (fun x592 hf => ?_)
          refine zr_sld C hf hX hbl dL_law_749 (fun x593 hf => ?_)
          refine zr_callVi (As := [.int x591, .int x593]) (rest := []) C hf (fun x hx => c_X10_want l E n h384 w1 x591 x593 x hx) kv_L_96 rfl rfl (Nat.le_of_ble_eq_true rfl) ⟨rfl, rfl⟩ ⟨Nat.le_of_ble_eq_true rfl, Nat.le_of_ble_eq_true rfl⟩ ⟨by show _ ≤ 866946; omega, by show _ ≤ 6501410; omega⟩ dL_law_750 (fun x595 h594 hf => ?_)
          refine zr_aload_n C dL_law_753 rfl 2 rfl ?_
          refine zr_aload_n C dL_law_754 rfl 0 rfl ?_
          refine zr_iload_n C dL_law_755 rfl 3 rfl ?_
          refine zr_iconst (v := 1) C dL_law_756 (by decide) ?_
          refine zr_iadd C hf dL_law_757 (fun x596 hf => ?_)
          refine zr_sld C hf hX hbl dL_law_758 (fun x597 hf => ?_)
          refine zr_aload_n C dL_law_759 rfl 0 rfl ?_
          refine zr_iload_n C dL_law_760 rfl 3 rfl ?_
          refine zr_iconst (v := 2) C dL_law_761 (by decide) ?_
          refine zr_iadd C hf dL_law_762 (fun x598 hf => ?_)
          refine zr_sld C hf hX hbl dL_law_763 (fun x599 hf => ?_)
          refine zr_callVi (As := [.int x597, .int x599]) (rest := [.int x595]) C hf (fun x hx => c_X11_want l E n h594 w4 x597 x599 x hx) kv_L_99 rfl rfl (Nat.le_of_ble_eq_true rfl) ⟨rfl, rfl⟩ ⟨Nat.le_of_ble_eq_true rfl, Nat.le_of_ble_eq_true rfl⟩ ⟨by show _ ≤ 866946; omega, by show _ ≤ 6501410; omega⟩ dL_law_764 (fun x601 h600 hf => ?_)
          refine zr_icmp_eq (tgt := 1201) C hf dL_law_767 (by decide) (fun hf => ?_) (fun hf => ?_)
          · refine zwiden (k := 117 + 20 * gn + 20) (n := 1026 + 48 * gn + 48) (by omega) (by omega) ?_
            exact J1201 h600 x383 hf
          · refine zwiden (k := 866946) (n := 6501410) (by omega) (by omega) ?_
            refine zr_iconst (v := 0) C dL_law_770 (by decide) ?_
            cases hf
        refine zr_ite hf (fun he hf => zr_tableIn (off := 740) (tgt := 772) C dL_law_32 (by rw [he]; decide) (by rw [he]; decide) (by rw [he]; decide +kernel) (by decide) ?_) (fun _ hf => ?_)
        · refine zr_aload_n C dL_law_772 rfl 1 rfl ?_
          refine zr_aload_n C dL_law_773 rfl 0 rfl ?_
          refine zr_iload_n C dL_law_774 rfl 3 rfl ?_
          refine zr_iconst (v := 1) C dL_law_775 (by decide) ?_
          refine zr_iadd C hf dL_law_776 (fun x602 hf => ?_)
          refine zr_sld C hf hX hbl dL_law_777 (fun x603 hf => ?_)
          refine zr_callVi (As := [.int x603]) (rest := []) C hf (fun x hx => c_X10_off l E n h384 w1 x603 x hx) kv_L_100 rfl rfl (Nat.le_of_ble_eq_true rfl) ⟨rfl, rfl⟩ ⟨Nat.le_of_ble_eq_true rfl, Nat.le_of_ble_eq_true rfl⟩ ⟨by show _ ≤ 866946; omega, by show _ ≤ 6501410; omega⟩ dL_law_778 (fun x605 h604 hf => ?_)
          refine zr_aload_n C dL_law_781 rfl 2 rfl ?_
          refine zr_aload_n C dL_law_782 rfl 0 rfl ?_
          refine zr_iload_n C dL_law_783 rfl 3 rfl ?_
          refine zr_iconst (v := 1) C dL_law_784 (by decide) ?_
          refine zr_iadd C hf dL_law_785 (fun x606 hf => ?_)
          refine zr_sld C hf hX hbl dL_law_786 (fun x607 hf => ?_)
          refine zr_callVi (As := [.int x607]) (rest := [.int x605]) C hf (fun x hx => c_X11_off l E n h604 w4 x607 x hx) kv_L_103 rfl rfl (Nat.le_of_ble_eq_true rfl) ⟨rfl, rfl⟩ ⟨Nat.le_of_ble_eq_true rfl, Nat.le_of_ble_eq_true rfl⟩ ⟨by show _ ≤ 866946; omega, by show _ ≤ 6501410; omega⟩ dL_law_787 (fun x609 h608 hf => ?_)
          refine zr_icmp_eq (tgt := 1201) C hf dL_law_790 (by decide) (fun hf => ?_) (fun hf => ?_)
          · refine zwiden (k := 117 + 20 * gn + 20) (n := 1026 + 48 * gn + 48) (by omega) (by omega) ?_
            exact J1201 h608 x383 hf
          · refine zwiden (k := 866946) (n := 6501410) (by omega) (by omega) ?_
            refine zr_iconst (v := 0) C dL_law_793 (by decide) ?_
            cases hf
        refine zr_ite hf (fun he hf => zr_tableIn (off := 763) (tgt := 795) C dL_law_32 (by rw [he]; decide) (by rw [he]; decide) (by rw [he]; decide +kernel) (by decide) ?_) (fun _ hf => ?_)
        · refine zr_aload_n C dL_law_795 rfl 1 rfl ?_
          refine zr_aload_n C dL_law_796 rfl 0 rfl ?_
          refine zr_iload_n C dL_law_797 rfl 3 rfl ?_
          refine zr_iconst (v := 1) C dL_law_798 (by decide) ?_
          refine zr_iadd C hf dL_law_799 (fun x610 hf => ?_)
          refine zr_sld C hf hX hbl dL_law_800 (fun x611 hf => ?_)
          refine zr_callV (rv := fun r => some (.int r)) (As := [.int x611]) (rest := []) C hf (fun x hx => c_X10_found l E n h384 w1 x611 x hx) kv_L_104 rfl rfl (Nat.le_of_ble_eq_true rfl) ⟨rfl, rfl⟩ ⟨Nat.le_of_ble_eq_true rfl, Nat.le_of_ble_eq_true rfl⟩ ⟨by show _ ≤ 866946; omega, by show _ ≤ 6501410; omega⟩ dL_law_801 (fun x613 h612 hf => ?_)
          refine zr_aload_n C dL_law_804 rfl 2 rfl ?_
          refine zr_aload_n C dL_law_805 rfl 0 rfl ?_
          refine zr_iload_n C dL_law_806 rfl 3 rfl ?_
          refine zr_iconst (v := 1) C dL_law_807 (by decide) ?_
          refine zr_iadd C hf dL_law_808 (fun x614 hf => ?_)
          refine zr_sld C hf hX hbl dL_law_809 (fun x615 hf => ?_)
          refine zr_callVi (As := [.int x615]) (rest := [.int x613]) C hf (fun x hx => c_X11_found l E n h612 w4 x615 x hx) kv_L_107 rfl rfl (Nat.le_of_ble_eq_true rfl) ⟨rfl, rfl⟩ ⟨Nat.le_of_ble_eq_true rfl, Nat.le_of_ble_eq_true rfl⟩ ⟨by show _ ≤ 866946; omega, by show _ ≤ 6501410; omega⟩ dL_law_810 (fun x617 h616 hf => ?_)
          refine zr_icmp_eq (tgt := 1201) C hf dL_law_813 (by decide) (fun hf => ?_) (fun hf => ?_)
          · refine zwiden (k := 117 + 20 * gn + 20) (n := 1026 + 48 * gn + 48) (by omega) (by omega) ?_
            exact J1201 h616 x383 hf
          · refine zwiden (k := 866946) (n := 6501410) (by omega) (by omega) ?_
            refine zr_iconst (v := 0) C dL_law_816 (by decide) ?_
            cases hf
        refine zr_ite hf (fun he hf => zr_tableIn (off := 786) (tgt := 818) C dL_law_32 (by rw [he]; decide) (by rw [he]; decide) (by rw [he]; decide +kernel) (by decide) ?_) (fun _ hf => ?_)
        · refine zr_aload_n C dL_law_818 rfl 1 rfl ?_
          refine zr_aload_n C dL_law_819 rfl 0 rfl ?_
          refine zr_iload_n C dL_law_820 rfl 3 rfl ?_
          refine zr_iconst (v := 1) C dL_law_821 (by decide) ?_
          refine zr_iadd C hf dL_law_822 (fun x618 hf => ?_)
          refine zr_sld C hf hX hbl dL_law_823 (fun x619 hf => ?_)
          refine zr_aload_n C dL_law_824 rfl 0 rfl ?_
          refine zr_iload_n C dL_law_825 rfl 3 rfl ?_
          refine zr_iconst (v := 2) C dL_law_826 (by decide) ?_
          refine zr_iadd C hf dL_law_827 (fun x620 hf => ?_)
          refine zr_sld C hf hX hbl dL_law_828 (fun x621 hf => ?_)
          refine zr_callVi (As := [.int x619, .int x621]) (rest := []) C hf (fun x hx => c_X10_seen l E n h384 w1 x619 x621 x hx) kv_L_108 rfl rfl (Nat.le_of_ble_eq_true rfl) ⟨rfl, rfl⟩ ⟨Nat.le_of_ble_eq_true rfl, Nat.le_of_ble_eq_true rfl⟩ ⟨by show _ ≤ 866946; omega, by show _ ≤ 6501410; omega⟩ dL_law_829 (fun x623 h622 hf => ?_)
          refine zr_aload_n C dL_law_832 rfl 2 rfl ?_
          refine zr_aload_n C dL_law_833 rfl 0 rfl ?_
          refine zr_iload_n C dL_law_834 rfl 3 rfl ?_
          refine zr_iconst (v := 1) C dL_law_835 (by decide) ?_
          refine zr_iadd C hf dL_law_836 (fun x624 hf => ?_)
          refine zr_sld C hf hX hbl dL_law_837 (fun x625 hf => ?_)
          refine zr_aload_n C dL_law_838 rfl 0 rfl ?_
          refine zr_iload_n C dL_law_839 rfl 3 rfl ?_
          refine zr_iconst (v := 2) C dL_law_840 (by decide) ?_
          refine zr_iadd C hf dL_law_841 (fun x626 hf => ?_)
          refine zr_sld C hf hX hbl dL_law_842 (fun x627 hf => ?_)
          refine zr_callVi (As := [.int x625, .int x627]) (rest := [.int x623]) C hf (fun x hx => c_X11_seen l E n h622 w4 x625 x627 x hx) kv_L_111 rfl rfl (Nat.le_of_ble_eq_true rfl) ⟨rfl, rfl⟩ ⟨Nat.le_of_ble_eq_true rfl, Nat.le_of_ble_eq_true rfl⟩ ⟨by show _ ≤ 866946; omega, by show _ ≤ 6501410; omega⟩ dL_law_843 (fun x629 h628 hf => ?_)
          refine zr_icmp_eq (tgt := 1201) C hf dL_law_846 (by decide) (fun hf => ?_) (fun hf => ?_)
          · refine zwiden (k := 117 + 20 * gn + 20) (n := 1026 + 48 * gn + 48) (by omega) (by omega) ?_
            exact J1201 h628 x383 hf
          · refine zwiden (k := 866946) (n := 6501410) (by omega) (by omega) ?_
            refine zr_iconst (v := 0) C dL_law_849 (by decide) ?_
            cases hf
        refine zr_ite hf (fun he hf => zr_tableIn (off := 819) (tgt := 851) C dL_law_32 (by rw [he]; decide) (by rw [he]; decide) (by rw [he]; decide +kernel) (by decide) ?_) (fun _ hf => ?_)
        · refine zr_aload_n C dL_law_851 rfl 1 rfl ?_
          refine zr_callVi (As := []) (rest := []) C hf (fun x hx => c_X10_read l E n h384 w1 x hx) kv_L_112 rfl rfl (Nat.le_of_ble_eq_true rfl) ⟨rfl, rfl⟩ ⟨Nat.le_of_ble_eq_true rfl, Nat.le_of_ble_eq_true rfl⟩ ⟨by show _ ≤ 866946; omega, by show _ ≤ 6501410; omega⟩ dL_law_852 (fun x631 h630 hf => ?_)
          refine zr_aload_n C dL_law_855 rfl 2 rfl ?_
          refine zr_callVi (As := []) (rest := [.int x631]) C hf (fun x hx => c_X11_read l E n h630 w4 x hx) kv_L_115 rfl rfl (Nat.le_of_ble_eq_true rfl) ⟨rfl, rfl⟩ ⟨Nat.le_of_ble_eq_true rfl, Nat.le_of_ble_eq_true rfl⟩ ⟨by show _ ≤ 866946; omega, by show _ ≤ 6501410; omega⟩ dL_law_856 (fun x633 h632 hf => ?_)
          refine zr_icmp_eq (tgt := 1201) C hf dL_law_859 (by decide) (fun hf => ?_) (fun hf => ?_)
          · refine zwiden (k := 117 + 20 * gn + 20) (n := 1026 + 48 * gn + 48) (by omega) (by omega) ?_
            exact J1201 h632 x383 hf
          · refine zwiden (k := 866946) (n := 6501410) (by omega) (by omega) ?_
            refine zr_iconst (v := 0) C dL_law_862 (by decide) ?_
            cases hf
        refine zr_ite hf (fun he hf => zr_tableIn (off := 832) (tgt := 864) C dL_law_32 (by rw [he]; decide) (by rw [he]; decide) (by rw [he]; decide +kernel) (by decide) ?_) (fun _ hf => ?_)
        · refine zr_aload_n C dL_law_864 rfl 1 rfl ?_
          refine zr_callVi (As := []) (rest := []) C hf (fun x hx => c_X10_tells l E n h384 w1 x hx) kv_L_116 rfl rfl (Nat.le_of_ble_eq_true rfl) ⟨rfl, rfl⟩ ⟨Nat.le_of_ble_eq_true rfl, Nat.le_of_ble_eq_true rfl⟩ ⟨by show _ ≤ 866946; omega, by show _ ≤ 6501410; omega⟩ dL_law_865 (fun x635 h634 hf => ?_)
          refine zr_aload_n C dL_law_868 rfl 2 rfl ?_
          refine zr_callVi (As := []) (rest := [.int x635]) C hf (fun x hx => c_X11_tells l E n h634 w4 x hx) kv_L_119 rfl rfl (Nat.le_of_ble_eq_true rfl) ⟨rfl, rfl⟩ ⟨Nat.le_of_ble_eq_true rfl, Nat.le_of_ble_eq_true rfl⟩ ⟨by show _ ≤ 866946; omega, by show _ ≤ 6501410; omega⟩ dL_law_869 (fun x637 h636 hf => ?_)
          refine zr_icmp_eq (tgt := 1201) C hf dL_law_872 (by decide) (fun hf => ?_) (fun hf => ?_)
          · refine zwiden (k := 117 + 20 * gn + 20) (n := 1026 + 48 * gn + 48) (by omega) (by omega) ?_
            exact J1201 h636 x383 hf
          · refine zwiden (k := 866946) (n := 6501410) (by omega) (by omega) ?_
            refine zr_iconst (v := 0) C dL_law_875 (by decide) ?_
            cases hf
        refine zr_ite hf (fun he hf => zr_tableIn (off := 845) (tgt := 877) C dL_law_32 (by rw [he]; decide) (by rw [he]; decide) (by rw [he]; decide +kernel) (by decide) ?_) (fun _ hf => ?_)
        · refine zr_aload_n C dL_law_877 rfl 1 rfl ?_
          refine zr_aload_n C dL_law_878 rfl 0 rfl ?_
          refine zr_iload_n C dL_law_879 rfl 3 rfl ?_
          refine zr_iconst (v := 1) C dL_law_880 (by decide) ?_
          refine zr_iadd C hf dL_law_881 (fun x638 hf => ?_)
          refine zr_sld C hf hX hbl dL_law_882 (fun x639 hf => ?_)
          refine zr_aload_n C dL_law_883 rfl 0 rfl ?_
          refine zr_iload_n C dL_law_884 rfl 3 rfl ?_
          refine zr_iconst (v := 2) C dL_law_885 (by decide) ?_
          refine zr_iadd C hf dL_law_886 (fun x640 hf => ?_)
          refine zr_sld C hf hX hbl dL_law_887 (fun x641 hf => ?_)
          refine zr_aload_n C dL_law_888 rfl 0 rfl ?_
          refine zr_iload_n C dL_law_889 rfl 3 rfl ?_
          refine zr_iconst (v := 3) C dL_law_890 (by decide) ?_
          refine zr_iadd C hf dL_law_891 (fun x642 hf => ?_)
          refine zr_sld C hf hX hbl dL_law_892 (fun x643 hf => ?_)
          refine zr_callVi (As := [.int x639, .int x641, .int x643]) (rest := []) C hf (fun x hx => c_X10_apart l E n h384 w1 x639 x641 x643 x hx) kv_L_120 rfl rfl (Nat.le_of_ble_eq_true rfl) ⟨rfl, rfl⟩ ⟨Nat.le_of_ble_eq_true rfl, Nat.le_of_ble_eq_true rfl⟩ ⟨by show _ ≤ 866946; omega, by show _ ≤ 6501410; omega⟩ dL_law_893 (fun x645 h644 hf => ?_)
          refine zr_aload_n C dL_law_896 rfl 2 rfl ?_
          refine zr_aload_n C dL_law_897 rfl 0 rfl ?_
          refine zr_iload_n C dL_law_898 rfl 3 rfl ?_
          refine zr_iconst (v := 1) C dL_law_899 (by decide) ?_
          refine zr_iadd C hf dL_law_900 (fun x646 hf => ?_)
          refine zr_sld C hf hX hbl dL_law_901 (fun x647 hf => ?_)
          refine zr_aload_n C dL_law_902 rfl 0 rfl ?_
          refine zr_iload_n C dL_law_903 rfl 3 rfl ?_
          refine zr_iconst (v := 2) C dL_law_904 (by decide) ?_
          refine zr_iadd C hf dL_law_905 (fun x648 hf => ?_)
          refine zr_sld C hf hX hbl dL_law_906 (fun x649 hf => ?_)
          refine zr_aload_n C dL_law_907 rfl 0 rfl ?_
          refine zr_iload_n C dL_law_908 rfl 3 rfl ?_
          refine zr_iconst (v := 3) C dL_law_909 (by decide) ?_
          refine zr_iadd C hf dL_law_910 (fun x650 hf => ?_)
          refine zr_sld C hf hX hbl dL_law_911 (fun x651 hf => ?_)
          refine zr_callVi (As := [.int x647, .int x649, .int x651]) (rest := [.int x645]) C hf (fun x hx => c_X11_apart l E n h644 w4 x647 x649 x651 x hx) kv_L_123 rfl rfl (Nat.le_of_ble_eq_true rfl) ⟨rfl, rfl⟩ ⟨Nat.le_of_ble_eq_true rfl, Nat.le_of_ble_eq_true rfl⟩ ⟨by show _ ≤ 866946; omega, by show _ ≤ 6501410; omega⟩ dL_law_912 (fun x653 h652 hf => ?_)
          refine zr_icmp_eq (tgt := 1201) C hf dL_law_915 (by decide) (fun hf => ?_) (fun hf => ?_)
          · refine zwiden (k := 117 + 20 * gn + 20) (n := 1026 + 48 * gn + 48) (by omega) (by omega) ?_
            exact J1201 h652 x383 hf
          · refine zwiden (k := 866946) (n := 6501410) (by omega) (by omega) ?_
            refine zr_iconst (v := 0) C dL_law_918 (by decide) ?_
            cases hf
        refine zr_ite hf (fun he hf => zr_tableIn (off := 888) (tgt := 920) C dL_law_32 (by rw [he]; decide) (by rw [he]; decide) (by rw [he]; decide +kernel) (by decide) ?_) (fun _ hf => ?_)
        · refine zr_aload_n C dL_law_920 rfl 1 rfl ?_
          refine zr_aload_n C dL_law_921 rfl 0 rfl ?_
          refine zr_iload_n C dL_law_922 rfl 3 rfl ?_
          refine zr_iconst (v := 1) C dL_law_923 (by decide) ?_
          refine zr_iadd C hf dL_law_924 (fun x654 hf => ?_)
          refine zr_sld C hf hX hbl dL_law_925 (fun x655 hf => ?_)
          refine zr_aload_n C dL_law_926 rfl 0 rfl ?_
          refine zr_iload_n C dL_law_927 rfl 3 rfl ?_
          refine zr_iconst (v := 2) C dL_law_928 (by decide) ?_
          refine zr_iadd C hf dL_law_929 (fun x656 hf => ?_)
          refine zr_sld C hf hX hbl dL_law_930 (fun x657 hf => ?_)
          refine zr_callVi (As := [.int x655, .int x657]) (rest := []) C hf (fun x hx => c_X10_picture l E n h384 w1 x655 x657 x hx) kv_L_124 rfl rfl (Nat.le_of_ble_eq_true rfl) ⟨rfl, rfl⟩ ⟨Nat.le_of_ble_eq_true rfl, Nat.le_of_ble_eq_true rfl⟩ ⟨by show _ ≤ 866946; omega, by show _ ≤ 6501410; omega⟩ dL_law_931 (fun x659 h658 hf => ?_)
          refine zr_aload_n C dL_law_934 rfl 2 rfl ?_
          refine zr_aload_n C dL_law_935 rfl 0 rfl ?_
          refine zr_iload_n C dL_law_936 rfl 3 rfl ?_
          refine zr_iconst (v := 1) C dL_law_937 (by decide) ?_
          refine zr_iadd C hf dL_law_938 (fun x660 hf => ?_)
          refine zr_sld C hf hX hbl dL_law_939 (fun x661 hf => ?_)
          refine zr_aload_n C dL_law_940 rfl 0 rfl ?_
          refine zr_iload_n C dL_law_941 rfl 3 rfl ?_
          refine zr_iconst (v := 2) C dL_law_942 (by decide) ?_
          refine zr_iadd C hf dL_law_943 (fun x662 hf => ?_)
          refine zr_sld C hf hX hbl dL_law_944 (fun x663 hf => ?_)
          refine zr_callVi (As := [.int x661, .int x663]) (rest := [.int x659]) C hf (fun x hx => c_X11_picture l E n h658 w4 x661 x663 x hx) kv_L_127 rfl rfl (Nat.le_of_ble_eq_true rfl) ⟨rfl, rfl⟩ ⟨Nat.le_of_ble_eq_true rfl, Nat.le_of_ble_eq_true rfl⟩ ⟨by show _ ≤ 866946; omega, by show _ ≤ 6501410; omega⟩ dL_law_945 (fun x665 h664 hf => ?_)
          refine zr_icmp_eq (tgt := 1201) C hf dL_law_948 (by decide) (fun hf => ?_) (fun hf => ?_)
          · refine zwiden (k := 117 + 20 * gn + 20) (n := 1026 + 48 * gn + 48) (by omega) (by omega) ?_
            exact J1201 h664 x383 hf
          · refine zwiden (k := 866946) (n := 6501410) (by omega) (by omega) ?_
            refine zr_iconst (v := 0) C dL_law_951 (by decide) ?_
            cases hf
        refine zr_ite hf (fun he hf => zr_tableIn (off := 921) (tgt := 953) C dL_law_32 (by rw [he]; decide) (by rw [he]; decide) (by rw [he]; decide +kernel) (by decide) ?_) (fun _ hf => ?_)
        · refine zr_aload_n C dL_law_953 rfl 1 rfl ?_
          refine zr_callVi (As := []) (rest := []) C hf (fun x hx => c_X10_drag l E n h384 w1 x hx) kv_L_128 rfl rfl (Nat.le_of_ble_eq_true rfl) ⟨rfl, rfl⟩ ⟨Nat.le_of_ble_eq_true rfl, Nat.le_of_ble_eq_true rfl⟩ ⟨by show _ ≤ 866946; omega, by show _ ≤ 6501410; omega⟩ dL_law_954 (fun x667 h666 hf => ?_)
          refine zr_aload_n C dL_law_957 rfl 2 rfl ?_
          refine zr_callVi (As := []) (rest := [.int x667]) C hf (fun x hx => c_X11_drag l E n h666 w4 x hx) kv_L_131 rfl rfl (Nat.le_of_ble_eq_true rfl) ⟨rfl, rfl⟩ ⟨Nat.le_of_ble_eq_true rfl, Nat.le_of_ble_eq_true rfl⟩ ⟨by show _ ≤ 866946; omega, by show _ ≤ 6501410; omega⟩ dL_law_958 (fun x669 h668 hf => ?_)
          refine zr_icmp_eq (tgt := 1201) C hf dL_law_961 (by decide) (fun hf => ?_) (fun hf => ?_)
          · refine zwiden (k := 117 + 20 * gn + 20) (n := 1026 + 48 * gn + 48) (by omega) (by omega) ?_
            exact J1201 h668 x383 hf
          · refine zwiden (k := 866946) (n := 6501410) (by omega) (by omega) ?_
            refine zr_iconst (v := 0) C dL_law_964 (by decide) ?_
            cases hf
        refine zr_ite hf (fun he hf => zr_tableIn (off := 934) (tgt := 966) C dL_law_32 (by rw [he]; decide) (by rw [he]; decide) (by rw [he]; decide +kernel) (by decide) ?_) (fun _ hf => ?_)
        · refine zr_aload_n C dL_law_966 rfl 1 rfl ?_
          refine zr_aload_n C dL_law_967 rfl 0 rfl ?_
          refine zr_iload_n C dL_law_968 rfl 3 rfl ?_
          refine zr_iconst (v := 1) C dL_law_969 (by decide) ?_
          refine zr_iadd C hf dL_law_970 (fun x670 hf => ?_)
          refine zr_sld C hf hX hbl dL_law_971 (fun x671 hf => ?_)
          refine zr_aload_n C dL_law_972 rfl 0 rfl ?_
          refine zr_iload_n C dL_law_973 rfl 3 rfl ?_
          refine zr_iconst (v := 2) C dL_law_974 (by decide) ?_
          refine zr_iadd C hf dL_law_975 (fun x672 hf => ?_)
          refine zr_sld C hf hX hbl dL_law_976 (fun x673 hf => ?_)
          refine zr_aload_n C dL_law_977 rfl 0 rfl ?_
          refine zr_iload_n C dL_law_978 rfl 3 rfl ?_
          refine zr_iconst (v := 3) C dL_law_979 (by decide) ?_
          refine zr_iadd C hf dL_law_980 (fun x674 hf => ?_)
          refine zr_sld C hf hX hbl dL_law_981 (fun x675 hf => ?_)
          refine zr_aload_n C dL_law_982 rfl 0 rfl ?_
          refine zr_iload_n C dL_law_983 rfl 3 rfl ?_
          refine zr_iconst (v := 4) C dL_law_984 (by decide) ?_
          refine zr_iadd C hf dL_law_985 (fun x676 hf => ?_)
          refine zr_sld C hf hX hbl dL_law_986 (fun x677 hf => ?_)
          refine zr_callVi (As := [.int x671, .int x673, .int x675, .int x677]) (rest := []) C hf (fun x hx => c_X10_point l E n h384 w1 x671 x673 x675 x677 x hx) kv_L_132 rfl rfl (Nat.le_of_ble_eq_true rfl) ⟨rfl, rfl⟩ ⟨Nat.le_of_ble_eq_true rfl, Nat.le_of_ble_eq_true rfl⟩ ⟨by show _ ≤ 866946; omega, by show _ ≤ 6501410; omega⟩ dL_law_987 (fun x679 h678 hf => ?_)
          refine zr_aload_n C dL_law_990 rfl 2 rfl ?_
          refine zr_aload_n C dL_law_991 rfl 0 rfl ?_
          refine zr_iload_n C dL_law_992 rfl 3 rfl ?_
          refine zr_iconst (v := 1) C dL_law_993 (by decide) ?_
          refine zr_iadd C hf dL_law_994 (fun x680 hf => ?_)
          refine zr_sld C hf hX hbl dL_law_995 (fun x681 hf => ?_)
          refine zr_aload_n C dL_law_996 rfl 0 rfl ?_
          refine zr_iload_n C dL_law_997 rfl 3 rfl ?_
          refine zr_iconst (v := 2) C dL_law_998 (by decide) ?_
          refine zr_iadd C hf dL_law_999 (fun x682 hf => ?_)
          refine zr_sld C hf hX hbl dL_law_1000 (fun x683 hf => ?_)
          refine zr_aload_n C dL_law_1001 rfl 0 rfl ?_
          refine zr_iload_n C dL_law_1002 rfl 3 rfl ?_
          refine zr_iconst (v := 3) C dL_law_1003 (by decide) ?_
          refine zr_iadd C hf dL_law_1004 (fun x684 hf => ?_)
          refine zr_sld C hf hX hbl dL_law_1005 (fun x685 hf => ?_)
          refine zr_aload_n C dL_law_1006 rfl 0 rfl ?_
          refine zr_iload_n C dL_law_1007 rfl 3 rfl ?_
          refine zr_iconst (v := 4) C dL_law_1008 (by decide) ?_
          refine zr_iadd C hf dL_law_1009 (fun x686 hf => ?_)
          refine zr_sld C hf hX hbl dL_law_1010 (fun x687 hf => ?_)
          refine zr_callVi (As := [.int x681, .int x683, .int x685, .int x687]) (rest := [.int x679]) C hf (fun x hx => c_X11_point l E n h678 w4 x681 x683 x685 x687 x hx) kv_L_136 rfl rfl (Nat.le_of_ble_eq_true rfl) ⟨rfl, rfl⟩ ⟨Nat.le_of_ble_eq_true rfl, Nat.le_of_ble_eq_true rfl⟩ ⟨by show _ ≤ 866946; omega, by show _ ≤ 6501410; omega⟩ dL_law_1011 (fun x689 h688 hf => ?_)
          refine zr_icmp_eq (tgt := 1201) C hf dL_law_1014 (by decide) (fun hf => ?_) (fun hf => ?_)
          · refine zwiden (k := 117 + 20 * gn + 20) (n := 1026 + 48 * gn + 48) (by omega) (by omega) ?_
            exact J1201 h688 x383 hf
          · refine zwiden (k := 866946) (n := 6501410) (by omega) (by omega) ?_
            refine zr_iconst (v := 0) C dL_law_1017 (by decide) ?_
            cases hf
        refine zr_ite hf (fun he hf => zr_tableIn (off := 987) (tgt := 1019) C dL_law_32 (by rw [he]; decide) (by rw [he]; decide) (by rw [he]; decide +kernel) (by decide) ?_) (fun _ hf => ?_)
        · refine zr_aload_n C dL_law_1019 rfl 1 rfl ?_
          refine zr_aload_n C dL_law_1020 rfl 0 rfl ?_
          refine zr_iload_n C dL_law_1021 rfl 3 rfl ?_
          refine zr_iconst (v := 1) C dL_law_1022 (by decide) ?_
          refine zr_iadd C hf dL_law_1023 (fun x690 hf => ?_)
          refine zr_sld C hf hX hbl dL_law_1024 (fun x691 hf => ?_)
          refine zr_aload_n C dL_law_1025 rfl 0 rfl ?_
          refine zr_iload_n C dL_law_1026 rfl 3 rfl ?_
          refine zr_iconst (v := 2) C dL_law_1027 (by decide) ?_
          refine zr_iadd C hf dL_law_1028 (fun x692 hf => ?_)
          refine zr_sld C hf hX hbl dL_law_1029 (fun x693 hf => ?_)
          refine zr_aload_n C dL_law_1030 rfl 0 rfl ?_
          refine zr_iload_n C dL_law_1031 rfl 3 rfl ?_
          refine zr_iconst (v := 3) C dL_law_1032 (by decide) ?_
          refine zr_iadd C hf dL_law_1033 (fun x694 hf => ?_)
          refine zr_sld C hf hX hbl dL_law_1034 (fun x695 hf => ?_)
          refine zr_callVi (As := [.int x691, .int x693, .int x695]) (rest := []) C hf (fun x hx => c_X10_cuts l E n h384 w1 x691 x693 x695 x hx) kv_L_137 rfl rfl (Nat.le_of_ble_eq_true rfl) ⟨rfl, rfl⟩ ⟨Nat.le_of_ble_eq_true rfl, Nat.le_of_ble_eq_true rfl⟩ ⟨by show _ ≤ 866946; omega, by show _ ≤ 6501410; omega⟩ dL_law_1035 (fun x697 h696 hf => ?_)
          refine zr_aload_n C dL_law_1038 rfl 2 rfl ?_
          refine zr_aload_n C dL_law_1039 rfl 0 rfl ?_
          refine zr_iload_n C dL_law_1040 rfl 3 rfl ?_
          refine zr_iconst (v := 1) C dL_law_1041 (by decide) ?_
          refine zr_iadd C hf dL_law_1042 (fun x698 hf => ?_)
          refine zr_sld C hf hX hbl dL_law_1043 (fun x699 hf => ?_)
          refine zr_aload_n C dL_law_1044 rfl 0 rfl ?_
          refine zr_iload_n C dL_law_1045 rfl 3 rfl ?_
          refine zr_iconst (v := 2) C dL_law_1046 (by decide) ?_
          refine zr_iadd C hf dL_law_1047 (fun x700 hf => ?_)
          refine zr_sld C hf hX hbl dL_law_1048 (fun x701 hf => ?_)
          refine zr_aload_n C dL_law_1049 rfl 0 rfl ?_
          refine zr_iload_n C dL_law_1050 rfl 3 rfl ?_
          refine zr_iconst (v := 3) C dL_law_1051 (by decide) ?_
          refine zr_iadd C hf dL_law_1052 (fun x702 hf => ?_)
          refine zr_sld C hf hX hbl dL_law_1053 (fun x703 hf => ?_)
          refine zr_callVi (As := [.int x699, .int x701, .int x703]) (rest := [.int x697]) C hf (fun x hx => c_X11_cuts l E n h696 w4 x699 x701 x703 x hx) kv_L_140 rfl rfl (Nat.le_of_ble_eq_true rfl) ⟨rfl, rfl⟩ ⟨Nat.le_of_ble_eq_true rfl, Nat.le_of_ble_eq_true rfl⟩ ⟨by show _ ≤ 866946; omega, by show _ ≤ 6501410; omega⟩ dL_law_1054 (fun x705 h704 hf => ?_)
          refine zr_icmp_eq (tgt := 1201) C hf dL_law_1057 (by decide) (fun hf => ?_) (fun hf => ?_)
          · refine zwiden (k := 117 + 20 * gn + 20) (n := 1026 + 48 * gn + 48) (by omega) (by omega) ?_
            exact J1201 h704 x383 hf
          · refine zwiden (k := 866946) (n := 6501410) (by omega) (by omega) ?_
            refine zr_iconst (v := 0) C dL_law_1060 (by decide) ?_
            cases hf
        refine zr_ite hf (fun he hf => zr_tableIn (off := 1030) (tgt := 1062) C dL_law_32 (by rw [he]; decide) (by rw [he]; decide) (by rw [he]; decide +kernel) (by decide) ?_) (fun _ hf => ?_)
        · refine zr_aload_n C dL_law_1062 rfl 1 rfl ?_
          refine zr_aload_n C dL_law_1063 rfl 0 rfl ?_
          refine zr_iload_n C dL_law_1064 rfl 3 rfl ?_
          refine zr_iconst (v := 1) C dL_law_1065 (by decide) ?_
          refine zr_iadd C hf dL_law_1066 (fun x706 hf => ?_)
          refine zr_sld C hf hX hbl dL_law_1067 (fun x707 hf => ?_)
          refine zr_aload_n C dL_law_1068 rfl 0 rfl ?_
          refine zr_iload_n C dL_law_1069 rfl 3 rfl ?_
          refine zr_iconst (v := 2) C dL_law_1070 (by decide) ?_
          refine zr_iadd C hf dL_law_1071 (fun x708 hf => ?_)
          refine zr_sld C hf hX hbl dL_law_1072 (fun x709 hf => ?_)
          refine zr_callVi (As := [.int x707, .int x709]) (rest := []) C hf (fun x hx => c_X10_firstCut l E n h384 w1 x707 x709 x hx) kv_L_141 rfl rfl (Nat.le_of_ble_eq_true rfl) ⟨rfl, rfl⟩ ⟨Nat.le_of_ble_eq_true rfl, Nat.le_of_ble_eq_true rfl⟩ ⟨by show _ ≤ 866946; omega, by show _ ≤ 6501410; omega⟩ dL_law_1073 (fun x711 h710 hf => ?_)
          refine zr_aload_n C dL_law_1076 rfl 2 rfl ?_
          refine zr_aload_n C dL_law_1077 rfl 0 rfl ?_
          refine zr_iload_n C dL_law_1078 rfl 3 rfl ?_
          refine zr_iconst (v := 1) C dL_law_1079 (by decide) ?_
          refine zr_iadd C hf dL_law_1080 (fun x712 hf => ?_)
          refine zr_sld C hf hX hbl dL_law_1081 (fun x713 hf => ?_)
          refine zr_aload_n C dL_law_1082 rfl 0 rfl ?_
          refine zr_iload_n C dL_law_1083 rfl 3 rfl ?_
          refine zr_iconst (v := 2) C dL_law_1084 (by decide) ?_
          refine zr_iadd C hf dL_law_1085 (fun x714 hf => ?_)
          refine zr_sld C hf hX hbl dL_law_1086 (fun x715 hf => ?_)
          refine zr_callVi (As := [.int x713, .int x715]) (rest := [.int x711]) C hf (fun x hx => c_X11_firstCut l E n h710 w4 x713 x715 x hx) kv_L_144 rfl rfl (Nat.le_of_ble_eq_true rfl) ⟨rfl, rfl⟩ ⟨Nat.le_of_ble_eq_true rfl, Nat.le_of_ble_eq_true rfl⟩ ⟨by show _ ≤ 866946; omega, by show _ ≤ 6501410; omega⟩ dL_law_1087 (fun x717 h716 hf => ?_)
          refine zr_icmp_eq (tgt := 1201) C hf dL_law_1090 (by decide) (fun hf => ?_) (fun hf => ?_)
          · refine zwiden (k := 117 + 20 * gn + 20) (n := 1026 + 48 * gn + 48) (by omega) (by omega) ?_
            exact J1201 h716 x383 hf
          · refine zwiden (k := 866946) (n := 6501410) (by omega) (by omega) ?_
            refine zr_iconst (v := 0) C dL_law_1093 (by decide) ?_
            cases hf
        refine zr_ite hf (fun he hf => zr_tableIn (off := 1063) (tgt := 1095) C dL_law_32 (by rw [he]; decide) (by rw [he]; decide) (by rw [he]; decide +kernel) (by decide) ?_) (fun _ hf => ?_)
        · refine zr_aload_n C dL_law_1095 rfl 1 rfl ?_
          refine zr_aload_n C dL_law_1096 rfl 0 rfl ?_
          refine zr_iload_n C dL_law_1097 rfl 3 rfl ?_
          refine zr_iconst (v := 1) C dL_law_1098 (by decide) ?_
          refine zr_iadd C hf dL_law_1099 (fun x718 hf => ?_)
          refine zr_sld C hf hX hbl dL_law_1100 (fun x719 hf => ?_)
          refine zr_aload_n C dL_law_1101 rfl 0 rfl ?_
          refine zr_iload_n C dL_law_1102 rfl 3 rfl ?_
          refine zr_iconst (v := 2) C dL_law_1103 (by decide) ?_
          refine zr_iadd C hf dL_law_1104 (fun x720 hf => ?_)
          refine zr_sld C hf hX hbl dL_law_1105 (fun x721 hf => ?_)
          refine zr_aload_n C dL_law_1106 rfl 0 rfl ?_
          refine zr_iload_n C dL_law_1107 rfl 3 rfl ?_
          refine zr_iconst (v := 3) C dL_law_1108 (by decide) ?_
          refine zr_iadd C hf dL_law_1109 (fun x722 hf => ?_)
          refine zr_sld C hf hX hbl dL_law_1110 (fun x723 hf => ?_)
          refine zr_callVi (As := [.int x719, .int x721, .int x723]) (rest := []) C hf (fun x hx => c_X10_saves l E n h384 w1 x719 x721 x723 x hx) kv_L_145 rfl rfl (Nat.le_of_ble_eq_true rfl) ⟨rfl, rfl⟩ ⟨Nat.le_of_ble_eq_true rfl, Nat.le_of_ble_eq_true rfl⟩ ⟨by show _ ≤ 866946; omega, by show _ ≤ 6501410; omega⟩ dL_law_1111 (fun x725 h724 hf => ?_)
          refine zr_aload_n C dL_law_1114 rfl 2 rfl ?_
          refine zr_aload_n C dL_law_1115 rfl 0 rfl ?_
          refine zr_iload_n C dL_law_1116 rfl 3 rfl ?_
          refine zr_iconst (v := 1) C dL_law_1117 (by decide) ?_
          refine zr_iadd C hf dL_law_1118 (fun x726 hf => ?_)
          refine zr_sld C hf hX hbl dL_law_1119 (fun x727 hf => ?_)
          refine zr_aload_n C dL_law_1120 rfl 0 rfl ?_
          refine zr_iload_n C dL_law_1121 rfl 3 rfl ?_
          refine zr_iconst (v := 2) C dL_law_1122 (by decide) ?_
          refine zr_iadd C hf dL_law_1123 (fun x728 hf => ?_)
          refine zr_sld C hf hX hbl dL_law_1124 (fun x729 hf => ?_)
          refine zr_aload_n C dL_law_1125 rfl 0 rfl ?_
          refine zr_iload_n C dL_law_1126 rfl 3 rfl ?_
          refine zr_iconst (v := 3) C dL_law_1127 (by decide) ?_
          refine zr_iadd C hf dL_law_1128 (fun x730 hf => ?_)
          refine zr_sld C hf hX hbl dL_law_1129 (fun x731 hf => ?_)
          refine zr_callVi (As := [.int x727, .int x729, .int x731]) (rest := [.int x725]) C hf (fun x hx => c_X11_saves l E n h724 w4 x727 x729 x731 x hx) kv_L_148 rfl rfl (Nat.le_of_ble_eq_true rfl) ⟨rfl, rfl⟩ ⟨Nat.le_of_ble_eq_true rfl, Nat.le_of_ble_eq_true rfl⟩ ⟨by show _ ≤ 866946; omega, by show _ ≤ 6501410; omega⟩ dL_law_1130 (fun x733 h732 hf => ?_)
          refine zr_icmp_eq (tgt := 1201) C hf dL_law_1133 (by decide) (fun hf => ?_) (fun hf => ?_)
          · refine zwiden (k := 117 + 20 * gn + 20) (n := 1026 + 48 * gn + 48) (by omega) (by omega) ?_
            exact J1201 h732 x383 hf
          · refine zwiden (k := 866946) (n := 6501410) (by omega) (by omega) ?_
            refine zr_iconst (v := 0) C dL_law_1136 (by decide) ?_
            cases hf
        refine zr_ite hf (fun he hf => zr_tableIn (off := 1106) (tgt := 1138) C dL_law_32 (by rw [he]; decide) (by rw [he]; decide) (by rw [he]; decide +kernel) (by decide) ?_) (fun _ hf => ?_)
        · refine zr_aload_n C dL_law_1138 rfl 1 rfl ?_
          refine zr_callVi (As := []) (rest := []) C hf (fun x hx => c_X10_image l E n h384 w1 x hx) kv_L_149 rfl rfl (Nat.le_of_ble_eq_true rfl) ⟨rfl, rfl⟩ ⟨Nat.le_of_ble_eq_true rfl, Nat.le_of_ble_eq_true rfl⟩ ⟨by show _ ≤ 866946; omega, by show _ ≤ 6501410; omega⟩ dL_law_1139 (fun x735 h734 hf => ?_)
          refine zr_aload_n C dL_law_1142 rfl 2 rfl ?_
          refine zr_callVi (As := []) (rest := [.int x735]) C hf (fun x hx => c_X11_image l E n h734 w4 x hx) kv_L_152 rfl rfl (Nat.le_of_ble_eq_true rfl) ⟨rfl, rfl⟩ ⟨Nat.le_of_ble_eq_true rfl, Nat.le_of_ble_eq_true rfl⟩ ⟨by show _ ≤ 866946; omega, by show _ ≤ 6501410; omega⟩ dL_law_1143 (fun x737 h736 hf => ?_)
          refine zr_icmp_eq (tgt := 1201) C hf dL_law_1146 (by decide) (fun hf => ?_) (fun hf => ?_)
          · refine zwiden (k := 117 + 20 * gn + 20) (n := 1026 + 48 * gn + 48) (by omega) (by omega) ?_
            exact J1201 h736 x383 hf
          · refine zwiden (k := 866946) (n := 6501410) (by omega) (by omega) ?_
            refine zr_iconst (v := 0) C dL_law_1149 (by decide) ?_
            cases hf
        refine zr_ite hf (fun he hf => zr_tableIn (off := 1119) (tgt := 1151) C dL_law_32 (by rw [he]; decide) (by rw [he]; decide) (by rw [he]; decide +kernel) (by decide) ?_) (fun _ hf => ?_)
        · refine zr_aload_n C dL_law_1151 rfl 1 rfl ?_
          refine zr_callVi (As := []) (rest := []) C hf (fun x hx => c_X10_restore l E n h384 w1 x hx) kv_L_153 rfl rfl (Nat.le_of_ble_eq_true rfl) ⟨rfl, rfl⟩ ⟨Nat.le_of_ble_eq_true rfl, Nat.le_of_ble_eq_true rfl⟩ ⟨by show _ ≤ 866946; omega, by show _ ≤ 6501410; omega⟩ dL_law_1152 (fun x739 h738 hf => ?_)
          refine zr_aload_n C dL_law_1155 rfl 2 rfl ?_
          refine zr_callVi (As := []) (rest := [.int x739]) C hf (fun x hx => c_X11_restore l E n h738 w4 x hx) kv_L_156 rfl rfl (Nat.le_of_ble_eq_true rfl) ⟨rfl, rfl⟩ ⟨Nat.le_of_ble_eq_true rfl, Nat.le_of_ble_eq_true rfl⟩ ⟨by show _ ≤ 866946; omega, by show _ ≤ 6501410; omega⟩ dL_law_1156 (fun x741 h740 hf => ?_)
          refine zr_icmp_eq (tgt := 1201) C hf dL_law_1159 (by decide) (fun hf => ?_) (fun hf => ?_)
          · refine zwiden (k := 117 + 20 * gn + 20) (n := 1026 + 48 * gn + 48) (by omega) (by omega) ?_
            exact J1201 h740 x383 hf
          · refine zwiden (k := 866946) (n := 6501410) (by omega) (by omega) ?_
            refine zr_iconst (v := 0) C dL_law_1162 (by decide) ?_
            cases hf
        refine zr_ite hf (fun he hf => zr_tableIn (off := 1132) (tgt := 1164) C dL_law_32 (by rw [he]; decide) (by rw [he]; decide) (by rw [he]; decide +kernel) (by decide) ?_) (fun _ hf => ?_)
        · refine zr_aload_n C dL_law_1164 rfl 1 rfl ?_
          refine zr_aload_n C dL_law_1165 rfl 0 rfl ?_
          refine zr_iload_n C dL_law_1166 rfl 3 rfl ?_
          refine zr_iconst (v := 1) C dL_law_1167 (by decide) ?_
          refine zr_iadd C hf dL_law_1168 (fun x742 hf => ?_)
          refine zr_sld C hf hX hbl dL_law_1169 (fun x743 hf => ?_)
          refine zr_callVi (As := [.int x743]) (rest := []) C hf (fun x hx => c_X10_count l E n h384 w1 x743 x hx) kv_L_157 rfl rfl (Nat.le_of_ble_eq_true rfl) ⟨rfl, rfl⟩ ⟨Nat.le_of_ble_eq_true rfl, Nat.le_of_ble_eq_true rfl⟩ ⟨by show _ ≤ 866946; omega, by show _ ≤ 6501410; omega⟩ dL_law_1170 (fun x745 h744 hf => ?_)
          refine zr_aload_n C dL_law_1173 rfl 2 rfl ?_
          refine zr_aload_n C dL_law_1174 rfl 0 rfl ?_
          refine zr_iload_n C dL_law_1175 rfl 3 rfl ?_
          refine zr_iconst (v := 1) C dL_law_1176 (by decide) ?_
          refine zr_iadd C hf dL_law_1177 (fun x746 hf => ?_)
          refine zr_sld C hf hX hbl dL_law_1178 (fun x747 hf => ?_)
          refine zr_callVi (As := [.int x747]) (rest := [.int x745]) C hf (fun x hx => c_X11_count l E n h744 w4 x747 x hx) kv_L_160 rfl rfl (Nat.le_of_ble_eq_true rfl) ⟨rfl, rfl⟩ ⟨Nat.le_of_ble_eq_true rfl, Nat.le_of_ble_eq_true rfl⟩ ⟨by show _ ≤ 866946; omega, by show _ ≤ 6501410; omega⟩ dL_law_1179 (fun x749 h748 hf => ?_)
          refine zr_icmp_eq (tgt := 1201) C hf dL_law_1182 (by decide) (fun hf => ?_) (fun hf => ?_)
          · refine zwiden (k := 117 + 20 * gn + 20) (n := 1026 + 48 * gn + 48) (by omega) (by omega) ?_
            exact J1201 h748 x383 hf
          · refine zwiden (k := 866946) (n := 6501410) (by omega) (by omega) ?_
            refine zr_iconst (v := 0) C dL_law_1185 (by decide) ?_
            cases hf
        refine zr_ite hf (fun he hf => zr_tableIn (off := 1155) (tgt := 1187) C dL_law_32 (by rw [he]; decide) (by rw [he]; decide) (by rw [he]; decide +kernel) (by decide) ?_) (fun _ hf => ?_)
        · refine zr_aload_n C dL_law_1187 rfl 1 rfl ?_
          refine zr_callVl (As := []) (rest := []) C hf (fun x hx => c_X10_digest l E n h384 w1 x hx) kv_L_161 rfl rfl (Nat.le_of_ble_eq_true rfl) ⟨rfl, rfl⟩ ⟨Nat.le_of_ble_eq_true rfl, Nat.le_of_ble_eq_true rfl⟩ ⟨by show _ ≤ 866946; omega, by show _ ≤ 6501410; omega⟩ dL_law_1188 (fun j751 h750 hf => ?_)
          refine zr_aload_n C dL_law_1191 rfl 2 rfl ?_
          refine zr_callVl (As := []) (rest := [.long j751]) C hf (fun x hx => c_X11_digest l E n h750 w4 x hx) kv_L_165 rfl rfl (Nat.le_of_ble_eq_true rfl) ⟨rfl, rfl⟩ ⟨Nat.le_of_ble_eq_true rfl, Nat.le_of_ble_eq_true rfl⟩ ⟨by show _ ≤ 866946; omega, by show _ ≤ 6501410; omega⟩ dL_law_1192 (fun j753 h752 hf => ?_)
          refine zr_lcmp C hf dL_law_1195 (fun x754 hf => ?_)
          refine zr_if_eq (tgt := 1201) C hf dL_law_1196 (by decide) (fun hf => ?_) (fun hf => ?_)
          · refine zwiden (k := 117 + 20 * gn + 20) (n := 1026 + 48 * gn + 48) (by omega) (by omega) ?_
            exact J1201 h752 x383 hf
          · refine zwiden (k := 866946) (n := 6501410) (by omega) (by omega) ?_
            refine zr_iconst (v := 0) C dL_law_1199 (by decide) ?_
            cases hf
        cases hf
  refine zwiden (k := 117 + 20 * 0) (n := 1026 + 48 * 0) (by omega) (by omega) ?_
  refine zsub [3, 2, 1, 0] rfl ?_
  exact L18 n (h6, (0 : Int32), 0) hf
