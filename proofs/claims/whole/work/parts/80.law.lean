theorem si_227_0 : decode (sp_b 227) 0 = .ok (.new 7, 3) := by decide +kernel
theorem si_227_3 : decode (sp_b 227) 3 = .ok (.dup, 1) := by decide +kernel
theorem si_227_4 : decode (sp_b 227) 4 = .ok (.invokespecial 9, 3) := by decide +kernel
theorem si_227_7 : decode (sp_b 227) 7 = .ok (.astore_n 1, 1) := by decide +kernel
theorem si_227_8 : decode (sp_b 227) 8 = .ok (.new 10, 3) := by decide +kernel
theorem si_227_11 : decode (sp_b 227) 11 = .ok (.dup, 1) := by decide +kernel
theorem si_227_12 : decode (sp_b 227) 12 = .ok (.invokespecial 12, 3) := by decide +kernel
theorem si_227_15 : decode (sp_b 227) 15 = .ok (.astore_n 2, 1) := by decide +kernel
theorem si_227_16 : decode (sp_b 227) 16 = .ok (.iconst 0, 1) := by decide +kernel
theorem si_227_17 : decode (sp_b 227) 17 = .ok (.istore_n 3, 1) := by decide +kernel
theorem si_227_18 : decode (sp_b 227) 18 = .ok (.iload_n 3, 1) := by decide +kernel
theorem si_227_19 : decode (sp_b 227) 19 = .ok (.aload_n 0, 1) := by decide +kernel
theorem si_227_20 : decode (sp_b 227) 20 = .ok (.arraylength, 1) := by decide +kernel
theorem si_227_21 : decode (sp_b 227) 21 = .ok (.bipush 6, 2) := by decide +kernel
theorem si_227_23 : decode (sp_b 227) 23 = .ok (.isub, 1) := by decide +kernel
theorem si_227_24 : decode (sp_b 227) 24 = .ok (.if_icmp .gt 1317, 3) := by decide +kernel
theorem si_227_27 : decode (sp_b 227) 27 = .ok (.aload_n 0, 1) := by decide +kernel
theorem si_227_28 : decode (sp_b 227) 28 = .ok (.iload_n 3, 1) := by decide +kernel
theorem si_227_29 : decode (sp_b 227) 29 = .ok (.iaload, 1) := by decide +kernel
theorem si_227_30 : decode (sp_b 227) 30 = .ok (.bipush 63, 2) := by decide +kernel
theorem si_227_32 : decode (sp_b 227) 32 = .ok (.iand, 1) := by decide +kernel
theorem si_227_33 : decode (sp_b 227) 33 = .ok (.tableswitch 1302 0 41 #[183, 216, 259, 292, 315, 378, 401, 434, 477, 500, 523, 556, 589, 612, 635, 658, 681, 704, 727, 740, 763, 786, 809, 832, 865, 898, 931, 954, 987, 1010, 1053, 1076, 1099, 1122, 1155, 1188, 1201, 1215, 1229, 1252, 1265, 1288], 183) := by decide +kernel
theorem si_227_216 : decode (sp_b 227) 216 = .ok (.aload_n 1, 1) := by decide +kernel
theorem si_227_217 : decode (sp_b 227) 217 = .ok (.aload_n 0, 1) := by decide +kernel
theorem si_227_218 : decode (sp_b 227) 218 = .ok (.iload_n 3, 1) := by decide +kernel
theorem si_227_219 : decode (sp_b 227) 219 = .ok (.iconst 1, 1) := by decide +kernel
theorem si_227_220 : decode (sp_b 227) 220 = .ok (.iadd, 1) := by decide +kernel
theorem si_227_221 : decode (sp_b 227) 221 = .ok (.iaload, 1) := by decide +kernel
theorem si_227_222 : decode (sp_b 227) 222 = .ok (.aload_n 0, 1) := by decide +kernel
theorem si_227_223 : decode (sp_b 227) 223 = .ok (.iload_n 3, 1) := by decide +kernel
theorem si_227_224 : decode (sp_b 227) 224 = .ok (.iconst 2, 1) := by decide +kernel
theorem si_227_225 : decode (sp_b 227) 225 = .ok (.iadd, 1) := by decide +kernel
theorem si_227_226 : decode (sp_b 227) 226 = .ok (.iaload, 1) := by decide +kernel
theorem si_227_227 : decode (sp_b 227) 227 = .ok (.invokevirtual 13, 3) := by decide +kernel
theorem si_227_230 : decode (sp_b 227) 230 = .ok (.aload_n 2, 1) := by decide +kernel
theorem si_227_231 : decode (sp_b 227) 231 = .ok (.aload_n 0, 1) := by decide +kernel
theorem si_227_232 : decode (sp_b 227) 232 = .ok (.iload_n 3, 1) := by decide +kernel
theorem si_227_233 : decode (sp_b 227) 233 = .ok (.iconst 1, 1) := by decide +kernel
theorem si_227_234 : decode (sp_b 227) 234 = .ok (.iadd, 1) := by decide +kernel
theorem si_227_235 : decode (sp_b 227) 235 = .ok (.iaload, 1) := by decide +kernel
theorem si_227_236 : decode (sp_b 227) 236 = .ok (.aload_n 0, 1) := by decide +kernel
theorem si_227_237 : decode (sp_b 227) 237 = .ok (.iload_n 3, 1) := by decide +kernel
theorem si_227_238 : decode (sp_b 227) 238 = .ok (.iconst 2, 1) := by decide +kernel
theorem si_227_239 : decode (sp_b 227) 239 = .ok (.iadd, 1) := by decide +kernel
theorem si_227_240 : decode (sp_b 227) 240 = .ok (.iaload, 1) := by decide +kernel
theorem si_227_241 : decode (sp_b 227) 241 = .ok (.invokevirtual 17, 3) := by decide +kernel
theorem si_227_244 : decode (sp_b 227) 244 = .ok (.if_icmp .eq 1091, 3) := by decide +kernel
theorem si_227_247 : decode (sp_b 227) 247 = .ok (.iconst 0, 1) := by decide +kernel
theorem si_227_248 : decode (sp_b 227) 248 = .ok (.ireturn, 1) := by decide +kernel
theorem si_227_249 : decode (sp_b 227) 249 = .ok (.aload_n 1, 1) := by decide +kernel
theorem si_227_250 : decode (sp_b 227) 250 = .ok (.aload_n 0, 1) := by decide +kernel
theorem si_227_251 : decode (sp_b 227) 251 = .ok (.iload_n 3, 1) := by decide +kernel
theorem si_227_252 : decode (sp_b 227) 252 = .ok (.iconst 1, 1) := by decide +kernel
theorem si_227_253 : decode (sp_b 227) 253 = .ok (.iadd, 1) := by decide +kernel
theorem si_227_254 : decode (sp_b 227) 254 = .ok (.iaload, 1) := by decide +kernel
theorem si_227_255 : decode (sp_b 227) 255 = .ok (.aload_n 0, 1) := by decide +kernel
theorem si_227_256 : decode (sp_b 227) 256 = .ok (.iload_n 3, 1) := by decide +kernel
theorem si_227_257 : decode (sp_b 227) 257 = .ok (.iconst 2, 1) := by decide +kernel
theorem si_227_258 : decode (sp_b 227) 258 = .ok (.iadd, 1) := by decide +kernel
theorem si_227_259 : decode (sp_b 227) 259 = .ok (.iaload, 1) := by decide +kernel
theorem si_227_260 : decode (sp_b 227) 260 = .ok (.aload_n 0, 1) := by decide +kernel
theorem si_227_261 : decode (sp_b 227) 261 = .ok (.iload_n 3, 1) := by decide +kernel
theorem si_227_262 : decode (sp_b 227) 262 = .ok (.iconst 3, 1) := by decide +kernel
theorem si_227_263 : decode (sp_b 227) 263 = .ok (.iadd, 1) := by decide +kernel
theorem si_227_264 : decode (sp_b 227) 264 = .ok (.iaload, 1) := by decide +kernel
theorem si_227_265 : decode (sp_b 227) 265 = .ok (.invokevirtual 18, 3) := by decide +kernel
theorem si_227_268 : decode (sp_b 227) 268 = .ok (.aload_n 2, 1) := by decide +kernel
theorem si_227_269 : decode (sp_b 227) 269 = .ok (.aload_n 0, 1) := by decide +kernel
theorem si_227_270 : decode (sp_b 227) 270 = .ok (.iload_n 3, 1) := by decide +kernel
theorem si_227_271 : decode (sp_b 227) 271 = .ok (.iconst 1, 1) := by decide +kernel
theorem si_227_272 : decode (sp_b 227) 272 = .ok (.iadd, 1) := by decide +kernel
theorem si_227_273 : decode (sp_b 227) 273 = .ok (.iaload, 1) := by decide +kernel
theorem si_227_274 : decode (sp_b 227) 274 = .ok (.aload_n 0, 1) := by decide +kernel
theorem si_227_275 : decode (sp_b 227) 275 = .ok (.iload_n 3, 1) := by decide +kernel
theorem si_227_276 : decode (sp_b 227) 276 = .ok (.iconst 2, 1) := by decide +kernel
theorem si_227_277 : decode (sp_b 227) 277 = .ok (.iadd, 1) := by decide +kernel
theorem si_227_278 : decode (sp_b 227) 278 = .ok (.iaload, 1) := by decide +kernel
theorem si_227_279 : decode (sp_b 227) 279 = .ok (.aload_n 0, 1) := by decide +kernel
theorem si_227_280 : decode (sp_b 227) 280 = .ok (.iload_n 3, 1) := by decide +kernel
theorem si_227_281 : decode (sp_b 227) 281 = .ok (.iconst 3, 1) := by decide +kernel
theorem si_227_282 : decode (sp_b 227) 282 = .ok (.iadd, 1) := by decide +kernel
theorem si_227_283 : decode (sp_b 227) 283 = .ok (.iaload, 1) := by decide +kernel
theorem si_227_284 : decode (sp_b 227) 284 = .ok (.invokevirtual 22, 3) := by decide +kernel
theorem si_227_287 : decode (sp_b 227) 287 = .ok (.if_icmp .eq 1048, 3) := by decide +kernel
theorem si_227_290 : decode (sp_b 227) 290 = .ok (.iconst 0, 1) := by decide +kernel
theorem si_227_291 : decode (sp_b 227) 291 = .ok (.ireturn, 1) := by decide +kernel
theorem si_227_292 : decode (sp_b 227) 292 = .ok (.aload_n 1, 1) := by decide +kernel
theorem si_227_293 : decode (sp_b 227) 293 = .ok (.aload_n 0, 1) := by decide +kernel
theorem si_227_294 : decode (sp_b 227) 294 = .ok (.iload_n 3, 1) := by decide +kernel
theorem si_227_295 : decode (sp_b 227) 295 = .ok (.iconst 1, 1) := by decide +kernel
theorem si_227_296 : decode (sp_b 227) 296 = .ok (.iadd, 1) := by decide +kernel
theorem si_227_297 : decode (sp_b 227) 297 = .ok (.iaload, 1) := by decide +kernel
theorem si_227_298 : decode (sp_b 227) 298 = .ok (.aload_n 0, 1) := by decide +kernel
theorem si_227_299 : decode (sp_b 227) 299 = .ok (.iload_n 3, 1) := by decide +kernel
theorem si_227_300 : decode (sp_b 227) 300 = .ok (.iconst 2, 1) := by decide +kernel
theorem si_227_301 : decode (sp_b 227) 301 = .ok (.iadd, 1) := by decide +kernel
theorem si_227_302 : decode (sp_b 227) 302 = .ok (.iaload, 1) := by decide +kernel
theorem si_227_303 : decode (sp_b 227) 303 = .ok (.invokevirtual 23, 3) := by decide +kernel
theorem si_227_306 : decode (sp_b 227) 306 = .ok (.aload_n 2, 1) := by decide +kernel
theorem si_227_307 : decode (sp_b 227) 307 = .ok (.aload_n 0, 1) := by decide +kernel
theorem si_227_308 : decode (sp_b 227) 308 = .ok (.iload_n 3, 1) := by decide +kernel
theorem si_227_309 : decode (sp_b 227) 309 = .ok (.iconst 1, 1) := by decide +kernel
theorem si_227_310 : decode (sp_b 227) 310 = .ok (.iadd, 1) := by decide +kernel
theorem si_227_311 : decode (sp_b 227) 311 = .ok (.iaload, 1) := by decide +kernel
theorem si_227_312 : decode (sp_b 227) 312 = .ok (.aload_n 0, 1) := by decide +kernel
theorem si_227_313 : decode (sp_b 227) 313 = .ok (.iload_n 3, 1) := by decide +kernel
theorem si_227_314 : decode (sp_b 227) 314 = .ok (.iconst 2, 1) := by decide +kernel
theorem si_227_315 : decode (sp_b 227) 315 = .ok (.iadd, 1) := by decide +kernel
theorem si_227_316 : decode (sp_b 227) 316 = .ok (.iaload, 1) := by decide +kernel
theorem si_227_317 : decode (sp_b 227) 317 = .ok (.invokevirtual 26, 3) := by decide +kernel
theorem si_227_320 : decode (sp_b 227) 320 = .ok (.if_icmp .eq 1015, 3) := by decide +kernel
theorem si_227_323 : decode (sp_b 227) 323 = .ok (.iconst 0, 1) := by decide +kernel
theorem si_227_324 : decode (sp_b 227) 324 = .ok (.ireturn, 1) := by decide +kernel
theorem si_227_325 : decode (sp_b 227) 325 = .ok (.aload_n 1, 1) := by decide +kernel
theorem si_227_326 : decode (sp_b 227) 326 = .ok (.aload_n 0, 1) := by decide +kernel
theorem si_227_327 : decode (sp_b 227) 327 = .ok (.iload_n 3, 1) := by decide +kernel
theorem si_227_328 : decode (sp_b 227) 328 = .ok (.iconst 1, 1) := by decide +kernel
theorem si_227_329 : decode (sp_b 227) 329 = .ok (.iadd, 1) := by decide +kernel
theorem si_227_330 : decode (sp_b 227) 330 = .ok (.iaload, 1) := by decide +kernel
theorem si_227_331 : decode (sp_b 227) 331 = .ok (.invokevirtual 27, 3) := by decide +kernel
theorem si_227_334 : decode (sp_b 227) 334 = .ok (.aload_n 2, 1) := by decide +kernel
theorem si_227_335 : decode (sp_b 227) 335 = .ok (.aload_n 0, 1) := by decide +kernel
theorem si_227_336 : decode (sp_b 227) 336 = .ok (.iload_n 3, 1) := by decide +kernel
theorem si_227_337 : decode (sp_b 227) 337 = .ok (.iconst 1, 1) := by decide +kernel
theorem si_227_338 : decode (sp_b 227) 338 = .ok (.iadd, 1) := by decide +kernel
theorem si_227_339 : decode (sp_b 227) 339 = .ok (.iaload, 1) := by decide +kernel
theorem si_227_340 : decode (sp_b 227) 340 = .ok (.invokevirtual 31, 3) := by decide +kernel
theorem si_227_343 : decode (sp_b 227) 343 = .ok (.if_icmp .eq 992, 3) := by decide +kernel
theorem si_227_346 : decode (sp_b 227) 346 = .ok (.iconst 0, 1) := by decide +kernel
theorem si_227_347 : decode (sp_b 227) 347 = .ok (.ireturn, 1) := by decide +kernel
theorem si_227_348 : decode (sp_b 227) 348 = .ok (.aload_n 1, 1) := by decide +kernel
theorem si_227_349 : decode (sp_b 227) 349 = .ok (.aload_n 0, 1) := by decide +kernel
theorem si_227_350 : decode (sp_b 227) 350 = .ok (.iload_n 3, 1) := by decide +kernel
theorem si_227_351 : decode (sp_b 227) 351 = .ok (.iconst 1, 1) := by decide +kernel
theorem si_227_352 : decode (sp_b 227) 352 = .ok (.iadd, 1) := by decide +kernel
theorem si_227_353 : decode (sp_b 227) 353 = .ok (.iaload, 1) := by decide +kernel
theorem si_227_354 : decode (sp_b 227) 354 = .ok (.aload_n 0, 1) := by decide +kernel
theorem si_227_355 : decode (sp_b 227) 355 = .ok (.iload_n 3, 1) := by decide +kernel
theorem si_227_356 : decode (sp_b 227) 356 = .ok (.iconst 2, 1) := by decide +kernel
theorem si_227_357 : decode (sp_b 227) 357 = .ok (.iadd, 1) := by decide +kernel
theorem si_227_358 : decode (sp_b 227) 358 = .ok (.iaload, 1) := by decide +kernel
theorem si_227_359 : decode (sp_b 227) 359 = .ok (.aload_n 0, 1) := by decide +kernel
theorem si_227_360 : decode (sp_b 227) 360 = .ok (.iload_n 3, 1) := by decide +kernel
theorem si_227_361 : decode (sp_b 227) 361 = .ok (.iconst 3, 1) := by decide +kernel
theorem si_227_362 : decode (sp_b 227) 362 = .ok (.iadd, 1) := by decide +kernel
theorem si_227_363 : decode (sp_b 227) 363 = .ok (.iaload, 1) := by decide +kernel
theorem si_227_364 : decode (sp_b 227) 364 = .ok (.aload_n 0, 1) := by decide +kernel
theorem si_227_365 : decode (sp_b 227) 365 = .ok (.iload_n 3, 1) := by decide +kernel
theorem si_227_366 : decode (sp_b 227) 366 = .ok (.iconst 4, 1) := by decide +kernel
theorem si_227_367 : decode (sp_b 227) 367 = .ok (.iadd, 1) := by decide +kernel
theorem si_227_368 : decode (sp_b 227) 368 = .ok (.iaload, 1) := by decide +kernel
theorem si_227_369 : decode (sp_b 227) 369 = .ok (.aload_n 0, 1) := by decide +kernel
theorem si_227_370 : decode (sp_b 227) 370 = .ok (.iload_n 3, 1) := by decide +kernel
theorem si_227_371 : decode (sp_b 227) 371 = .ok (.iconst 5, 1) := by decide +kernel
theorem si_227_372 : decode (sp_b 227) 372 = .ok (.iadd, 1) := by decide +kernel
theorem si_227_373 : decode (sp_b 227) 373 = .ok (.iaload, 1) := by decide +kernel
theorem si_227_374 : decode (sp_b 227) 374 = .ok (.invokevirtual 32, 3) := by decide +kernel
theorem si_227_377 : decode (sp_b 227) 377 = .ok (.aload_n 2, 1) := by decide +kernel
theorem si_227_378 : decode (sp_b 227) 378 = .ok (.aload_n 0, 1) := by decide +kernel
theorem si_227_379 : decode (sp_b 227) 379 = .ok (.iload_n 3, 1) := by decide +kernel
theorem si_227_380 : decode (sp_b 227) 380 = .ok (.iconst 1, 1) := by decide +kernel
theorem si_227_381 : decode (sp_b 227) 381 = .ok (.iadd, 1) := by decide +kernel
theorem si_227_382 : decode (sp_b 227) 382 = .ok (.iaload, 1) := by decide +kernel
theorem si_227_383 : decode (sp_b 227) 383 = .ok (.aload_n 0, 1) := by decide +kernel
theorem si_227_384 : decode (sp_b 227) 384 = .ok (.iload_n 3, 1) := by decide +kernel
theorem si_227_385 : decode (sp_b 227) 385 = .ok (.iconst 2, 1) := by decide +kernel
theorem si_227_386 : decode (sp_b 227) 386 = .ok (.iadd, 1) := by decide +kernel
theorem si_227_387 : decode (sp_b 227) 387 = .ok (.iaload, 1) := by decide +kernel
theorem si_227_388 : decode (sp_b 227) 388 = .ok (.aload_n 0, 1) := by decide +kernel
theorem si_227_389 : decode (sp_b 227) 389 = .ok (.iload_n 3, 1) := by decide +kernel
theorem si_227_390 : decode (sp_b 227) 390 = .ok (.iconst 3, 1) := by decide +kernel
theorem si_227_391 : decode (sp_b 227) 391 = .ok (.iadd, 1) := by decide +kernel
theorem si_227_392 : decode (sp_b 227) 392 = .ok (.iaload, 1) := by decide +kernel
theorem si_227_393 : decode (sp_b 227) 393 = .ok (.aload_n 0, 1) := by decide +kernel
theorem si_227_394 : decode (sp_b 227) 394 = .ok (.iload_n 3, 1) := by decide +kernel
theorem si_227_395 : decode (sp_b 227) 395 = .ok (.iconst 4, 1) := by decide +kernel
theorem si_227_396 : decode (sp_b 227) 396 = .ok (.iadd, 1) := by decide +kernel
theorem si_227_397 : decode (sp_b 227) 397 = .ok (.iaload, 1) := by decide +kernel
theorem si_227_398 : decode (sp_b 227) 398 = .ok (.aload_n 0, 1) := by decide +kernel
theorem si_227_399 : decode (sp_b 227) 399 = .ok (.iload_n 3, 1) := by decide +kernel
theorem si_227_400 : decode (sp_b 227) 400 = .ok (.iconst 5, 1) := by decide +kernel
theorem si_227_401 : decode (sp_b 227) 401 = .ok (.iadd, 1) := by decide +kernel
theorem si_227_402 : decode (sp_b 227) 402 = .ok (.iaload, 1) := by decide +kernel
theorem si_227_403 : decode (sp_b 227) 403 = .ok (.invokevirtual 36, 3) := by decide +kernel
theorem si_227_406 : decode (sp_b 227) 406 = .ok (.if_icmp .eq 929, 3) := by decide +kernel
theorem si_227_409 : decode (sp_b 227) 409 = .ok (.iconst 0, 1) := by decide +kernel
theorem si_227_410 : decode (sp_b 227) 410 = .ok (.ireturn, 1) := by decide +kernel
theorem si_227_411 : decode (sp_b 227) 411 = .ok (.aload_n 1, 1) := by decide +kernel
theorem si_227_412 : decode (sp_b 227) 412 = .ok (.aload_n 0, 1) := by decide +kernel
theorem si_227_413 : decode (sp_b 227) 413 = .ok (.iload_n 3, 1) := by decide +kernel
theorem si_227_414 : decode (sp_b 227) 414 = .ok (.iconst 1, 1) := by decide +kernel
theorem si_227_415 : decode (sp_b 227) 415 = .ok (.iadd, 1) := by decide +kernel
theorem si_227_416 : decode (sp_b 227) 416 = .ok (.iaload, 1) := by decide +kernel
theorem si_227_417 : decode (sp_b 227) 417 = .ok (.invokevirtual 37, 3) := by decide +kernel
theorem si_227_420 : decode (sp_b 227) 420 = .ok (.aload_n 2, 1) := by decide +kernel
theorem si_227_421 : decode (sp_b 227) 421 = .ok (.aload_n 0, 1) := by decide +kernel
theorem si_227_422 : decode (sp_b 227) 422 = .ok (.iload_n 3, 1) := by decide +kernel
theorem si_227_423 : decode (sp_b 227) 423 = .ok (.iconst 1, 1) := by decide +kernel
theorem si_227_424 : decode (sp_b 227) 424 = .ok (.iadd, 1) := by decide +kernel
theorem si_227_425 : decode (sp_b 227) 425 = .ok (.iaload, 1) := by decide +kernel
theorem si_227_426 : decode (sp_b 227) 426 = .ok (.invokevirtual 40, 3) := by decide +kernel
theorem si_227_429 : decode (sp_b 227) 429 = .ok (.if_icmp .eq 906, 3) := by decide +kernel
theorem si_227_432 : decode (sp_b 227) 432 = .ok (.iconst 0, 1) := by decide +kernel
theorem si_227_433 : decode (sp_b 227) 433 = .ok (.ireturn, 1) := by decide +kernel
theorem si_227_434 : decode (sp_b 227) 434 = .ok (.aload_n 1, 1) := by decide +kernel
theorem si_227_435 : decode (sp_b 227) 435 = .ok (.aload_n 0, 1) := by decide +kernel
theorem si_227_436 : decode (sp_b 227) 436 = .ok (.iload_n 3, 1) := by decide +kernel
theorem si_227_437 : decode (sp_b 227) 437 = .ok (.iconst 1, 1) := by decide +kernel
theorem si_227_438 : decode (sp_b 227) 438 = .ok (.iadd, 1) := by decide +kernel
theorem si_227_439 : decode (sp_b 227) 439 = .ok (.iaload, 1) := by decide +kernel
theorem si_227_440 : decode (sp_b 227) 440 = .ok (.aload_n 0, 1) := by decide +kernel
theorem si_227_441 : decode (sp_b 227) 441 = .ok (.iload_n 3, 1) := by decide +kernel
theorem si_227_442 : decode (sp_b 227) 442 = .ok (.iconst 2, 1) := by decide +kernel
theorem si_227_443 : decode (sp_b 227) 443 = .ok (.iadd, 1) := by decide +kernel
theorem si_227_444 : decode (sp_b 227) 444 = .ok (.iaload, 1) := by decide +kernel
theorem si_227_445 : decode (sp_b 227) 445 = .ok (.invokevirtual 41, 3) := by decide +kernel
theorem si_227_448 : decode (sp_b 227) 448 = .ok (.aload_n 2, 1) := by decide +kernel
theorem si_227_449 : decode (sp_b 227) 449 = .ok (.aload_n 0, 1) := by decide +kernel
theorem si_227_450 : decode (sp_b 227) 450 = .ok (.iload_n 3, 1) := by decide +kernel
theorem si_227_451 : decode (sp_b 227) 451 = .ok (.iconst 1, 1) := by decide +kernel
theorem si_227_452 : decode (sp_b 227) 452 = .ok (.iadd, 1) := by decide +kernel
theorem si_227_453 : decode (sp_b 227) 453 = .ok (.iaload, 1) := by decide +kernel
theorem si_227_454 : decode (sp_b 227) 454 = .ok (.aload_n 0, 1) := by decide +kernel
theorem si_227_455 : decode (sp_b 227) 455 = .ok (.iload_n 3, 1) := by decide +kernel
theorem si_227_456 : decode (sp_b 227) 456 = .ok (.iconst 2, 1) := by decide +kernel
theorem si_227_457 : decode (sp_b 227) 457 = .ok (.iadd, 1) := by decide +kernel
theorem si_227_458 : decode (sp_b 227) 458 = .ok (.iaload, 1) := by decide +kernel
theorem si_227_459 : decode (sp_b 227) 459 = .ok (.invokevirtual 44, 3) := by decide +kernel
theorem si_227_462 : decode (sp_b 227) 462 = .ok (.if_icmp .eq 873, 3) := by decide +kernel
theorem si_227_465 : decode (sp_b 227) 465 = .ok (.iconst 0, 1) := by decide +kernel
theorem si_227_466 : decode (sp_b 227) 466 = .ok (.ireturn, 1) := by decide +kernel
theorem si_227_467 : decode (sp_b 227) 467 = .ok (.aload_n 1, 1) := by decide +kernel
theorem si_227_468 : decode (sp_b 227) 468 = .ok (.aload_n 0, 1) := by decide +kernel
theorem si_227_469 : decode (sp_b 227) 469 = .ok (.iload_n 3, 1) := by decide +kernel
theorem si_227_470 : decode (sp_b 227) 470 = .ok (.iconst 1, 1) := by decide +kernel
theorem si_227_471 : decode (sp_b 227) 471 = .ok (.iadd, 1) := by decide +kernel
theorem si_227_472 : decode (sp_b 227) 472 = .ok (.iaload, 1) := by decide +kernel
theorem si_227_473 : decode (sp_b 227) 473 = .ok (.aload_n 0, 1) := by decide +kernel
theorem si_227_474 : decode (sp_b 227) 474 = .ok (.iload_n 3, 1) := by decide +kernel
theorem si_227_475 : decode (sp_b 227) 475 = .ok (.iconst 2, 1) := by decide +kernel
theorem si_227_476 : decode (sp_b 227) 476 = .ok (.iadd, 1) := by decide +kernel
theorem si_227_477 : decode (sp_b 227) 477 = .ok (.iaload, 1) := by decide +kernel
theorem si_227_478 : decode (sp_b 227) 478 = .ok (.aload_n 0, 1) := by decide +kernel
theorem si_227_479 : decode (sp_b 227) 479 = .ok (.iload_n 3, 1) := by decide +kernel
theorem si_227_480 : decode (sp_b 227) 480 = .ok (.iconst 3, 1) := by decide +kernel
theorem si_227_481 : decode (sp_b 227) 481 = .ok (.iadd, 1) := by decide +kernel
theorem si_227_482 : decode (sp_b 227) 482 = .ok (.iaload, 1) := by decide +kernel
theorem si_227_483 : decode (sp_b 227) 483 = .ok (.invokevirtual 45, 3) := by decide +kernel
theorem si_227_486 : decode (sp_b 227) 486 = .ok (.aload_n 2, 1) := by decide +kernel
theorem si_227_487 : decode (sp_b 227) 487 = .ok (.aload_n 0, 1) := by decide +kernel
theorem si_227_488 : decode (sp_b 227) 488 = .ok (.iload_n 3, 1) := by decide +kernel
theorem si_227_489 : decode (sp_b 227) 489 = .ok (.iconst 1, 1) := by decide +kernel
theorem si_227_490 : decode (sp_b 227) 490 = .ok (.iadd, 1) := by decide +kernel
theorem si_227_491 : decode (sp_b 227) 491 = .ok (.iaload, 1) := by decide +kernel
theorem si_227_492 : decode (sp_b 227) 492 = .ok (.aload_n 0, 1) := by decide +kernel
theorem si_227_493 : decode (sp_b 227) 493 = .ok (.iload_n 3, 1) := by decide +kernel
theorem si_227_494 : decode (sp_b 227) 494 = .ok (.iconst 2, 1) := by decide +kernel
theorem si_227_495 : decode (sp_b 227) 495 = .ok (.iadd, 1) := by decide +kernel
theorem si_227_496 : decode (sp_b 227) 496 = .ok (.iaload, 1) := by decide +kernel
theorem si_227_497 : decode (sp_b 227) 497 = .ok (.aload_n 0, 1) := by decide +kernel
theorem si_227_498 : decode (sp_b 227) 498 = .ok (.iload_n 3, 1) := by decide +kernel
theorem si_227_499 : decode (sp_b 227) 499 = .ok (.iconst 3, 1) := by decide +kernel
theorem si_227_500 : decode (sp_b 227) 500 = .ok (.iadd, 1) := by decide +kernel
theorem si_227_501 : decode (sp_b 227) 501 = .ok (.iaload, 1) := by decide +kernel
theorem si_227_502 : decode (sp_b 227) 502 = .ok (.invokevirtual 48, 3) := by decide +kernel
theorem si_227_505 : decode (sp_b 227) 505 = .ok (.if_icmp .eq 830, 3) := by decide +kernel
theorem si_227_508 : decode (sp_b 227) 508 = .ok (.iconst 0, 1) := by decide +kernel
theorem si_227_509 : decode (sp_b 227) 509 = .ok (.ireturn, 1) := by decide +kernel
theorem si_227_510 : decode (sp_b 227) 510 = .ok (.aload_n 1, 1) := by decide +kernel
theorem si_227_511 : decode (sp_b 227) 511 = .ok (.aload_n 0, 1) := by decide +kernel
theorem si_227_512 : decode (sp_b 227) 512 = .ok (.iload_n 3, 1) := by decide +kernel
theorem si_227_513 : decode (sp_b 227) 513 = .ok (.iconst 1, 1) := by decide +kernel
theorem si_227_514 : decode (sp_b 227) 514 = .ok (.iadd, 1) := by decide +kernel
theorem si_227_515 : decode (sp_b 227) 515 = .ok (.iaload, 1) := by decide +kernel
theorem si_227_516 : decode (sp_b 227) 516 = .ok (.invokevirtual 49, 3) := by decide +kernel
theorem si_227_519 : decode (sp_b 227) 519 = .ok (.aload_n 2, 1) := by decide +kernel
theorem si_227_520 : decode (sp_b 227) 520 = .ok (.aload_n 0, 1) := by decide +kernel
theorem si_227_521 : decode (sp_b 227) 521 = .ok (.iload_n 3, 1) := by decide +kernel
theorem si_227_522 : decode (sp_b 227) 522 = .ok (.iconst 1, 1) := by decide +kernel
theorem si_227_523 : decode (sp_b 227) 523 = .ok (.iadd, 1) := by decide +kernel
theorem si_227_524 : decode (sp_b 227) 524 = .ok (.iaload, 1) := by decide +kernel
theorem si_227_525 : decode (sp_b 227) 525 = .ok (.invokevirtual 52, 3) := by decide +kernel
theorem si_227_528 : decode (sp_b 227) 528 = .ok (.if_icmp .eq 807, 3) := by decide +kernel
theorem si_227_531 : decode (sp_b 227) 531 = .ok (.iconst 0, 1) := by decide +kernel
theorem si_227_532 : decode (sp_b 227) 532 = .ok (.ireturn, 1) := by decide +kernel
theorem si_227_533 : decode (sp_b 227) 533 = .ok (.aload_n 1, 1) := by decide +kernel
theorem si_227_534 : decode (sp_b 227) 534 = .ok (.aload_n 0, 1) := by decide +kernel
theorem si_227_535 : decode (sp_b 227) 535 = .ok (.iload_n 3, 1) := by decide +kernel
theorem si_227_536 : decode (sp_b 227) 536 = .ok (.iconst 1, 1) := by decide +kernel
theorem si_227_537 : decode (sp_b 227) 537 = .ok (.iadd, 1) := by decide +kernel
theorem si_227_538 : decode (sp_b 227) 538 = .ok (.iaload, 1) := by decide +kernel
theorem si_227_539 : decode (sp_b 227) 539 = .ok (.invokevirtual 53, 3) := by decide +kernel
theorem si_227_542 : decode (sp_b 227) 542 = .ok (.aload_n 2, 1) := by decide +kernel
theorem si_227_543 : decode (sp_b 227) 543 = .ok (.aload_n 0, 1) := by decide +kernel
theorem si_227_544 : decode (sp_b 227) 544 = .ok (.iload_n 3, 1) := by decide +kernel
theorem si_227_545 : decode (sp_b 227) 545 = .ok (.iconst 1, 1) := by decide +kernel
theorem si_227_546 : decode (sp_b 227) 546 = .ok (.iadd, 1) := by decide +kernel
theorem si_227_547 : decode (sp_b 227) 547 = .ok (.iaload, 1) := by decide +kernel
theorem si_227_548 : decode (sp_b 227) 548 = .ok (.invokevirtual 56, 3) := by decide +kernel
theorem si_227_551 : decode (sp_b 227) 551 = .ok (.if_icmp .eq 784, 3) := by decide +kernel
theorem si_227_554 : decode (sp_b 227) 554 = .ok (.iconst 0, 1) := by decide +kernel
theorem si_227_555 : decode (sp_b 227) 555 = .ok (.ireturn, 1) := by decide +kernel
theorem si_227_556 : decode (sp_b 227) 556 = .ok (.aload_n 1, 1) := by decide +kernel
theorem si_227_557 : decode (sp_b 227) 557 = .ok (.aload_n 0, 1) := by decide +kernel
theorem si_227_558 : decode (sp_b 227) 558 = .ok (.iload_n 3, 1) := by decide +kernel
theorem si_227_559 : decode (sp_b 227) 559 = .ok (.iconst 1, 1) := by decide +kernel
theorem si_227_560 : decode (sp_b 227) 560 = .ok (.iadd, 1) := by decide +kernel
theorem si_227_561 : decode (sp_b 227) 561 = .ok (.iaload, 1) := by decide +kernel
theorem si_227_562 : decode (sp_b 227) 562 = .ok (.aload_n 0, 1) := by decide +kernel
theorem si_227_563 : decode (sp_b 227) 563 = .ok (.iload_n 3, 1) := by decide +kernel
theorem si_227_564 : decode (sp_b 227) 564 = .ok (.iconst 2, 1) := by decide +kernel
theorem si_227_565 : decode (sp_b 227) 565 = .ok (.iadd, 1) := by decide +kernel
theorem si_227_566 : decode (sp_b 227) 566 = .ok (.iaload, 1) := by decide +kernel
theorem si_227_567 : decode (sp_b 227) 567 = .ok (.invokevirtual 57, 3) := by decide +kernel
theorem si_227_570 : decode (sp_b 227) 570 = .ok (.aload_n 2, 1) := by decide +kernel
theorem si_227_571 : decode (sp_b 227) 571 = .ok (.aload_n 0, 1) := by decide +kernel
theorem si_227_572 : decode (sp_b 227) 572 = .ok (.iload_n 3, 1) := by decide +kernel
theorem si_227_573 : decode (sp_b 227) 573 = .ok (.iconst 1, 1) := by decide +kernel
theorem si_227_574 : decode (sp_b 227) 574 = .ok (.iadd, 1) := by decide +kernel
theorem si_227_575 : decode (sp_b 227) 575 = .ok (.iaload, 1) := by decide +kernel
theorem si_227_576 : decode (sp_b 227) 576 = .ok (.aload_n 0, 1) := by decide +kernel
theorem si_227_577 : decode (sp_b 227) 577 = .ok (.iload_n 3, 1) := by decide +kernel
theorem si_227_578 : decode (sp_b 227) 578 = .ok (.iconst 2, 1) := by decide +kernel
theorem si_227_579 : decode (sp_b 227) 579 = .ok (.iadd, 1) := by decide +kernel
theorem si_227_580 : decode (sp_b 227) 580 = .ok (.iaload, 1) := by decide +kernel
theorem si_227_581 : decode (sp_b 227) 581 = .ok (.invokevirtual 60, 3) := by decide +kernel
theorem si_227_584 : decode (sp_b 227) 584 = .ok (.if_icmp .eq 751, 3) := by decide +kernel
theorem si_227_587 : decode (sp_b 227) 587 = .ok (.iconst 0, 1) := by decide +kernel
theorem si_227_588 : decode (sp_b 227) 588 = .ok (.ireturn, 1) := by decide +kernel
theorem si_227_589 : decode (sp_b 227) 589 = .ok (.aload_n 1, 1) := by decide +kernel
theorem si_227_590 : decode (sp_b 227) 590 = .ok (.aload_n 0, 1) := by decide +kernel
theorem si_227_591 : decode (sp_b 227) 591 = .ok (.iload_n 3, 1) := by decide +kernel
theorem si_227_592 : decode (sp_b 227) 592 = .ok (.iconst 1, 1) := by decide +kernel
theorem si_227_593 : decode (sp_b 227) 593 = .ok (.iadd, 1) := by decide +kernel
theorem si_227_594 : decode (sp_b 227) 594 = .ok (.iaload, 1) := by decide +kernel
theorem si_227_595 : decode (sp_b 227) 595 = .ok (.aload_n 0, 1) := by decide +kernel
theorem si_227_596 : decode (sp_b 227) 596 = .ok (.iload_n 3, 1) := by decide +kernel
theorem si_227_597 : decode (sp_b 227) 597 = .ok (.iconst 2, 1) := by decide +kernel
theorem si_227_598 : decode (sp_b 227) 598 = .ok (.iadd, 1) := by decide +kernel
theorem si_227_599 : decode (sp_b 227) 599 = .ok (.iaload, 1) := by decide +kernel
theorem si_227_600 : decode (sp_b 227) 600 = .ok (.invokevirtual 61, 3) := by decide +kernel
theorem si_227_603 : decode (sp_b 227) 603 = .ok (.aload_n 2, 1) := by decide +kernel
theorem si_227_604 : decode (sp_b 227) 604 = .ok (.aload_n 0, 1) := by decide +kernel
theorem si_227_605 : decode (sp_b 227) 605 = .ok (.iload_n 3, 1) := by decide +kernel
theorem si_227_606 : decode (sp_b 227) 606 = .ok (.iconst 1, 1) := by decide +kernel
theorem si_227_607 : decode (sp_b 227) 607 = .ok (.iadd, 1) := by decide +kernel
theorem si_227_608 : decode (sp_b 227) 608 = .ok (.iaload, 1) := by decide +kernel
theorem si_227_609 : decode (sp_b 227) 609 = .ok (.aload_n 0, 1) := by decide +kernel
theorem si_227_610 : decode (sp_b 227) 610 = .ok (.iload_n 3, 1) := by decide +kernel
theorem si_227_611 : decode (sp_b 227) 611 = .ok (.iconst 2, 1) := by decide +kernel
theorem si_227_612 : decode (sp_b 227) 612 = .ok (.iadd, 1) := by decide +kernel
theorem si_227_613 : decode (sp_b 227) 613 = .ok (.iaload, 1) := by decide +kernel
theorem si_227_614 : decode (sp_b 227) 614 = .ok (.invokevirtual 64, 3) := by decide +kernel
