theorem dX7_init_244 : decode cX7_init 244 = .ok (.bipush 33, 2) := by decide +kernel
theorem dX7_init_246 : decode cX7_init 246 = .ok (.newarray .int, 2) := by decide +kernel
theorem dX7_init_248 : decode cX7_init 248 = .ok (.dup, 1) := by decide +kernel
theorem dX7_init_249 : decode cX7_init 249 = .ok (.iconst 0, 1) := by decide +kernel
theorem dX7_init_250 : decode cX7_init 250 = .ok (.sipush 16384, 3) := by decide +kernel
theorem dX7_init_253 : decode cX7_init 253 = .ok (.iastore, 1) := by decide +kernel
theorem dX7_init_254 : decode cX7_init 254 = .ok (.dup, 1) := by decide +kernel
theorem dX7_init_255 : decode cX7_init 255 = .ok (.iconst 1, 1) := by decide +kernel
theorem dX7_init_256 : decode cX7_init 256 = .ok (.sipush 16364, 3) := by decide +kernel
theorem dX7_init_259 : decode cX7_init 259 = .ok (.iastore, 1) := by decide +kernel
theorem dX7_init_260 : decode cX7_init 260 = .ok (.dup, 1) := by decide +kernel
theorem dX7_init_261 : decode cX7_init 261 = .ok (.iconst 2, 1) := by decide +kernel
theorem dX7_init_262 : decode cX7_init 262 = .ok (.sipush 16305, 3) := by decide +kernel
theorem dX7_init_265 : decode cX7_init 265 = .ok (.iastore, 1) := by decide +kernel
theorem dX7_init_266 : decode cX7_init 266 = .ok (.dup, 1) := by decide +kernel
theorem dX7_init_267 : decode cX7_init 267 = .ok (.iconst 3, 1) := by decide +kernel
theorem dX7_init_268 : decode cX7_init 268 = .ok (.sipush 16207, 3) := by decide +kernel
theorem dX7_init_271 : decode cX7_init 271 = .ok (.iastore, 1) := by decide +kernel
theorem dX7_init_272 : decode cX7_init 272 = .ok (.dup, 1) := by decide +kernel
theorem dX7_init_273 : decode cX7_init 273 = .ok (.iconst 4, 1) := by decide +kernel
theorem dX7_init_274 : decode cX7_init 274 = .ok (.sipush 16069, 3) := by decide +kernel
theorem dX7_init_277 : decode cX7_init 277 = .ok (.iastore, 1) := by decide +kernel
theorem dX7_init_278 : decode cX7_init 278 = .ok (.dup, 1) := by decide +kernel
theorem dX7_init_279 : decode cX7_init 279 = .ok (.iconst 5, 1) := by decide +kernel
theorem dX7_init_280 : decode cX7_init 280 = .ok (.sipush 15893, 3) := by decide +kernel
theorem dX7_init_283 : decode cX7_init 283 = .ok (.iastore, 1) := by decide +kernel
theorem dX7_init_284 : decode cX7_init 284 = .ok (.dup, 1) := by decide +kernel
theorem dX7_init_285 : decode cX7_init 285 = .ok (.bipush 6, 2) := by decide +kernel
theorem dX7_init_287 : decode cX7_init 287 = .ok (.sipush 15679, 3) := by decide +kernel
theorem dX7_init_290 : decode cX7_init 290 = .ok (.iastore, 1) := by decide +kernel
theorem dX7_init_291 : decode cX7_init 291 = .ok (.dup, 1) := by decide +kernel
theorem dX7_init_292 : decode cX7_init 292 = .ok (.bipush 7, 2) := by decide +kernel
theorem dX7_init_294 : decode cX7_init 294 = .ok (.sipush 15426, 3) := by decide +kernel
theorem dX7_init_297 : decode cX7_init 297 = .ok (.iastore, 1) := by decide +kernel
theorem dX7_init_298 : decode cX7_init 298 = .ok (.dup, 1) := by decide +kernel
theorem dX7_init_299 : decode cX7_init 299 = .ok (.bipush 8, 2) := by decide +kernel
theorem dX7_init_301 : decode cX7_init 301 = .ok (.sipush 15137, 3) := by decide +kernel
theorem dX7_init_304 : decode cX7_init 304 = .ok (.iastore, 1) := by decide +kernel
theorem dX7_init_305 : decode cX7_init 305 = .ok (.dup, 1) := by decide +kernel
theorem dX7_init_306 : decode cX7_init 306 = .ok (.bipush 9, 2) := by decide +kernel
theorem dX7_init_308 : decode cX7_init 308 = .ok (.sipush 14811, 3) := by decide +kernel
theorem dX7_init_311 : decode cX7_init 311 = .ok (.iastore, 1) := by decide +kernel
theorem dX7_init_312 : decode cX7_init 312 = .ok (.dup, 1) := by decide +kernel
theorem dX7_init_313 : decode cX7_init 313 = .ok (.bipush 10, 2) := by decide +kernel
theorem dX7_init_315 : decode cX7_init 315 = .ok (.sipush 14449, 3) := by decide +kernel
theorem dX7_init_318 : decode cX7_init 318 = .ok (.iastore, 1) := by decide +kernel
theorem dX7_init_319 : decode cX7_init 319 = .ok (.dup, 1) := by decide +kernel
theorem dX7_init_320 : decode cX7_init 320 = .ok (.bipush 11, 2) := by decide +kernel
theorem dX7_init_322 : decode cX7_init 322 = .ok (.sipush 14053, 3) := by decide +kernel
theorem dX7_init_325 : decode cX7_init 325 = .ok (.iastore, 1) := by decide +kernel
theorem dX7_init_326 : decode cX7_init 326 = .ok (.dup, 1) := by decide +kernel
theorem dX7_init_327 : decode cX7_init 327 = .ok (.bipush 12, 2) := by decide +kernel
theorem dX7_init_329 : decode cX7_init 329 = .ok (.sipush 13623, 3) := by decide +kernel
theorem dX7_init_332 : decode cX7_init 332 = .ok (.iastore, 1) := by decide +kernel
theorem dX7_init_333 : decode cX7_init 333 = .ok (.dup, 1) := by decide +kernel
theorem dX7_init_334 : decode cX7_init 334 = .ok (.bipush 13, 2) := by decide +kernel
theorem dX7_init_336 : decode cX7_init 336 = .ok (.sipush 13160, 3) := by decide +kernel
theorem dX7_init_339 : decode cX7_init 339 = .ok (.iastore, 1) := by decide +kernel
theorem dX7_init_340 : decode cX7_init 340 = .ok (.dup, 1) := by decide +kernel
theorem dX7_init_341 : decode cX7_init 341 = .ok (.bipush 14, 2) := by decide +kernel
theorem dX7_init_343 : decode cX7_init 343 = .ok (.sipush 12665, 3) := by decide +kernel
theorem dX7_init_346 : decode cX7_init 346 = .ok (.iastore, 1) := by decide +kernel
theorem dX7_init_347 : decode cX7_init 347 = .ok (.dup, 1) := by decide +kernel
theorem dX7_init_348 : decode cX7_init 348 = .ok (.bipush 15, 2) := by decide +kernel
theorem dX7_init_350 : decode cX7_init 350 = .ok (.sipush 12140, 3) := by decide +kernel
theorem dX7_init_353 : decode cX7_init 353 = .ok (.iastore, 1) := by decide +kernel
theorem dX7_init_354 : decode cX7_init 354 = .ok (.dup, 1) := by decide +kernel
theorem dX7_init_355 : decode cX7_init 355 = .ok (.bipush 16, 2) := by decide +kernel
theorem dX7_init_357 : decode cX7_init 357 = .ok (.sipush 11585, 3) := by decide +kernel
theorem dX7_init_360 : decode cX7_init 360 = .ok (.iastore, 1) := by decide +kernel
theorem dX7_init_361 : decode cX7_init 361 = .ok (.dup, 1) := by decide +kernel
theorem dX7_init_362 : decode cX7_init 362 = .ok (.bipush 17, 2) := by decide +kernel
theorem dX7_init_364 : decode cX7_init 364 = .ok (.sipush 11003, 3) := by decide +kernel
theorem dX7_init_367 : decode cX7_init 367 = .ok (.iastore, 1) := by decide +kernel
theorem dX7_init_368 : decode cX7_init 368 = .ok (.dup, 1) := by decide +kernel
theorem dX7_init_369 : decode cX7_init 369 = .ok (.bipush 18, 2) := by decide +kernel
theorem dX7_init_371 : decode cX7_init 371 = .ok (.sipush 10394, 3) := by decide +kernel
theorem dX7_init_374 : decode cX7_init 374 = .ok (.iastore, 1) := by decide +kernel
theorem dX7_init_375 : decode cX7_init 375 = .ok (.dup, 1) := by decide +kernel
theorem dX7_init_376 : decode cX7_init 376 = .ok (.bipush 19, 2) := by decide +kernel
theorem dX7_init_378 : decode cX7_init 378 = .ok (.sipush 9760, 3) := by decide +kernel
theorem dX7_init_381 : decode cX7_init 381 = .ok (.iastore, 1) := by decide +kernel
theorem dX7_init_382 : decode cX7_init 382 = .ok (.dup, 1) := by decide +kernel
theorem dX7_init_383 : decode cX7_init 383 = .ok (.bipush 20, 2) := by decide +kernel
theorem dX7_init_385 : decode cX7_init 385 = .ok (.sipush 9102, 3) := by decide +kernel
theorem dX7_init_388 : decode cX7_init 388 = .ok (.iastore, 1) := by decide +kernel
theorem dX7_init_389 : decode cX7_init 389 = .ok (.dup, 1) := by decide +kernel
theorem dX7_init_390 : decode cX7_init 390 = .ok (.bipush 21, 2) := by decide +kernel
theorem dX7_init_392 : decode cX7_init 392 = .ok (.sipush 8423, 3) := by decide +kernel
theorem dX7_init_395 : decode cX7_init 395 = .ok (.iastore, 1) := by decide +kernel
theorem dX7_init_396 : decode cX7_init 396 = .ok (.dup, 1) := by decide +kernel
theorem dX7_init_397 : decode cX7_init 397 = .ok (.bipush 22, 2) := by decide +kernel
theorem dX7_init_399 : decode cX7_init 399 = .ok (.sipush 7723, 3) := by decide +kernel
theorem dX7_init_402 : decode cX7_init 402 = .ok (.iastore, 1) := by decide +kernel
theorem dX7_init_403 : decode cX7_init 403 = .ok (.dup, 1) := by decide +kernel
theorem dX7_init_404 : decode cX7_init 404 = .ok (.bipush 23, 2) := by decide +kernel
theorem dX7_init_406 : decode cX7_init 406 = .ok (.sipush 7005, 3) := by decide +kernel
theorem dX7_init_409 : decode cX7_init 409 = .ok (.iastore, 1) := by decide +kernel
theorem dX7_init_410 : decode cX7_init 410 = .ok (.dup, 1) := by decide +kernel
theorem dX7_init_411 : decode cX7_init 411 = .ok (.bipush 24, 2) := by decide +kernel
theorem dX7_init_413 : decode cX7_init 413 = .ok (.sipush 6270, 3) := by decide +kernel
theorem dX7_init_416 : decode cX7_init 416 = .ok (.iastore, 1) := by decide +kernel
theorem dX7_init_417 : decode cX7_init 417 = .ok (.dup, 1) := by decide +kernel
theorem dX7_init_418 : decode cX7_init 418 = .ok (.bipush 25, 2) := by decide +kernel
theorem dX7_init_420 : decode cX7_init 420 = .ok (.sipush 5520, 3) := by decide +kernel
theorem dX7_init_423 : decode cX7_init 423 = .ok (.iastore, 1) := by decide +kernel
theorem dX7_init_424 : decode cX7_init 424 = .ok (.dup, 1) := by decide +kernel
theorem dX7_init_425 : decode cX7_init 425 = .ok (.bipush 26, 2) := by decide +kernel
theorem dX7_init_427 : decode cX7_init 427 = .ok (.sipush 4756, 3) := by decide +kernel
theorem dX7_init_430 : decode cX7_init 430 = .ok (.iastore, 1) := by decide +kernel
theorem dX7_init_431 : decode cX7_init 431 = .ok (.dup, 1) := by decide +kernel
theorem dX7_init_432 : decode cX7_init 432 = .ok (.bipush 27, 2) := by decide +kernel
theorem dX7_init_434 : decode cX7_init 434 = .ok (.sipush 3981, 3) := by decide +kernel
theorem dX7_init_437 : decode cX7_init 437 = .ok (.iastore, 1) := by decide +kernel
theorem dX7_init_438 : decode cX7_init 438 = .ok (.dup, 1) := by decide +kernel
theorem dX7_init_439 : decode cX7_init 439 = .ok (.bipush 28, 2) := by decide +kernel
theorem dX7_init_441 : decode cX7_init 441 = .ok (.sipush 3196, 3) := by decide +kernel
theorem dX7_init_444 : decode cX7_init 444 = .ok (.iastore, 1) := by decide +kernel
theorem dX7_init_445 : decode cX7_init 445 = .ok (.dup, 1) := by decide +kernel
theorem dX7_init_446 : decode cX7_init 446 = .ok (.bipush 29, 2) := by decide +kernel
theorem dX7_init_448 : decode cX7_init 448 = .ok (.sipush 2404, 3) := by decide +kernel
theorem dX7_init_451 : decode cX7_init 451 = .ok (.iastore, 1) := by decide +kernel
theorem dX7_init_452 : decode cX7_init 452 = .ok (.dup, 1) := by decide +kernel
theorem dX7_init_453 : decode cX7_init 453 = .ok (.bipush 30, 2) := by decide +kernel
theorem dX7_init_455 : decode cX7_init 455 = .ok (.sipush 1606, 3) := by decide +kernel
theorem dX7_init_458 : decode cX7_init 458 = .ok (.iastore, 1) := by decide +kernel
theorem dX7_init_459 : decode cX7_init 459 = .ok (.dup, 1) := by decide +kernel
theorem dX7_init_460 : decode cX7_init 460 = .ok (.bipush 31, 2) := by decide +kernel
theorem dX7_init_462 : decode cX7_init 462 = .ok (.sipush 804, 3) := by decide +kernel
theorem dX7_init_465 : decode cX7_init 465 = .ok (.iastore, 1) := by decide +kernel
