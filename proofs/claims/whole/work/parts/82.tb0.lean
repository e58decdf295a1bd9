section TB
variable {p : Program} {l : Launch} {e : Env} {R : Room} {s : State} {m : MethodId} {args : Array Value} {below : List Frame} {meth : Method} {c : Code} {H : Heap} {locs : List Loc} {cells slots : Nat} {Q : State → Prop}
variable {ls : Array Slot} {rest : List Value} {g : GT} {A : Nat → Prop} {ws : va_W} {nL : Nat} {ret : Option FieldType}
set_option maxHeartbeats 4000000 in
theorem tb_rates_0 {q : Nat} (C : Cx p s m args meth c cX7_init nL ret wsX7_init RX7 g A) (hw : Wd g A s.heap (ws ++ [(q, aI g 14 (fun j => if j < 0 then nI (tN 0 (j + 1)) else 0))]) H locs) (kk : ∀ (H1 : Heap) (locs1 : List Loc), Wd g A s.heap (ws ++ [(q, aI g 14 (fun j => if j < 14 then nI (tN 0 (j + 1)) else 0))]) H1 locs1 → W p l e R s m args below meth c H1 locs1 cells slots Q (F0 m 240 ls (.ref q :: rest))) : W p l e R s m args below meth c H locs cells slots Q (F0 m 155 ls (.ref q :: rest)) := by
  obtain ⟨hx, hb, hml, hown, hts, -⟩ := id C
  refine lv_dup hx hb dX7_init_155 rfl ?_
  refine lv_iconst (v := nI 0) hx hb dX7_init_156 (by decide) ?_
  refine lv_bipush (v := nI 32) hx hb dX7_init_157 (by decide) ?_
  refine r_tst (i := 0) (h := fun j => nI (tN 0 (j + 1))) C hw (by decide) (by decide) (by decide +kernel) dX7_init_159 (fun H locs hw => ?_)
  refine lv_dup hx hb dX7_init_160 rfl ?_
  refine lv_iconst (v := nI 1) hx hb dX7_init_161 (by decide) ?_
  refine lv_bipush (v := nI 48) hx hb dX7_init_162 (by decide) ?_
  refine r_tst (i := 1) (h := fun j => nI (tN 0 (j + 1))) C hw (by decide) (by decide) (by decide +kernel) dX7_init_164 (fun H locs hw => ?_)
  refine lv_dup hx hb dX7_init_165 rfl ?_
  refine lv_iconst (v := nI 2) hx hb dX7_init_166 (by decide) ?_
  refine lv_bipush (v := nI 56) hx hb dX7_init_167 (by decide) ?_
  refine r_tst (i := 2) (h := fun j => nI (tN 0 (j + 1))) C hw (by decide) (by decide) (by decide +kernel) dX7_init_169 (fun H locs hw => ?_)
  refine lv_dup hx hb dX7_init_170 rfl ?_
  refine lv_iconst (v := nI 3) hx hb dX7_init_171 (by decide) ?_
  refine lv_bipush (v := nI 64) hx hb dX7_init_172 (by decide) ?_
  refine r_tst (i := 3) (h := fun j => nI (tN 0 (j + 1))) C hw (by decide) (by decide) (by decide +kernel) dX7_init_174 (fun H locs hw => ?_)
  refine lv_dup hx hb dX7_init_175 rfl ?_
  refine lv_iconst (v := nI 4) hx hb dX7_init_176 (by decide) ?_
  refine lv_bipush (v := nI 80) hx hb dX7_init_177 (by decide) ?_
  refine r_tst (i := 4) (h := fun j => nI (tN 0 (j + 1))) C hw (by decide) (by decide) (by decide +kernel) dX7_init_179 (fun H locs hw => ?_)
  refine lv_dup hx hb dX7_init_180 rfl ?_
  refine lv_iconst (v := nI 5) hx hb dX7_init_181 (by decide) ?_
  refine lv_bipush (v := nI 96) hx hb dX7_init_182 (by decide) ?_
  refine r_tst (i := 5) (h := fun j => nI (tN 0 (j + 1))) C hw (by decide) (by decide) (by decide +kernel) dX7_init_184 (fun H locs hw => ?_)
  refine lv_dup hx hb dX7_init_185 rfl ?_
  refine lv_bipush (v := nI 6) hx hb dX7_init_186 (by decide) ?_
  refine lv_bipush (v := nI 112) hx hb dX7_init_188 (by decide) ?_
  refine r_tst (i := 6) (h := fun j => nI (tN 0 (j + 1))) C hw (by decide) (by decide) (by decide +kernel) dX7_init_190 (fun H locs hw => ?_)
  refine lv_dup hx hb dX7_init_191 rfl ?_
  refine lv_bipush (v := nI 7) hx hb dX7_init_192 (by decide) ?_
  refine lv_sipush (v := nI 128) hx hb dX7_init_194 (by decide) ?_
  refine r_tst (i := 7) (h := fun j => nI (tN 0 (j + 1))) C hw (by decide) (by decide) (by decide +kernel) dX7_init_197 (fun H locs hw => ?_)
  refine lv_dup hx hb dX7_init_198 rfl ?_
  refine lv_bipush (v := nI 8) hx hb dX7_init_199 (by decide) ?_
  refine lv_sipush (v := nI 160) hx hb dX7_init_201 (by decide) ?_
  refine r_tst (i := 8) (h := fun j => nI (tN 0 (j + 1))) C hw (by decide) (by decide) (by decide +kernel) dX7_init_204 (fun H locs hw => ?_)
  refine lv_dup hx hb dX7_init_205 rfl ?_
  refine lv_bipush (v := nI 9) hx hb dX7_init_206 (by decide) ?_
  refine lv_sipush (v := nI 192) hx hb dX7_init_208 (by decide) ?_
  refine r_tst (i := 9) (h := fun j => nI (tN 0 (j + 1))) C hw (by decide) (by decide) (by decide +kernel) dX7_init_211 (fun H locs hw => ?_)
  refine lv_dup hx hb dX7_init_212 rfl ?_
  refine lv_bipush (v := nI 10) hx hb dX7_init_213 (by decide) ?_
  refine lv_sipush (v := nI 224) hx hb dX7_init_215 (by decide) ?_
  refine r_tst (i := 10) (h := fun j => nI (tN 0 (j + 1))) C hw (by decide) (by decide) (by decide +kernel) dX7_init_218 (fun H locs hw => ?_)
  refine lv_dup hx hb dX7_init_219 rfl ?_
  refine lv_bipush (v := nI 11) hx hb dX7_init_220 (by decide) ?_
  refine lv_sipush (v := nI 256) hx hb dX7_init_222 (by decide) ?_
  refine r_tst (i := 11) (h := fun j => nI (tN 0 (j + 1))) C hw (by decide) (by decide) (by decide +kernel) dX7_init_225 (fun H locs hw => ?_)
  refine lv_dup hx hb dX7_init_226 rfl ?_
  refine lv_bipush (v := nI 12) hx hb dX7_init_227 (by decide) ?_
  refine lv_sipush (v := nI 320) hx hb dX7_init_229 (by decide) ?_
  refine r_tst (i := 12) (h := fun j => nI (tN 0 (j + 1))) C hw (by decide) (by decide) (by decide +kernel) dX7_init_232 (fun H locs hw => ?_)
  refine lv_dup hx hb dX7_init_233 rfl ?_
  refine lv_bipush (v := nI 13) hx hb dX7_init_234 (by decide) ?_
  refine lv_sipush (v := nI 384) hx hb dX7_init_236 (by decide) ?_
  refine r_tst (i := 13) (h := fun j => nI (tN 0 (j + 1))) C hw (by decide) (by decide) (by decide +kernel) dX7_init_239 (fun H locs hw => ?_)
  exact kk _ _ hw
theorem tb_rates {q : Nat} (C : Cx p s m args meth c cX7_init nL ret wsX7_init RX7 g A) (hw : Wd g A s.heap (ws ++ [(q, aI g 14 (fun j => if j < 0 then nI (tN 0 (j + 1)) else 0))]) H locs) (kk : ∀ (H1 : Heap) (locs1 : List Loc), Wd g A s.heap (ws ++ [(q, aI g 14 (fun j => if j < 14 then nI (tN 0 (j + 1)) else 0))]) H1 locs1 → W p l e R s m args below meth c H1 locs1 cells slots Q (F0 m 240 ls (.ref q :: rest))) : W p l e R s m args below meth c H locs cells slots Q (F0 m 155 ls (.ref q :: rest)) :=
  tb_rates_0 C hw kk
set_option maxHeartbeats 4000000 in
theorem tb_cosine_0 {q : Nat} (C : Cx p s m args meth c cX7_init nL ret wsX7_init RX7 g A) (hw : Wd g A s.heap (ws ++ [(q, aI g 33 (fun j => if j < 0 then nI (tN 9 j) else 0))]) H locs) (kk : ∀ (H1 : Heap) (locs1 : List Loc), Wd g A s.heap (ws ++ [(q, aI g 33 (fun j => if j < 33 then nI (tN 9 j) else 0))]) H1 locs1 → W p l e R s m args below meth c H1 locs1 cells slots Q (F0 m 471 ls (.ref q :: rest))) : W p l e R s m args below meth c H locs cells slots Q (F0 m 248 ls (.ref q :: rest)) := by
  obtain ⟨hx, hb, hml, hown, hts, -⟩ := id C
  refine lv_dup hx hb dX7_init_248 rfl ?_
  refine lv_iconst (v := nI 0) hx hb dX7_init_249 (by decide) ?_
  refine lv_sipush (v := nI 16384) hx hb dX7_init_250 (by decide) ?_
  refine r_tst (i := 0) (h := fun j => nI (tN 9 j)) C hw (by decide) (by decide) (by decide +kernel) dX7_init_253 (fun H locs hw => ?_)
  refine lv_dup hx hb dX7_init_254 rfl ?_
  refine lv_iconst (v := nI 1) hx hb dX7_init_255 (by decide) ?_
  refine lv_sipush (v := nI 16364) hx hb dX7_init_256 (by decide) ?_
  refine r_tst (i := 1) (h := fun j => nI (tN 9 j)) C hw (by decide) (by decide) (by decide +kernel) dX7_init_259 (fun H locs hw => ?_)
  refine lv_dup hx hb dX7_init_260 rfl ?_
  refine lv_iconst (v := nI 2) hx hb dX7_init_261 (by decide) ?_
  refine lv_sipush (v := nI 16305) hx hb dX7_init_262 (by decide) ?_
  refine r_tst (i := 2) (h := fun j => nI (tN 9 j)) C hw (by decide) (by decide) (by decide +kernel) dX7_init_265 (fun H locs hw => ?_)
  refine lv_dup hx hb dX7_init_266 rfl ?_
  refine lv_iconst (v := nI 3) hx hb dX7_init_267 (by decide) ?_
  refine lv_sipush (v := nI 16207) hx hb dX7_init_268 (by decide) ?_
  refine r_tst (i := 3) (h := fun j => nI (tN 9 j)) C hw (by decide) (by decide) (by decide +kernel) dX7_init_271 (fun H locs hw => ?_)
  refine lv_dup hx hb dX7_init_272 rfl ?_
  refine lv_iconst (v := nI 4) hx hb dX7_init_273 (by decide) ?_
  refine lv_sipush (v := nI 16069) hx hb dX7_init_274 (by decide) ?_
  refine r_tst (i := 4) (h := fun j => nI (tN 9 j)) C hw (by decide) (by decide) (by decide +kernel) dX7_init_277 (fun H locs hw => ?_)
  refine lv_dup hx hb dX7_init_278 rfl ?_
  refine lv_iconst (v := nI 5) hx hb dX7_init_279 (by decide) ?_
  refine lv_sipush (v := nI 15893) hx hb dX7_init_280 (by decide) ?_
  refine r_tst (i := 5) (h := fun j => nI (tN 9 j)) C hw (by decide) (by decide) (by decide +kernel) dX7_init_283 (fun H locs hw => ?_)
  refine lv_dup hx hb dX7_init_284 rfl ?_
  refine lv_bipush (v := nI 6) hx hb dX7_init_285 (by decide) ?_
  refine lv_sipush (v := nI 15679) hx hb dX7_init_287 (by decide) ?_
  refine r_tst (i := 6) (h := fun j => nI (tN 9 j)) C hw (by decide) (by decide) (by decide +kernel) dX7_init_290 (fun H locs hw => ?_)
  refine lv_dup hx hb dX7_init_291 rfl ?_
  refine lv_bipush (v := nI 7) hx hb dX7_init_292 (by decide) ?_
  refine lv_sipush (v := nI 15426) hx hb dX7_init_294 (by decide) ?_
  refine r_tst (i := 7) (h := fun j => nI (tN 9 j)) C hw (by decide) (by decide) (by decide +kernel) dX7_init_297 (fun H locs hw => ?_)
  refine lv_dup hx hb dX7_init_298 rfl ?_
  refine lv_bipush (v := nI 8) hx hb dX7_init_299 (by decide) ?_
  refine lv_sipush (v := nI 15137) hx hb dX7_init_301 (by decide) ?_
  refine r_tst (i := 8) (h := fun j => nI (tN 9 j)) C hw (by decide) (by decide) (by decide +kernel) dX7_init_304 (fun H locs hw => ?_)
  refine lv_dup hx hb dX7_init_305 rfl ?_
  refine lv_bipush (v := nI 9) hx hb dX7_init_306 (by decide) ?_
  refine lv_sipush (v := nI 14811) hx hb dX7_init_308 (by decide) ?_
  refine r_tst (i := 9) (h := fun j => nI (tN 9 j)) C hw (by decide) (by decide) (by decide +kernel) dX7_init_311 (fun H locs hw => ?_)
  refine lv_dup hx hb dX7_init_312 rfl ?_
  refine lv_bipush (v := nI 10) hx hb dX7_init_313 (by decide) ?_
  refine lv_sipush (v := nI 14449) hx hb dX7_init_315 (by decide) ?_
  refine r_tst (i := 10) (h := fun j => nI (tN 9 j)) C hw (by decide) (by decide) (by decide +kernel) dX7_init_318 (fun H locs hw => ?_)
  refine lv_dup hx hb dX7_init_319 rfl ?_
  refine lv_bipush (v := nI 11) hx hb dX7_init_320 (by decide) ?_
  refine lv_sipush (v := nI 14053) hx hb dX7_init_322 (by decide) ?_
  refine r_tst (i := 11) (h := fun j => nI (tN 9 j)) C hw (by decide) (by decide) (by decide +kernel) dX7_init_325 (fun H locs hw => ?_)
  refine lv_dup hx hb dX7_init_326 rfl ?_
  refine lv_bipush (v := nI 12) hx hb dX7_init_327 (by decide) ?_
  refine lv_sipush (v := nI 13623) hx hb dX7_init_329 (by decide) ?_
  refine r_tst (i := 12) (h := fun j => nI (tN 9 j)) C hw (by decide) (by decide) (by decide +kernel) dX7_init_332 (fun H locs hw => ?_)
  refine lv_dup hx hb dX7_init_333 rfl ?_
  refine lv_bipush (v := nI 13) hx hb dX7_init_334 (by decide) ?_
  refine lv_sipush (v := nI 13160) hx hb dX7_init_336 (by decide) ?_
  refine r_tst (i := 13) (h := fun j => nI (tN 9 j)) C hw (by decide) (by decide) (by decide +kernel) dX7_init_339 (fun H locs hw => ?_)
  refine lv_dup hx hb dX7_init_340 rfl ?_
  refine lv_bipush (v := nI 14) hx hb dX7_init_341 (by decide) ?_
  refine lv_sipush (v := nI 12665) hx hb dX7_init_343 (by decide) ?_
  refine r_tst (i := 14) (h := fun j => nI (tN 9 j)) C hw (by decide) (by decide) (by decide +kernel) dX7_init_346 (fun H locs hw => ?_)
  refine lv_dup hx hb dX7_init_347 rfl ?_
  refine lv_bipush (v := nI 15) hx hb dX7_init_348 (by decide) ?_
  refine lv_sipush (v := nI 12140) hx hb dX7_init_350 (by decide) ?_
  refine r_tst (i := 15) (h := fun j => nI (tN 9 j)) C hw (by decide) (by decide) (by decide +kernel) dX7_init_353 (fun H locs hw => ?_)
  refine lv_dup hx hb dX7_init_354 rfl ?_
  refine lv_bipush (v := nI 16) hx hb dX7_init_355 (by decide) ?_
  refine lv_sipush (v := nI 11585) hx hb dX7_init_357 (by decide) ?_
  refine r_tst (i := 16) (h := fun j => nI (tN 9 j)) C hw (by decide) (by decide) (by decide +kernel) dX7_init_360 (fun H locs hw => ?_)
  refine lv_dup hx hb dX7_init_361 rfl ?_
  refine lv_bipush (v := nI 17) hx hb dX7_init_362 (by decide) ?_
  refine lv_sipush (v := nI 11003) hx hb dX7_init_364 (by decide) ?_
  refine r_tst (i := 17) (h := fun j => nI (tN 9 j)) C hw (by decide) (by decide) (by decide +kernel) dX7_init_367 (fun H locs hw => ?_)
  refine lv_dup hx hb dX7_init_368 rfl ?_
  refine lv_bipush (v := nI 18) hx hb dX7_init_369 (by decide) ?_
  refine lv_sipush (v := nI 10394) hx hb dX7_init_371 (by decide) ?_
  refine r_tst (i := 18) (h := fun j => nI (tN 9 j)) C hw (by decide) (by decide) (by decide +kernel) dX7_init_374 (fun H locs hw => ?_)
  refine lv_dup hx hb dX7_init_375 rfl ?_
  refine lv_bipush (v := nI 19) hx hb dX7_init_376 (by decide) ?_
  refine lv_sipush (v := nI 9760) hx hb dX7_init_378 (by decide) ?_
  refine r_tst (i := 19) (h := fun j => nI (tN 9 j)) C hw (by decide) (by decide) (by decide +kernel) dX7_init_381 (fun H locs hw => ?_)
  refine lv_dup hx hb dX7_init_382 rfl ?_
  refine lv_bipush (v := nI 20) hx hb dX7_init_383 (by decide) ?_
  refine lv_sipush (v := nI 9102) hx hb dX7_init_385 (by decide) ?_
  refine r_tst (i := 20) (h := fun j => nI (tN 9 j)) C hw (by decide) (by decide) (by decide +kernel) dX7_init_388 (fun H locs hw => ?_)
  refine lv_dup hx hb dX7_init_389 rfl ?_
  refine lv_bipush (v := nI 21) hx hb dX7_init_390 (by decide) ?_
  refine lv_sipush (v := nI 8423) hx hb dX7_init_392 (by decide) ?_
  refine r_tst (i := 21) (h := fun j => nI (tN 9 j)) C hw (by decide) (by decide) (by decide +kernel) dX7_init_395 (fun H locs hw => ?_)
  refine lv_dup hx hb dX7_init_396 rfl ?_
  refine lv_bipush (v := nI 22) hx hb dX7_init_397 (by decide) ?_
  refine lv_sipush (v := nI 7723) hx hb dX7_init_399 (by decide) ?_
  refine r_tst (i := 22) (h := fun j => nI (tN 9 j)) C hw (by decide) (by decide) (by decide +kernel) dX7_init_402 (fun H locs hw => ?_)
  refine lv_dup hx hb dX7_init_403 rfl ?_
  refine lv_bipush (v := nI 23) hx hb dX7_init_404 (by decide) ?_
  refine lv_sipush (v := nI 7005) hx hb dX7_init_406 (by decide) ?_
  refine r_tst (i := 23) (h := fun j => nI (tN 9 j)) C hw (by decide) (by decide) (by decide +kernel) dX7_init_409 (fun H locs hw => ?_)
  refine lv_dup hx hb dX7_init_410 rfl ?_
  refine lv_bipush (v := nI 24) hx hb dX7_init_411 (by decide) ?_
  refine lv_sipush (v := nI 6270) hx hb dX7_init_413 (by decide) ?_
  refine r_tst (i := 24) (h := fun j => nI (tN 9 j)) C hw (by decide) (by decide) (by decide +kernel) dX7_init_416 (fun H locs hw => ?_)
  refine lv_dup hx hb dX7_init_417 rfl ?_
  refine lv_bipush (v := nI 25) hx hb dX7_init_418 (by decide) ?_
  refine lv_sipush (v := nI 5520) hx hb dX7_init_420 (by decide) ?_
  refine r_tst (i := 25) (h := fun j => nI (tN 9 j)) C hw (by decide) (by decide) (by decide +kernel) dX7_init_423 (fun H locs hw => ?_)
  refine lv_dup hx hb dX7_init_424 rfl ?_
  refine lv_bipush (v := nI 26) hx hb dX7_init_425 (by decide) ?_
  refine lv_sipush (v := nI 4756) hx hb dX7_init_427 (by decide) ?_
  refine r_tst (i := 26) (h := fun j => nI (tN 9 j)) C hw (by decide) (by decide) (by decide +kernel) dX7_init_430 (fun H locs hw => ?_)
  refine lv_dup hx hb dX7_init_431 rfl ?_
  refine lv_bipush (v := nI 27) hx hb dX7_init_432 (by decide) ?_
  refine lv_sipush (v := nI 3981) hx hb dX7_init_434 (by decide) ?_
  refine r_tst (i := 27) (h := fun j => nI (tN 9 j)) C hw (by decide) (by decide) (by decide +kernel) dX7_init_437 (fun H locs hw => ?_)
  refine lv_dup hx hb dX7_init_438 rfl ?_
  refine lv_bipush (v := nI 28) hx hb dX7_init_439 (by decide) ?_
  refine lv_sipush (v := nI 3196) hx hb dX7_init_441 (by decide) ?_
  refine r_tst (i := 28) (h := fun j => nI (tN 9 j)) C hw (by decide) (by decide) (by decide +kernel) dX7_init_444 (fun H locs hw => ?_)
  refine lv_dup hx hb dX7_init_445 rfl ?_
  refine lv_bipush (v := nI 29) hx hb dX7_init_446 (by decide) ?_
  refine lv_sipush (v := nI 2404) hx hb dX7_init_448 (by decide) ?_
  refine r_tst (i := 29) (h := fun j => nI (tN 9 j)) C hw (by decide) (by decide) (by decide +kernel) dX7_init_451 (fun H locs hw => ?_)
  refine lv_dup hx hb dX7_init_452 rfl ?_
  refine lv_bipush (v := nI 30) hx hb dX7_init_453 (by decide) ?_
  refine lv_sipush (v := nI 1606) hx hb dX7_init_455 (by decide) ?_
  refine r_tst (i := 30) (h := fun j => nI (tN 9 j)) C hw (by decide) (by decide) (by decide +kernel) dX7_init_458 (fun H locs hw => ?_)
  refine lv_dup hx hb dX7_init_459 rfl ?_
  refine lv_bipush (v := nI 31) hx hb dX7_init_460 (by decide) ?_
  refine lv_sipush (v := nI 804) hx hb dX7_init_462 (by decide) ?_
  refine r_tst (i := 31) (h := fun j => nI (tN 9 j)) C hw (by decide) (by decide) (by decide +kernel) dX7_init_465 (fun H locs hw => ?_)
  refine lv_dup hx hb dX7_init_466 rfl ?_
  refine lv_bipush (v := nI 32) hx hb dX7_init_467 (by decide) ?_
  refine lv_iconst (v := nI 0) hx hb dX7_init_469 (by decide) ?_
  refine r_tst (i := 32) (h := fun j => nI (tN 9 j)) C hw (by decide) (by decide) (by decide +kernel) dX7_init_470 (fun H locs hw => ?_)
  exact kk _ _ hw
theorem tb_cosine {q : Nat} (C : Cx p s m args meth c cX7_init nL ret wsX7_init RX7 g A) (hw : Wd g A s.heap (ws ++ [(q, aI g 33 (fun j => if j < 0 then nI (tN 9 j) else 0))]) H locs) (kk : ∀ (H1 : Heap) (locs1 : List Loc), Wd g A s.heap (ws ++ [(q, aI g 33 (fun j => if j < 33 then nI (tN 9 j) else 0))]) H1 locs1 → W p l e R s m args below meth c H1 locs1 cells slots Q (F0 m 471 ls (.ref q :: rest))) : W p l e R s m args below meth c H locs cells slots Q (F0 m 248 ls (.ref q :: rest)) :=
  tb_cosine_0 C hw kk
set_option maxHeartbeats 4000000 in
theorem tb_window_0 {q : Nat} (C : Cx p s m args meth c cX7_init nL ret wsX7_init RX7 g A) (hw : Wd g A s.heap (ws ++ [(q, aI g 257 (fun j => if j < 0 then sV 10 j else 0))]) H locs) (kk : ∀ (H1 : Heap) (locs1 : List Loc), Wd g A s.heap (ws ++ [(q, aI g 257 (fun j => if j < 33 then sV 10 j else 0))]) H1 locs1 → W p l e R s m args below meth c H1 locs1 cells slots Q (F0 m 665 ls (.ref q :: rest))) : W p l e R s m args below meth c H locs cells slots Q (F0 m 480 ls (.ref q :: rest)) := by
  obtain ⟨hx, hb, hml, hown, hts, -⟩ := id C
  refine lv_dup hx hb dX7_init_480 rfl ?_
  refine lv_iconst (v := nI 0) hx hb dX7_init_481 (by decide) ?_
  refine lv_iconst (v := nI 0) hx hb dX7_init_482 (by decide) ?_
  refine r_tst (i := 0) (h := fun j => sV 10 j) C hw (by decide) (by decide) (by decide +kernel) dX7_init_483 (fun H locs hw => ?_)
  refine lv_dup hx hb dX7_init_484 rfl ?_
  refine lv_iconst (v := nI 1) hx hb dX7_init_485 (by decide) ?_
  refine lv_iconst (v := (-1)) hx hb dX7_init_486 (by decide) ?_
  refine r_tst (i := 1) (h := fun j => sV 10 j) C hw (by decide) (by decide) (by decide +kernel) dX7_init_487 (fun H locs hw => ?_)
  refine lv_dup hx hb dX7_init_488 rfl ?_
  refine lv_iconst (v := nI 2) hx hb dX7_init_489 (by decide) ?_
  refine lv_iconst (v := (-1)) hx hb dX7_init_490 (by decide) ?_
  refine r_tst (i := 2) (h := fun j => sV 10 j) C hw (by decide) (by decide) (by decide +kernel) dX7_init_491 (fun H locs hw => ?_)
  refine lv_dup hx hb dX7_init_492 rfl ?_
  refine lv_iconst (v := nI 3) hx hb dX7_init_493 (by decide) ?_
  refine lv_iconst (v := (-1)) hx hb dX7_init_494 (by decide) ?_
  refine r_tst (i := 3) (h := fun j => sV 10 j) C hw (by decide) (by decide) (by decide +kernel) dX7_init_495 (fun H locs hw => ?_)
  refine lv_dup hx hb dX7_init_496 rfl ?_
  refine lv_iconst (v := nI 4) hx hb dX7_init_497 (by decide) ?_
  refine lv_iconst (v := (-1)) hx hb dX7_init_498 (by decide) ?_
  refine r_tst (i := 4) (h := fun j => sV 10 j) C hw (by decide) (by decide) (by decide +kernel) dX7_init_499 (fun H locs hw => ?_)
  refine lv_dup hx hb dX7_init_500 rfl ?_
  refine lv_iconst (v := nI 5) hx hb dX7_init_501 (by decide) ?_
  refine lv_iconst (v := (-1)) hx hb dX7_init_502 (by decide) ?_
  refine r_tst (i := 5) (h := fun j => sV 10 j) C hw (by decide) (by decide) (by decide +kernel) dX7_init_503 (fun H locs hw => ?_)
  refine lv_dup hx hb dX7_init_504 rfl ?_
  refine lv_bipush (v := nI 6) hx hb dX7_init_505 (by decide) ?_
  refine lv_iconst (v := (-1)) hx hb dX7_init_507 (by decide) ?_
  refine r_tst (i := 6) (h := fun j => sV 10 j) C hw (by decide) (by decide) (by decide +kernel) dX7_init_508 (fun H locs hw => ?_)
  refine lv_dup hx hb dX7_init_509 rfl ?_
  refine lv_bipush (v := nI 7) hx hb dX7_init_510 (by decide) ?_
  refine lv_bipush (v := (-2)) hx hb dX7_init_512 (by decide) ?_
  refine r_tst (i := 7) (h := fun j => sV 10 j) C hw (by decide) (by decide) (by decide +kernel) dX7_init_514 (fun H locs hw => ?_)
  refine lv_dup hx hb dX7_init_515 rfl ?_
  refine lv_bipush (v := nI 8) hx hb dX7_init_516 (by decide) ?_
  refine lv_bipush (v := (-2)) hx hb dX7_init_518 (by decide) ?_
  refine r_tst (i := 8) (h := fun j => sV 10 j) C hw (by decide) (by decide) (by decide +kernel) dX7_init_520 (fun H locs hw => ?_)
  refine lv_dup hx hb dX7_init_521 rfl ?_
  refine lv_bipush (v := nI 9) hx hb dX7_init_522 (by decide) ?_
  refine lv_bipush (v := (-2)) hx hb dX7_init_524 (by decide) ?_
  refine r_tst (i := 9) (h := fun j => sV 10 j) C hw (by decide) (by decide) (by decide +kernel) dX7_init_526 (fun H locs hw => ?_)
  refine lv_dup hx hb dX7_init_527 rfl ?_
  refine lv_bipush (v := nI 10) hx hb dX7_init_528 (by decide) ?_
  refine lv_bipush (v := (-2)) hx hb dX7_init_530 (by decide) ?_
  refine r_tst (i := 10) (h := fun j => sV 10 j) C hw (by decide) (by decide) (by decide +kernel) dX7_init_532 (fun H locs hw => ?_)
  refine lv_dup hx hb dX7_init_533 rfl ?_
  refine lv_bipush (v := nI 11) hx hb dX7_init_534 (by decide) ?_
  refine lv_bipush (v := (-3)) hx hb dX7_init_536 (by decide) ?_
  refine r_tst (i := 11) (h := fun j => sV 10 j) C hw (by decide) (by decide) (by decide +kernel) dX7_init_538 (fun H locs hw => ?_)
  refine lv_dup hx hb dX7_init_539 rfl ?_
  refine lv_bipush (v := nI 12) hx hb dX7_init_540 (by decide) ?_
  refine lv_bipush (v := (-3)) hx hb dX7_init_542 (by decide) ?_
  refine r_tst (i := 12) (h := fun j => sV 10 j) C hw (by decide) (by decide) (by decide +kernel) dX7_init_544 (fun H locs hw => ?_)
  refine lv_dup hx hb dX7_init_545 rfl ?_
  refine lv_bipush (v := nI 13) hx hb dX7_init_546 (by decide) ?_
  refine lv_bipush (v := (-4)) hx hb dX7_init_548 (by decide) ?_
  refine r_tst (i := 13) (h := fun j => sV 10 j) C hw (by decide) (by decide) (by decide +kernel) dX7_init_550 (fun H locs hw => ?_)
  refine lv_dup hx hb dX7_init_551 rfl ?_
  refine lv_bipush (v := nI 14) hx hb dX7_init_552 (by decide) ?_
  refine lv_bipush (v := (-4)) hx hb dX7_init_554 (by decide) ?_
  refine r_tst (i := 14) (h := fun j => sV 10 j) C hw (by decide) (by decide) (by decide +kernel) dX7_init_556 (fun H locs hw => ?_)
  refine lv_dup hx hb dX7_init_557 rfl ?_
  refine lv_bipush (v := nI 15) hx hb dX7_init_558 (by decide) ?_
  refine lv_bipush (v := (-5)) hx hb dX7_init_560 (by decide) ?_
  refine r_tst (i := 15) (h := fun j => sV 10 j) C hw (by decide) (by decide) (by decide +kernel) dX7_init_562 (fun H locs hw => ?_)
  refine lv_dup hx hb dX7_init_563 rfl ?_
  refine lv_bipush (v := nI 16) hx hb dX7_init_564 (by decide) ?_
  refine lv_bipush (v := (-5)) hx hb dX7_init_566 (by decide) ?_
  refine r_tst (i := 16) (h := fun j => sV 10 j) C hw (by decide) (by decide) (by decide +kernel) dX7_init_568 (fun H locs hw => ?_)
  refine lv_dup hx hb dX7_init_569 rfl ?_
  refine lv_bipush (v := nI 17) hx hb dX7_init_570 (by decide) ?_
  refine lv_bipush (v := (-6)) hx hb dX7_init_572 (by decide) ?_
  refine r_tst (i := 17) (h := fun j => sV 10 j) C hw (by decide) (by decide) (by decide +kernel) dX7_init_574 (fun H locs hw => ?_)
  refine lv_dup hx hb dX7_init_575 rfl ?_
  refine lv_bipush (v := nI 18) hx hb dX7_init_576 (by decide) ?_
  refine lv_bipush (v := (-7)) hx hb dX7_init_578 (by decide) ?_
  refine r_tst (i := 18) (h := fun j => sV 10 j) C hw (by decide) (by decide) (by decide +kernel) dX7_init_580 (fun H locs hw => ?_)
  refine lv_dup hx hb dX7_init_581 rfl ?_
  refine lv_bipush (v := nI 19) hx hb dX7_init_582 (by decide) ?_
  refine lv_bipush (v := (-7)) hx hb dX7_init_584 (by decide) ?_
  refine r_tst (i := 19) (h := fun j => sV 10 j) C hw (by decide) (by decide) (by decide +kernel) dX7_init_586 (fun H locs hw => ?_)
  refine lv_dup hx hb dX7_init_587 rfl ?_
  refine lv_bipush (v := nI 20) hx hb dX7_init_588 (by decide) ?_
  refine lv_bipush (v := (-8)) hx hb dX7_init_590 (by decide) ?_
  refine r_tst (i := 20) (h := fun j => sV 10 j) C hw (by decide) (by decide) (by decide +kernel) dX7_init_592 (fun H locs hw => ?_)
  refine lv_dup hx hb dX7_init_593 rfl ?_
  refine lv_bipush (v := nI 21) hx hb dX7_init_594 (by decide) ?_
  refine lv_bipush (v := (-9)) hx hb dX7_init_596 (by decide) ?_
  refine r_tst (i := 21) (h := fun j => sV 10 j) C hw (by decide) (by decide) (by decide +kernel) dX7_init_598 (fun H locs hw => ?_)
  refine lv_dup hx hb dX7_init_599 rfl ?_
  refine lv_bipush (v := nI 22) hx hb dX7_init_600 (by decide) ?_
  refine lv_bipush (v := (-10)) hx hb dX7_init_602 (by decide) ?_
  refine r_tst (i := 22) (h := fun j => sV 10 j) C hw (by decide) (by decide) (by decide +kernel) dX7_init_604 (fun H locs hw => ?_)
  refine lv_dup hx hb dX7_init_605 rfl ?_
  refine lv_bipush (v := nI 23) hx hb dX7_init_606 (by decide) ?_
  refine lv_bipush (v := (-11)) hx hb dX7_init_608 (by decide) ?_
  refine r_tst (i := 23) (h := fun j => sV 10 j) C hw (by decide) (by decide) (by decide +kernel) dX7_init_610 (fun H locs hw => ?_)
  refine lv_dup hx hb dX7_init_611 rfl ?_
  refine lv_bipush (v := nI 24) hx hb dX7_init_612 (by decide) ?_
  refine lv_bipush (v := (-13)) hx hb dX7_init_614 (by decide) ?_
  refine r_tst (i := 24) (h := fun j => sV 10 j) C hw (by decide) (by decide) (by decide +kernel) dX7_init_616 (fun H locs hw => ?_)
  refine lv_dup hx hb dX7_init_617 rfl ?_
  refine lv_bipush (v := nI 25) hx hb dX7_init_618 (by decide) ?_
  refine lv_bipush (v := (-14)) hx hb dX7_init_620 (by decide) ?_
  refine r_tst (i := 25) (h := fun j => sV 10 j) C hw (by decide) (by decide) (by decide +kernel) dX7_init_622 (fun H locs hw => ?_)
  refine lv_dup hx hb dX7_init_623 rfl ?_
  refine lv_bipush (v := nI 26) hx hb dX7_init_624 (by decide) ?_
  refine lv_bipush (v := (-16)) hx hb dX7_init_626 (by decide) ?_
  refine r_tst (i := 26) (h := fun j => sV 10 j) C hw (by decide) (by decide) (by decide +kernel) dX7_init_628 (fun H locs hw => ?_)
  refine lv_dup hx hb dX7_init_629 rfl ?_
  refine lv_bipush (v := nI 27) hx hb dX7_init_630 (by decide) ?_
  refine lv_bipush (v := (-17)) hx hb dX7_init_632 (by decide) ?_
  refine r_tst (i := 27) (h := fun j => sV 10 j) C hw (by decide) (by decide) (by decide +kernel) dX7_init_634 (fun H locs hw => ?_)
  refine lv_dup hx hb dX7_init_635 rfl ?_
  refine lv_bipush (v := nI 28) hx hb dX7_init_636 (by decide) ?_
  refine lv_bipush (v := (-19)) hx hb dX7_init_638 (by decide) ?_
  refine r_tst (i := 28) (h := fun j => sV 10 j) C hw (by decide) (by decide) (by decide +kernel) dX7_init_640 (fun H locs hw => ?_)
  refine lv_dup hx hb dX7_init_641 rfl ?_
  refine lv_bipush (v := nI 29) hx hb dX7_init_642 (by decide) ?_
  refine lv_bipush (v := (-21)) hx hb dX7_init_644 (by decide) ?_
  refine r_tst (i := 29) (h := fun j => sV 10 j) C hw (by decide) (by decide) (by decide +kernel) dX7_init_646 (fun H locs hw => ?_)
  refine lv_dup hx hb dX7_init_647 rfl ?_
  refine lv_bipush (v := nI 30) hx hb dX7_init_648 (by decide) ?_
  refine lv_bipush (v := (-24)) hx hb dX7_init_650 (by decide) ?_
  refine r_tst (i := 30) (h := fun j => sV 10 j) C hw (by decide) (by decide) (by decide +kernel) dX7_init_652 (fun H locs hw => ?_)
  refine lv_dup hx hb dX7_init_653 rfl ?_
  refine lv_bipush (v := nI 31) hx hb dX7_init_654 (by decide) ?_
  refine lv_bipush (v := (-26)) hx hb dX7_init_656 (by decide) ?_
  refine r_tst (i := 31) (h := fun j => sV 10 j) C hw (by decide) (by decide) (by decide +kernel) dX7_init_658 (fun H locs hw => ?_)
  refine lv_dup hx hb dX7_init_659 rfl ?_
  refine lv_bipush (v := nI 32) hx hb dX7_init_660 (by decide) ?_
  refine lv_bipush (v := (-29)) hx hb dX7_init_662 (by decide) ?_
  refine r_tst (i := 32) (h := fun j => sV 10 j) C hw (by decide) (by decide) (by decide +kernel) dX7_init_664 (fun H locs hw => ?_)
  exact kk _ _ hw
end TB
