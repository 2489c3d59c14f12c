set_option maxHeartbeats 4000000 in
set_option maxRecDepth 100000 in
theorem lw_case_take {p : Program} {l : Launch} {e : Env} {s : State} {m : MethodId} {below : List Frame} {meth : Method} {c : Code} {Q : State → Prop} {D : va_G} {ad ad2 : Nat → Nat} {cA cR cB : ClassId} {b L : Nat} {xs : Nat → Int32} (hC : CallFix p m c code 4 s #[Value.ref b] lw_T R_law) (hK1 : va_K D classes (wm_ty cA cR) s) (hK2 : va_K D classes (md_ty cB) s) (hX : va_X b L xs s s.heap) (hbl : b < s.heap.size) (hL : L ≤ 2560) {i : Nat} (hi : i + 5 ≤ L) (N : Nat → Nat) (ln : Nat → Nat) (wd : Nat → Nat → Int32) (ln2 : Nat → Nat) (wd2 : Nat → Nat → Nat) (hR : wm_R N ln wd) (hR2 : md_R N wd2)
    (hnext : ∀ (N : Nat → Nat) (ln : Nat → Nat) (wd : Nat → Nat → Int32) (ln2 : Nat → Nat) (wd2 : Nat → Nat → Nat) (H : Heap) (locs : List Loc) (ls : Array Slot), wm_R N ln wd → md_R N wd2 → lw_M D ad cA cR ad2 cB s ln wd ln2 wd2 H locs → lv_has ls 4 [(0, .ref (b)), (1, .ref (ad 38)), (2, .ref (ad2 5)), (3, .int (nI (i)))] → W p l e room_1 s m #[Value.ref b] below meth c H locs 600000 7302250 Q (F0 m 770 ls [])) :
    ∀ (H : Heap) (locs : List Loc) (ls : Array Slot), lw_M D ad cA cR ad2 cB s ln wd ln2 wd2 H locs → lv_has ls 4 [(0, .ref (b)), (1, .ref (ad 38)), (2, .ref (ad2 5)), (3, .int (nI (i)))] → W p l e room_1 s m #[Value.ref b] below meth c H locs 600000 7302250 Q (F0 m 324 ls []) := by
  intro H locs ls hM hl
  refine lv_aload_n hC.1 hC.2.1 d_law_324 rfl (lv_at hl 1 rfl) ?_
  refine lv_aload_n hC.1 hC.2.1 d_law_325 rfl (lv_at hl 0 rfl) ?_
  refine lv_iload_n hC.1 hC.2.1 d_law_326 rfl (lv_at hl 3 rfl) ?_
  refine lv_iconst (v := nI 1) hC.1 hC.2.1 d_law_327 (by decide) ?_
  refine nv_iadd hC d_law_328 ?_
  refine lw_ld hC hX hbl hM.2.2 (k := i + 1) (by omega) hL d_law_329 ?_
  refine lv_aload_n hC.1 hC.2.1 d_law_330 rfl (lv_at hl 0 rfl) ?_
  refine lv_iload_n hC.1 hC.2.1 d_law_331 rfl (lv_at hl 3 rfl) ?_
  refine lv_iconst (v := nI 2) hC.1 hC.2.1 d_law_332 (by decide) ?_
  refine nv_iadd hC d_law_333 ?_
  refine lw_ld hC hX hbl hM.2.2 (k := i + 2) (by omega) hL d_law_334 ?_
  refine lv_aload_n hC.1 hC.2.1 d_law_335 rfl (lv_at hl 0 rfl) ?_
  refine lv_iload_n hC.1 hC.2.1 d_law_336 rfl (lv_at hl 3 rfl) ?_
  refine lv_iconst (v := nI 3) hC.1 hC.2.1 d_law_337 (by decide) ?_
  refine nv_iadd hC d_law_338 ?_
  refine lw_ld hC hX hbl hM.2.2 (k := i + 3) (by omega) hL d_law_339 ?_
  refine lw_callw hC hK1 hK2 hM (As := [.int (xs (i + 1)), .int (xs (i + 2)), .int (xs (i + 3))]) (rest := []) rfl (c_Mill_take l D ad cA cR _ ln wd N hR (xs (i + 1)) (xs (i + 2)) (xs (i + 3))) kc_Mill_take km_law_35 ki_Mill kn_Mill_take ke_Mill_take kd_Mill_take ⟨rfl, rfl⟩ ⟨Nat.le_of_ble_eq_true rfl, Nat.le_of_ble_eq_true rfl⟩ rfl hl.1 (Nat.le_of_ble_eq_true rfl) d_law_340 (fun r1 u1 H locs hp1 hM => ?_)
  refine lv_aload_n hC.1 hC.2.1 d_law_343 rfl (lv_at hl 2 rfl) ?_
  refine lv_aload_n hC.1 hC.2.1 d_law_344 rfl (lv_at hl 0 rfl) ?_
  refine lv_iload_n hC.1 hC.2.1 d_law_345 rfl (lv_at hl 3 rfl) ?_
  refine lv_iconst (v := nI 1) hC.1 hC.2.1 d_law_346 (by decide) ?_
  refine nv_iadd hC d_law_347 ?_
  refine lw_ld hC hX hbl hM.2.2 (k := i + 1) (by omega) hL d_law_348 ?_
  refine lv_aload_n hC.1 hC.2.1 d_law_349 rfl (lv_at hl 0 rfl) ?_
  refine lv_iload_n hC.1 hC.2.1 d_law_350 rfl (lv_at hl 3 rfl) ?_
  refine lv_iconst (v := nI 2) hC.1 hC.2.1 d_law_351 (by decide) ?_
  refine nv_iadd hC d_law_352 ?_
  refine lw_ld hC hX hbl hM.2.2 (k := i + 2) (by omega) hL d_law_353 ?_
  refine lv_aload_n hC.1 hC.2.1 d_law_354 rfl (lv_at hl 0 rfl) ?_
  refine lv_iload_n hC.1 hC.2.1 d_law_355 rfl (lv_at hl 3 rfl) ?_
  refine lv_iconst (v := nI 3) hC.1 hC.2.1 d_law_356 (by decide) ?_
  refine nv_iadd hC d_law_357 ?_
  refine lw_ld hC hX hbl hM.2.2 (k := i + 3) (by omega) hL d_law_358 ?_
  refine lw_callm hC hK1 hK2 hM (As := [.int (xs (i + 1)), .int (xs (i + 2)), .int (xs (i + 3))]) (rest := [.int (r1)]) rfl (c_Mod_take l D ad2 cB _ ln2 wd2 N hR2 (xs (i + 1)) (xs (i + 2)) (xs (i + 3))) kc_Mod_take km_law_38 ki_Mod kn_Mod_take ke_Mod_take kd_Mod_take ⟨rfl, rfl⟩ ⟨Nat.le_of_ble_eq_true rfl, Nat.le_of_ble_eq_true rfl⟩ rfl hl.1 (Nat.le_of_ble_eq_true rfl) d_law_359 (fun r2 u2 H locs hp2 hM => ?_)
  refine lv_icmp_eq (tgt := 770) hC.1 hC.2.1 d_law_362 (by decide) (fun hc => ?_) (fun hc => ?_)
  · exact hnext _ u1.1 u1.2 u2.1 u2.2 H locs ls hp1.2 hp2.2 hM hl
  · exact absurd (by rw [hp1.1, hp2.1]) hc
set_option maxHeartbeats 4000000 in
set_option maxRecDepth 100000 in
theorem lw_case_times {p : Program} {l : Launch} {e : Env} {s : State} {m : MethodId} {below : List Frame} {meth : Method} {c : Code} {Q : State → Prop} {D : va_G} {ad ad2 : Nat → Nat} {cA cR cB : ClassId} {b L : Nat} {xs : Nat → Int32} (hC : CallFix p m c code 4 s #[Value.ref b] lw_T R_law) (hK1 : va_K D classes (wm_ty cA cR) s) (hK2 : va_K D classes (md_ty cB) s) (hX : va_X b L xs s s.heap) (hbl : b < s.heap.size) (hL : L ≤ 2560) {i : Nat} (hi : i + 5 ≤ L) (N : Nat → Nat) (ln : Nat → Nat) (wd : Nat → Nat → Int32) (ln2 : Nat → Nat) (wd2 : Nat → Nat → Nat) (hR : wm_R N ln wd) (hR2 : md_R N wd2)
    (hnext : ∀ (N : Nat → Nat) (ln : Nat → Nat) (wd : Nat → Nat → Int32) (ln2 : Nat → Nat) (wd2 : Nat → Nat → Nat) (H : Heap) (locs : List Loc) (ls : Array Slot), wm_R N ln wd → md_R N wd2 → lw_M D ad cA cR ad2 cB s ln wd ln2 wd2 H locs → lv_has ls 4 [(0, .ref (b)), (1, .ref (ad 38)), (2, .ref (ad2 5)), (3, .int (nI (i)))] → W p l e room_1 s m #[Value.ref b] below meth c H locs 600000 7302250 Q (F0 m 770 ls [])) :
    ∀ (H : Heap) (locs : List Loc) (ls : Array Slot), lw_M D ad cA cR ad2 cB s ln wd ln2 wd2 H locs → lv_has ls 4 [(0, .ref (b)), (1, .ref (ad 38)), (2, .ref (ad2 5)), (3, .int (nI (i)))] → W p l e room_1 s m #[Value.ref b] below meth c H locs 600000 7302250 Q (F0 m 367 ls []) := by
  intro H locs ls hM hl
  refine lv_aload_n hC.1 hC.2.1 d_law_367 rfl (lv_at hl 1 rfl) ?_
  refine lv_aload_n hC.1 hC.2.1 d_law_368 rfl (lv_at hl 0 rfl) ?_
  refine lv_iload_n hC.1 hC.2.1 d_law_369 rfl (lv_at hl 3 rfl) ?_
  refine lv_iconst (v := nI 1) hC.1 hC.2.1 d_law_370 (by decide) ?_
  refine nv_iadd hC d_law_371 ?_
  refine lw_ld hC hX hbl hM.2.2 (k := i + 1) (by omega) hL d_law_372 ?_
  refine lv_aload_n hC.1 hC.2.1 d_law_373 rfl (lv_at hl 0 rfl) ?_
  refine lv_iload_n hC.1 hC.2.1 d_law_374 rfl (lv_at hl 3 rfl) ?_
  refine lv_iconst (v := nI 2) hC.1 hC.2.1 d_law_375 (by decide) ?_
  refine nv_iadd hC d_law_376 ?_
  refine lw_ld hC hX hbl hM.2.2 (k := i + 2) (by omega) hL d_law_377 ?_
  refine lv_aload_n hC.1 hC.2.1 d_law_378 rfl (lv_at hl 0 rfl) ?_
  refine lv_iload_n hC.1 hC.2.1 d_law_379 rfl (lv_at hl 3 rfl) ?_
  refine lv_iconst (v := nI 3) hC.1 hC.2.1 d_law_380 (by decide) ?_
  refine nv_iadd hC d_law_381 ?_
  refine lw_ld hC hX hbl hM.2.2 (k := i + 3) (by omega) hL d_law_382 ?_
  refine lw_callw hC hK1 hK2 hM (As := [.int (xs (i + 1)), .int (xs (i + 2)), .int (xs (i + 3))]) (rest := []) rfl (c_Mill_times l D ad cA cR _ ln wd N hR (xs (i + 1)) (xs (i + 2)) (xs (i + 3))) kc_Mill_times km_law_39 ki_Mill kn_Mill_times ke_Mill_times kd_Mill_times ⟨rfl, rfl⟩ ⟨Nat.le_of_ble_eq_true rfl, Nat.le_of_ble_eq_true rfl⟩ rfl hl.1 (Nat.le_of_ble_eq_true rfl) d_law_383 (fun r1 u1 H locs hp1 hM => ?_)
  refine lv_aload_n hC.1 hC.2.1 d_law_386 rfl (lv_at hl 2 rfl) ?_
  refine lv_aload_n hC.1 hC.2.1 d_law_387 rfl (lv_at hl 0 rfl) ?_
  refine lv_iload_n hC.1 hC.2.1 d_law_388 rfl (lv_at hl 3 rfl) ?_
  refine lv_iconst (v := nI 1) hC.1 hC.2.1 d_law_389 (by decide) ?_
  refine nv_iadd hC d_law_390 ?_
  refine lw_ld hC hX hbl hM.2.2 (k := i + 1) (by omega) hL d_law_391 ?_
  refine lv_aload_n hC.1 hC.2.1 d_law_392 rfl (lv_at hl 0 rfl) ?_
  refine lv_iload_n hC.1 hC.2.1 d_law_393 rfl (lv_at hl 3 rfl) ?_
  refine lv_iconst (v := nI 2) hC.1 hC.2.1 d_law_394 (by decide) ?_
  refine nv_iadd hC d_law_395 ?_
  refine lw_ld hC hX hbl hM.2.2 (k := i + 2) (by omega) hL d_law_396 ?_
  refine lv_aload_n hC.1 hC.2.1 d_law_397 rfl (lv_at hl 0 rfl) ?_
  refine lv_iload_n hC.1 hC.2.1 d_law_398 rfl (lv_at hl 3 rfl) ?_
  refine lv_iconst (v := nI 3) hC.1 hC.2.1 d_law_399 (by decide) ?_
  refine nv_iadd hC d_law_400 ?_
  refine lw_ld hC hX hbl hM.2.2 (k := i + 3) (by omega) hL d_law_401 ?_
  refine lw_callm hC hK1 hK2 hM (As := [.int (xs (i + 1)), .int (xs (i + 2)), .int (xs (i + 3))]) (rest := [.int (r1)]) rfl (c_Mod_times l D ad2 cB _ ln2 wd2 N hR2 (xs (i + 1)) (xs (i + 2)) (xs (i + 3))) kc_Mod_times km_law_42 ki_Mod kn_Mod_times ke_Mod_times kd_Mod_times ⟨rfl, rfl⟩ ⟨Nat.le_of_ble_eq_true rfl, Nat.le_of_ble_eq_true rfl⟩ rfl hl.1 (Nat.le_of_ble_eq_true rfl) d_law_402 (fun r2 u2 H locs hp2 hM => ?_)
  refine lv_icmp_eq (tgt := 770) hC.1 hC.2.1 d_law_405 (by decide) (fun hc => ?_) (fun hc => ?_)
  · exact hnext _ u1.1 u1.2 u2.1 u2.2 H locs ls hp1.2 hp2.2 hM hl
  · exact absurd (by rw [hp1.1, hp2.1]) hc
set_option maxHeartbeats 4000000 in
set_option maxRecDepth 100000 in
theorem lw_case_divide {p : Program} {l : Launch} {e : Env} {s : State} {m : MethodId} {below : List Frame} {meth : Method} {c : Code} {Q : State → Prop} {D : va_G} {ad ad2 : Nat → Nat} {cA cR cB : ClassId} {b L : Nat} {xs : Nat → Int32} (hC : CallFix p m c code 4 s #[Value.ref b] lw_T R_law) (hK1 : va_K D classes (wm_ty cA cR) s) (hK2 : va_K D classes (md_ty cB) s) (hX : va_X b L xs s s.heap) (hbl : b < s.heap.size) (hL : L ≤ 2560) {i : Nat} (hi : i + 5 ≤ L) (N : Nat → Nat) (ln : Nat → Nat) (wd : Nat → Nat → Int32) (ln2 : Nat → Nat) (wd2 : Nat → Nat → Nat) (hR : wm_R N ln wd) (hR2 : md_R N wd2)
    (hnext : ∀ (N : Nat → Nat) (ln : Nat → Nat) (wd : Nat → Nat → Int32) (ln2 : Nat → Nat) (wd2 : Nat → Nat → Nat) (H : Heap) (locs : List Loc) (ls : Array Slot), wm_R N ln wd → md_R N wd2 → lw_M D ad cA cR ad2 cB s ln wd ln2 wd2 H locs → lv_has ls 4 [(0, .ref (b)), (1, .ref (ad 38)), (2, .ref (ad2 5)), (3, .int (nI (i)))] → W p l e room_1 s m #[Value.ref b] below meth c H locs 600000 7302250 Q (F0 m 770 ls [])) :
    ∀ (H : Heap) (locs : List Loc) (ls : Array Slot), lw_M D ad cA cR ad2 cB s ln wd ln2 wd2 H locs → lv_has ls 4 [(0, .ref (b)), (1, .ref (ad 38)), (2, .ref (ad2 5)), (3, .int (nI (i)))] → W p l e room_1 s m #[Value.ref b] below meth c H locs 600000 7302250 Q (F0 m 410 ls []) := by
  intro H locs ls hM hl
  refine lv_aload_n hC.1 hC.2.1 d_law_410 rfl (lv_at hl 1 rfl) ?_
  refine lv_aload_n hC.1 hC.2.1 d_law_411 rfl (lv_at hl 0 rfl) ?_
  refine lv_iload_n hC.1 hC.2.1 d_law_412 rfl (lv_at hl 3 rfl) ?_
  refine lv_iconst (v := nI 1) hC.1 hC.2.1 d_law_413 (by decide) ?_
  refine nv_iadd hC d_law_414 ?_
  refine lw_ld hC hX hbl hM.2.2 (k := i + 1) (by omega) hL d_law_415 ?_
  refine lv_aload_n hC.1 hC.2.1 d_law_416 rfl (lv_at hl 0 rfl) ?_
  refine lv_iload_n hC.1 hC.2.1 d_law_417 rfl (lv_at hl 3 rfl) ?_
  refine lv_iconst (v := nI 2) hC.1 hC.2.1 d_law_418 (by decide) ?_
  refine nv_iadd hC d_law_419 ?_
  refine lw_ld hC hX hbl hM.2.2 (k := i + 2) (by omega) hL d_law_420 ?_
  refine lv_aload_n hC.1 hC.2.1 d_law_421 rfl (lv_at hl 0 rfl) ?_
  refine lv_iload_n hC.1 hC.2.1 d_law_422 rfl (lv_at hl 3 rfl) ?_
  refine lv_iconst (v := nI 3) hC.1 hC.2.1 d_law_423 (by decide) ?_
  refine nv_iadd hC d_law_424 ?_
  refine lw_ld hC hX hbl hM.2.2 (k := i + 3) (by omega) hL d_law_425 ?_
  refine lv_aload_n hC.1 hC.2.1 d_law_426 rfl (lv_at hl 0 rfl) ?_
  refine lv_iload_n hC.1 hC.2.1 d_law_427 rfl (lv_at hl 3 rfl) ?_
  refine lv_iconst (v := nI 4) hC.1 hC.2.1 d_law_428 (by decide) ?_
  refine nv_iadd hC d_law_429 ?_
  refine lw_ld hC hX hbl hM.2.2 (k := i + 4) (by omega) hL d_law_430 ?_
  refine lw_callw hC hK1 hK2 hM (As := [.int (xs (i + 1)), .int (xs (i + 2)), .int (xs (i + 3)), .int (xs (i + 4))]) (rest := []) rfl (c_Mill_divide l D ad cA cR _ ln wd N hR (xs (i + 1)) (xs (i + 2)) (xs (i + 3)) (xs (i + 4))) kc_Mill_divide km_law_43 ki_Mill kn_Mill_divide ke_Mill_divide kd_Mill_divide ⟨rfl, rfl⟩ ⟨Nat.le_of_ble_eq_true rfl, Nat.le_of_ble_eq_true rfl⟩ rfl hl.1 (Nat.le_of_ble_eq_true rfl) d_law_431 (fun r1 u1 H locs hp1 hM => ?_)
  refine lv_aload_n hC.1 hC.2.1 d_law_434 rfl (lv_at hl 2 rfl) ?_
  refine lv_aload_n hC.1 hC.2.1 d_law_435 rfl (lv_at hl 0 rfl) ?_
  refine lv_iload_n hC.1 hC.2.1 d_law_436 rfl (lv_at hl 3 rfl) ?_
  refine lv_iconst (v := nI 1) hC.1 hC.2.1 d_law_437 (by decide) ?_
  refine nv_iadd hC d_law_438 ?_
  refine lw_ld hC hX hbl hM.2.2 (k := i + 1) (by omega) hL d_law_439 ?_
  refine lv_aload_n hC.1 hC.2.1 d_law_440 rfl (lv_at hl 0 rfl) ?_
  refine lv_iload_n hC.1 hC.2.1 d_law_441 rfl (lv_at hl 3 rfl) ?_
  refine lv_iconst (v := nI 2) hC.1 hC.2.1 d_law_442 (by decide) ?_
  refine nv_iadd hC d_law_443 ?_
  refine lw_ld hC hX hbl hM.2.2 (k := i + 2) (by omega) hL d_law_444 ?_
  refine lv_aload_n hC.1 hC.2.1 d_law_445 rfl (lv_at hl 0 rfl) ?_
  refine lv_iload_n hC.1 hC.2.1 d_law_446 rfl (lv_at hl 3 rfl) ?_
  refine lv_iconst (v := nI 3) hC.1 hC.2.1 d_law_447 (by decide) ?_
  refine nv_iadd hC d_law_448 ?_
  refine lw_ld hC hX hbl hM.2.2 (k := i + 3) (by omega) hL d_law_449 ?_
  refine lv_aload_n hC.1 hC.2.1 d_law_450 rfl (lv_at hl 0 rfl) ?_
  refine lv_iload_n hC.1 hC.2.1 d_law_451 rfl (lv_at hl 3 rfl) ?_
  refine lv_iconst (v := nI 4) hC.1 hC.2.1 d_law_452 (by decide) ?_
  refine nv_iadd hC d_law_453 ?_
  refine lw_ld hC hX hbl hM.2.2 (k := i + 4) (by omega) hL d_law_454 ?_
  refine lw_callm hC hK1 hK2 hM (As := [.int (xs (i + 1)), .int (xs (i + 2)), .int (xs (i + 3)), .int (xs (i + 4))]) (rest := [.int (r1)]) rfl (c_Mod_divide l D ad2 cB _ ln2 wd2 N hR2 (xs (i + 1)) (xs (i + 2)) (xs (i + 3)) (xs (i + 4))) kc_Mod_divide km_law_47 ki_Mod kn_Mod_divide ke_Mod_divide kd_Mod_divide ⟨rfl, rfl⟩ ⟨Nat.le_of_ble_eq_true rfl, Nat.le_of_ble_eq_true rfl⟩ rfl hl.1 (Nat.le_of_ble_eq_true rfl) d_law_455 (fun r2 u2 H locs hp2 hM => ?_)
  refine lv_icmp_eq (tgt := 770) hC.1 hC.2.1 d_law_458 (by decide) (fun hc => ?_) (fun hc => ?_)
  · exact hnext _ u1.1 u1.2 u2.1 u2.2 H locs ls hp1.2 hp2.2 hM hl
  · exact absurd (by rw [hp1.1, hp2.1]) hc
set_option maxHeartbeats 4000000 in
set_option maxRecDepth 100000 in
theorem lw_case_root {p : Program} {l : Launch} {e : Env} {s : State} {m : MethodId} {below : List Frame} {meth : Method} {c : Code} {Q : State → Prop} {D : va_G} {ad ad2 : Nat → Nat} {cA cR cB : ClassId} {b L : Nat} {xs : Nat → Int32} (hC : CallFix p m c code 4 s #[Value.ref b] lw_T R_law) (hK1 : va_K D classes (wm_ty cA cR) s) (hK2 : va_K D classes (md_ty cB) s) (hX : va_X b L xs s s.heap) (hbl : b < s.heap.size) (hL : L ≤ 2560) {i : Nat} (hi : i + 5 ≤ L) (N : Nat → Nat) (ln : Nat → Nat) (wd : Nat → Nat → Int32) (ln2 : Nat → Nat) (wd2 : Nat → Nat → Nat) (hR : wm_R N ln wd) (hR2 : md_R N wd2)
    (hnext : ∀ (N : Nat → Nat) (ln : Nat → Nat) (wd : Nat → Nat → Int32) (ln2 : Nat → Nat) (wd2 : Nat → Nat → Nat) (H : Heap) (locs : List Loc) (ls : Array Slot), wm_R N ln wd → md_R N wd2 → lw_M D ad cA cR ad2 cB s ln wd ln2 wd2 H locs → lv_has ls 4 [(0, .ref (b)), (1, .ref (ad 38)), (2, .ref (ad2 5)), (3, .int (nI (i)))] → W p l e room_1 s m #[Value.ref b] below meth c H locs 600000 7302250 Q (F0 m 770 ls [])) :
    ∀ (H : Heap) (locs : List Loc) (ls : Array Slot), lw_M D ad cA cR ad2 cB s ln wd ln2 wd2 H locs → lv_has ls 4 [(0, .ref (b)), (1, .ref (ad 38)), (2, .ref (ad2 5)), (3, .int (nI (i)))] → W p l e room_1 s m #[Value.ref b] below meth c H locs 600000 7302250 Q (F0 m 463 ls []) := by
  intro H locs ls hM hl
  refine lv_aload_n hC.1 hC.2.1 d_law_463 rfl (lv_at hl 1 rfl) ?_
  refine lv_aload_n hC.1 hC.2.1 d_law_464 rfl (lv_at hl 0 rfl) ?_
  refine lv_iload_n hC.1 hC.2.1 d_law_465 rfl (lv_at hl 3 rfl) ?_
  refine lv_iconst (v := nI 1) hC.1 hC.2.1 d_law_466 (by decide) ?_
  refine nv_iadd hC d_law_467 ?_
  refine lw_ld hC hX hbl hM.2.2 (k := i + 1) (by omega) hL d_law_468 ?_
  refine lv_aload_n hC.1 hC.2.1 d_law_469 rfl (lv_at hl 0 rfl) ?_
  refine lv_iload_n hC.1 hC.2.1 d_law_470 rfl (lv_at hl 3 rfl) ?_
  refine lv_iconst (v := nI 2) hC.1 hC.2.1 d_law_471 (by decide) ?_
  refine nv_iadd hC d_law_472 ?_
  refine lw_ld hC hX hbl hM.2.2 (k := i + 2) (by omega) hL d_law_473 ?_
  refine lv_aload_n hC.1 hC.2.1 d_law_474 rfl (lv_at hl 0 rfl) ?_
  refine lv_iload_n hC.1 hC.2.1 d_law_475 rfl (lv_at hl 3 rfl) ?_
  refine lv_iconst (v := nI 3) hC.1 hC.2.1 d_law_476 (by decide) ?_
  refine nv_iadd hC d_law_477 ?_
  refine lw_ld hC hX hbl hM.2.2 (k := i + 3) (by omega) hL d_law_478 ?_
  refine lw_callw hC hK1 hK2 hM (As := [.int (xs (i + 1)), .int (xs (i + 2)), .int (xs (i + 3))]) (rest := []) rfl (c_Mill_root l D ad cA cR _ ln wd N hR (xs (i + 1)) (xs (i + 2)) (xs (i + 3))) kc_Mill_root km_law_48 ki_Mill kn_Mill_root ke_Mill_root kd_Mill_root ⟨rfl, rfl⟩ ⟨Nat.le_of_ble_eq_true rfl, Nat.le_of_ble_eq_true rfl⟩ rfl hl.1 (Nat.le_of_ble_eq_true rfl) d_law_479 (fun r1 u1 H locs hp1 hM => ?_)
  refine lv_aload_n hC.1 hC.2.1 d_law_482 rfl (lv_at hl 2 rfl) ?_
  refine lv_aload_n hC.1 hC.2.1 d_law_483 rfl (lv_at hl 0 rfl) ?_
  refine lv_iload_n hC.1 hC.2.1 d_law_484 rfl (lv_at hl 3 rfl) ?_
  refine lv_iconst (v := nI 1) hC.1 hC.2.1 d_law_485 (by decide) ?_
  refine nv_iadd hC d_law_486 ?_
  refine lw_ld hC hX hbl hM.2.2 (k := i + 1) (by omega) hL d_law_487 ?_
  refine lv_aload_n hC.1 hC.2.1 d_law_488 rfl (lv_at hl 0 rfl) ?_
  refine lv_iload_n hC.1 hC.2.1 d_law_489 rfl (lv_at hl 3 rfl) ?_
  refine lv_iconst (v := nI 2) hC.1 hC.2.1 d_law_490 (by decide) ?_
  refine nv_iadd hC d_law_491 ?_
  refine lw_ld hC hX hbl hM.2.2 (k := i + 2) (by omega) hL d_law_492 ?_
  refine lv_aload_n hC.1 hC.2.1 d_law_493 rfl (lv_at hl 0 rfl) ?_
  refine lv_iload_n hC.1 hC.2.1 d_law_494 rfl (lv_at hl 3 rfl) ?_
  refine lv_iconst (v := nI 3) hC.1 hC.2.1 d_law_495 (by decide) ?_
  refine nv_iadd hC d_law_496 ?_
  refine lw_ld hC hX hbl hM.2.2 (k := i + 3) (by omega) hL d_law_497 ?_
  refine lw_callm hC hK1 hK2 hM (As := [.int (xs (i + 1)), .int (xs (i + 2)), .int (xs (i + 3))]) (rest := [.int (r1)]) rfl (c_Mod_root l D ad2 cB _ ln2 wd2 N hR2 (xs (i + 1)) (xs (i + 2)) (xs (i + 3))) kc_Mod_root km_law_51 ki_Mod kn_Mod_root ke_Mod_root kd_Mod_root ⟨rfl, rfl⟩ ⟨Nat.le_of_ble_eq_true rfl, Nat.le_of_ble_eq_true rfl⟩ rfl hl.1 (Nat.le_of_ble_eq_true rfl) d_law_498 (fun r2 u2 H locs hp2 hM => ?_)
  refine lv_icmp_eq (tgt := 770) hC.1 hC.2.1 d_law_501 (by decide) (fun hc => ?_) (fun hc => ?_)
  · exact hnext _ u1.1 u1.2 u2.1 u2.2 H locs ls hp1.2 hp2.2 hM hl
  · exact absurd (by rw [hp1.1, hp2.1]) hc
