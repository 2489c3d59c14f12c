set_option maxHeartbeats 4000000 in
set_option maxRecDepth 100000 in
theorem lw_case_shift {p : Program} {l : Launch} {e : Env} {s : State} {m : MethodId} {below : List Frame} {meth : Method} {c : Code} {Q : State → Prop} {D : va_G} {ad ad2 : Nat → Nat} {cA cR cB : ClassId} {b L : Nat} {xs : Nat → Int32} (hC : CallFix p m c code 4 s #[Value.ref b] lw_T R_law) (hK1 : va_K D classes (wm_ty cA cR) s) (hK2 : va_K D classes (md_ty cB) s) (hX : va_X b L xs s s.heap) (hbl : b < s.heap.size) (hL : L ≤ 2560) {i : Nat} (hi : i + 5 ≤ L) (N : Nat → Nat) (ln : Nat → Nat) (wd : Nat → Nat → Int32) (ln2 : Nat → Nat) (wd2 : Nat → Nat → Nat) (hR : wm_R N ln wd) (hR2 : md_R N wd2)
    (hnext : ∀ (N : Nat → Nat) (ln : Nat → Nat) (wd : Nat → Nat → Int32) (ln2 : Nat → Nat) (wd2 : Nat → Nat → Nat) (H : Heap) (locs : List Loc) (ls : Array Slot), wm_R N ln wd → md_R N wd2 → lw_M D ad cA cR ad2 cB s ln wd ln2 wd2 H locs → lv_has ls 4 [(0, .ref (b)), (1, .ref (ad 38)), (2, .ref (ad2 5)), (3, .int (nI (i)))] → W p l e room_1 s m #[Value.ref b] below meth c H locs 600000 7302250 Q (F0 m 770 ls [])) :
    ∀ (H : Heap) (locs : List Loc) (ls : Array Slot), lw_M D ad cA cR ad2 cB s ln wd ln2 wd2 H locs → lv_has ls 4 [(0, .ref (b)), (1, .ref (ad 38)), (2, .ref (ad2 5)), (3, .int (nI (i)))] → W p l e room_1 s m #[Value.ref b] below meth c H locs 600000 7302250 Q (F0 m 506 ls []) := by
  intro H locs ls hM hl
  refine lv_aload_n hC.1 hC.2.1 d_law_506 rfl (lv_at hl 1 rfl) ?_
  refine lv_aload_n hC.1 hC.2.1 d_law_507 rfl (lv_at hl 0 rfl) ?_
  refine lv_iload_n hC.1 hC.2.1 d_law_508 rfl (lv_at hl 3 rfl) ?_
  refine lv_iconst (v := nI 1) hC.1 hC.2.1 d_law_509 (by decide) ?_
  refine nv_iadd hC d_law_510 ?_
  refine lw_ld hC hX hbl hM.2.2 (k := i + 1) (by omega) hL d_law_511 ?_
  refine lv_aload_n hC.1 hC.2.1 d_law_512 rfl (lv_at hl 0 rfl) ?_
  refine lv_iload_n hC.1 hC.2.1 d_law_513 rfl (lv_at hl 3 rfl) ?_
  refine lv_iconst (v := nI 2) hC.1 hC.2.1 d_law_514 (by decide) ?_
  refine nv_iadd hC d_law_515 ?_
  refine lw_ld hC hX hbl hM.2.2 (k := i + 2) (by omega) hL d_law_516 ?_
  refine lv_aload_n hC.1 hC.2.1 d_law_517 rfl (lv_at hl 0 rfl) ?_
  refine lv_iload_n hC.1 hC.2.1 d_law_518 rfl (lv_at hl 3 rfl) ?_
  refine lv_iconst (v := nI 3) hC.1 hC.2.1 d_law_519 (by decide) ?_
  refine nv_iadd hC d_law_520 ?_
  refine lw_ld hC hX hbl hM.2.2 (k := i + 3) (by omega) hL d_law_521 ?_
  refine lw_callw hC hK1 hK2 hM (As := [.int (xs (i + 1)), .int (xs (i + 2)), .int (xs (i + 3))]) (rest := []) rfl (c_Mill_shift l D ad cA cR _ ln wd N hR (xs (i + 1)) (xs (i + 2)) (xs (i + 3))) kc_Mill_shift km_law_52 ki_Mill kn_Mill_shift ke_Mill_shift kd_Mill_shift ⟨rfl, rfl⟩ ⟨Nat.le_of_ble_eq_true rfl, Nat.le_of_ble_eq_true rfl⟩ rfl hl.1 (Nat.le_of_ble_eq_true rfl) d_law_522 (fun r1 u1 H locs hp1 hM => ?_)
  refine lv_aload_n hC.1 hC.2.1 d_law_525 rfl (lv_at hl 2 rfl) ?_
  refine lv_aload_n hC.1 hC.2.1 d_law_526 rfl (lv_at hl 0 rfl) ?_
  refine lv_iload_n hC.1 hC.2.1 d_law_527 rfl (lv_at hl 3 rfl) ?_
  refine lv_iconst (v := nI 1) hC.1 hC.2.1 d_law_528 (by decide) ?_
  refine nv_iadd hC d_law_529 ?_
  refine lw_ld hC hX hbl hM.2.2 (k := i + 1) (by omega) hL d_law_530 ?_
  refine lv_aload_n hC.1 hC.2.1 d_law_531 rfl (lv_at hl 0 rfl) ?_
  refine lv_iload_n hC.1 hC.2.1 d_law_532 rfl (lv_at hl 3 rfl) ?_
  refine lv_iconst (v := nI 2) hC.1 hC.2.1 d_law_533 (by decide) ?_
  refine nv_iadd hC d_law_534 ?_
  refine lw_ld hC hX hbl hM.2.2 (k := i + 2) (by omega) hL d_law_535 ?_
  refine lv_aload_n hC.1 hC.2.1 d_law_536 rfl (lv_at hl 0 rfl) ?_
  refine lv_iload_n hC.1 hC.2.1 d_law_537 rfl (lv_at hl 3 rfl) ?_
  refine lv_iconst (v := nI 3) hC.1 hC.2.1 d_law_538 (by decide) ?_
  refine nv_iadd hC d_law_539 ?_
  refine lw_ld hC hX hbl hM.2.2 (k := i + 3) (by omega) hL d_law_540 ?_
  refine lw_callm hC hK1 hK2 hM (As := [.int (xs (i + 1)), .int (xs (i + 2)), .int (xs (i + 3))]) (rest := [.int (r1)]) rfl (c_Mod_shift l D ad2 cB _ ln2 wd2 N hR2 (xs (i + 1)) (xs (i + 2)) (xs (i + 3))) kc_Mod_shift km_law_55 ki_Mod kn_Mod_shift ke_Mod_shift kd_Mod_shift ⟨rfl, rfl⟩ ⟨Nat.le_of_ble_eq_true rfl, Nat.le_of_ble_eq_true rfl⟩ rfl hl.1 (Nat.le_of_ble_eq_true rfl) d_law_541 (fun r2 u2 H locs hp2 hM => ?_)
  refine lv_icmp_eq (tgt := 770) hC.1 hC.2.1 d_law_544 (by decide) (fun hc => ?_) (fun hc => ?_)
  · exact hnext _ u1.1 u1.2 u2.1 u2.2 H locs ls hp1.2 hp2.2 hM hl
  · exact absurd (by rw [hp1.1, hp2.1]) hc
set_option maxHeartbeats 4000000 in
set_option maxRecDepth 100000 in
theorem lw_case_part {p : Program} {l : Launch} {e : Env} {s : State} {m : MethodId} {below : List Frame} {meth : Method} {c : Code} {Q : State → Prop} {D : va_G} {ad ad2 : Nat → Nat} {cA cR cB : ClassId} {b L : Nat} {xs : Nat → Int32} (hC : CallFix p m c code 4 s #[Value.ref b] lw_T R_law) (hK1 : va_K D classes (wm_ty cA cR) s) (hK2 : va_K D classes (md_ty cB) s) (hX : va_X b L xs s s.heap) (hbl : b < s.heap.size) (hL : L ≤ 2560) {i : Nat} (hi : i + 5 ≤ L) (N : Nat → Nat) (ln : Nat → Nat) (wd : Nat → Nat → Int32) (ln2 : Nat → Nat) (wd2 : Nat → Nat → Nat) (hR : wm_R N ln wd) (hR2 : md_R N wd2)
    (hnext : ∀ (N : Nat → Nat) (ln : Nat → Nat) (wd : Nat → Nat → Int32) (ln2 : Nat → Nat) (wd2 : Nat → Nat → Nat) (H : Heap) (locs : List Loc) (ls : Array Slot), wm_R N ln wd → md_R N wd2 → lw_M D ad cA cR ad2 cB s ln wd ln2 wd2 H locs → lv_has ls 4 [(0, .ref (b)), (1, .ref (ad 38)), (2, .ref (ad2 5)), (3, .int (nI (i)))] → W p l e room_1 s m #[Value.ref b] below meth c H locs 600000 7302250 Q (F0 m 770 ls [])) :
    ∀ (H : Heap) (locs : List Loc) (ls : Array Slot), lw_M D ad cA cR ad2 cB s ln wd ln2 wd2 H locs → lv_has ls 4 [(0, .ref (b)), (1, .ref (ad 38)), (2, .ref (ad2 5)), (3, .int (nI (i)))] → W p l e room_1 s m #[Value.ref b] below meth c H locs 600000 7302250 Q (F0 m 549 ls []) := by
  intro H locs ls hM hl
  refine lv_aload_n hC.1 hC.2.1 d_law_549 rfl (lv_at hl 1 rfl) ?_
  refine lv_aload_n hC.1 hC.2.1 d_law_550 rfl (lv_at hl 0 rfl) ?_
  refine lv_iload_n hC.1 hC.2.1 d_law_551 rfl (lv_at hl 3 rfl) ?_
  refine lv_iconst (v := nI 1) hC.1 hC.2.1 d_law_552 (by decide) ?_
  refine nv_iadd hC d_law_553 ?_
  refine lw_ld hC hX hbl hM.2.2 (k := i + 1) (by omega) hL d_law_554 ?_
  refine lv_aload_n hC.1 hC.2.1 d_law_555 rfl (lv_at hl 0 rfl) ?_
  refine lv_iload_n hC.1 hC.2.1 d_law_556 rfl (lv_at hl 3 rfl) ?_
  refine lv_iconst (v := nI 2) hC.1 hC.2.1 d_law_557 (by decide) ?_
  refine nv_iadd hC d_law_558 ?_
  refine lw_ld hC hX hbl hM.2.2 (k := i + 2) (by omega) hL d_law_559 ?_
  refine lv_aload_n hC.1 hC.2.1 d_law_560 rfl (lv_at hl 0 rfl) ?_
  refine lv_iload_n hC.1 hC.2.1 d_law_561 rfl (lv_at hl 3 rfl) ?_
  refine lv_iconst (v := nI 3) hC.1 hC.2.1 d_law_562 (by decide) ?_
  refine nv_iadd hC d_law_563 ?_
  refine lw_ld hC hX hbl hM.2.2 (k := i + 3) (by omega) hL d_law_564 ?_
  refine lv_aload_n hC.1 hC.2.1 d_law_565 rfl (lv_at hl 0 rfl) ?_
  refine lv_iload_n hC.1 hC.2.1 d_law_566 rfl (lv_at hl 3 rfl) ?_
  refine lv_iconst (v := nI 4) hC.1 hC.2.1 d_law_567 (by decide) ?_
  refine nv_iadd hC d_law_568 ?_
  refine lw_ld hC hX hbl hM.2.2 (k := i + 4) (by omega) hL d_law_569 ?_
  refine lw_callw hC hK1 hK2 hM (As := [.int (xs (i + 1)), .int (xs (i + 2)), .int (xs (i + 3)), .int (xs (i + 4))]) (rest := []) rfl (c_Mill_part l D ad cA cR _ ln wd N hR (xs (i + 1)) (xs (i + 2)) (xs (i + 3)) (xs (i + 4))) kc_Mill_part km_law_56 ki_Mill kn_Mill_part ke_Mill_part kd_Mill_part ⟨rfl, rfl⟩ ⟨Nat.le_of_ble_eq_true rfl, Nat.le_of_ble_eq_true rfl⟩ rfl hl.1 (Nat.le_of_ble_eq_true rfl) d_law_570 (fun r1 u1 H locs hp1 hM => ?_)
  refine lv_aload_n hC.1 hC.2.1 d_law_573 rfl (lv_at hl 2 rfl) ?_
  refine lv_aload_n hC.1 hC.2.1 d_law_574 rfl (lv_at hl 0 rfl) ?_
  refine lv_iload_n hC.1 hC.2.1 d_law_575 rfl (lv_at hl 3 rfl) ?_
  refine lv_iconst (v := nI 1) hC.1 hC.2.1 d_law_576 (by decide) ?_
  refine nv_iadd hC d_law_577 ?_
  refine lw_ld hC hX hbl hM.2.2 (k := i + 1) (by omega) hL d_law_578 ?_
  refine lv_aload_n hC.1 hC.2.1 d_law_579 rfl (lv_at hl 0 rfl) ?_
  refine lv_iload_n hC.1 hC.2.1 d_law_580 rfl (lv_at hl 3 rfl) ?_
  refine lv_iconst (v := nI 2) hC.1 hC.2.1 d_law_581 (by decide) ?_
  refine nv_iadd hC d_law_582 ?_
  refine lw_ld hC hX hbl hM.2.2 (k := i + 2) (by omega) hL d_law_583 ?_
  refine lv_aload_n hC.1 hC.2.1 d_law_584 rfl (lv_at hl 0 rfl) ?_
  refine lv_iload_n hC.1 hC.2.1 d_law_585 rfl (lv_at hl 3 rfl) ?_
  refine lv_iconst (v := nI 3) hC.1 hC.2.1 d_law_586 (by decide) ?_
  refine nv_iadd hC d_law_587 ?_
  refine lw_ld hC hX hbl hM.2.2 (k := i + 3) (by omega) hL d_law_588 ?_
  refine lv_aload_n hC.1 hC.2.1 d_law_589 rfl (lv_at hl 0 rfl) ?_
  refine lv_iload_n hC.1 hC.2.1 d_law_590 rfl (lv_at hl 3 rfl) ?_
  refine lv_iconst (v := nI 4) hC.1 hC.2.1 d_law_591 (by decide) ?_
  refine nv_iadd hC d_law_592 ?_
  refine lw_ld hC hX hbl hM.2.2 (k := i + 4) (by omega) hL d_law_593 ?_
  refine lw_callm hC hK1 hK2 hM (As := [.int (xs (i + 1)), .int (xs (i + 2)), .int (xs (i + 3)), .int (xs (i + 4))]) (rest := [.int (r1)]) rfl (c_Mod_part l D ad2 cB _ ln2 wd2 N hR2 (xs (i + 1)) (xs (i + 2)) (xs (i + 3)) (xs (i + 4))) kc_Mod_part km_law_59 ki_Mod kn_Mod_part ke_Mod_part kd_Mod_part ⟨rfl, rfl⟩ ⟨Nat.le_of_ble_eq_true rfl, Nat.le_of_ble_eq_true rfl⟩ rfl hl.1 (Nat.le_of_ble_eq_true rfl) d_law_594 (fun r2 u2 H locs hp2 hM => ?_)
  refine lv_icmp_eq (tgt := 770) hC.1 hC.2.1 d_law_597 (by decide) (fun hc => ?_) (fun hc => ?_)
  · exact hnext _ u1.1 u1.2 u2.1 u2.2 H locs ls hp1.2 hp2.2 hM hl
  · exact absurd (by rw [hp1.1, hp2.1]) hc
set_option maxHeartbeats 4000000 in
set_option maxRecDepth 100000 in
theorem lw_case_compare {p : Program} {l : Launch} {e : Env} {s : State} {m : MethodId} {below : List Frame} {meth : Method} {c : Code} {Q : State → Prop} {D : va_G} {ad ad2 : Nat → Nat} {cA cR cB : ClassId} {b L : Nat} {xs : Nat → Int32} (hC : CallFix p m c code 4 s #[Value.ref b] lw_T R_law) (hK1 : va_K D classes (wm_ty cA cR) s) (hK2 : va_K D classes (md_ty cB) s) (hX : va_X b L xs s s.heap) (hbl : b < s.heap.size) (hL : L ≤ 2560) {i : Nat} (hi : i + 5 ≤ L) (N : Nat → Nat) (ln : Nat → Nat) (wd : Nat → Nat → Int32) (ln2 : Nat → Nat) (wd2 : Nat → Nat → Nat) (hR : wm_R N ln wd) (hR2 : md_R N wd2)
    (hnext : ∀ (N : Nat → Nat) (ln : Nat → Nat) (wd : Nat → Nat → Int32) (ln2 : Nat → Nat) (wd2 : Nat → Nat → Nat) (H : Heap) (locs : List Loc) (ls : Array Slot), wm_R N ln wd → md_R N wd2 → lw_M D ad cA cR ad2 cB s ln wd ln2 wd2 H locs → lv_has ls 4 [(0, .ref (b)), (1, .ref (ad 38)), (2, .ref (ad2 5)), (3, .int (nI (i)))] → W p l e room_1 s m #[Value.ref b] below meth c H locs 600000 7302250 Q (F0 m 770 ls [])) :
    ∀ (H : Heap) (locs : List Loc) (ls : Array Slot), lw_M D ad cA cR ad2 cB s ln wd ln2 wd2 H locs → lv_has ls 4 [(0, .ref (b)), (1, .ref (ad 38)), (2, .ref (ad2 5)), (3, .int (nI (i)))] → W p l e room_1 s m #[Value.ref b] below meth c H locs 600000 7302250 Q (F0 m 602 ls []) := by
  intro H locs ls hM hl
  refine lv_aload_n hC.1 hC.2.1 d_law_602 rfl (lv_at hl 1 rfl) ?_
  refine lv_aload_n hC.1 hC.2.1 d_law_603 rfl (lv_at hl 0 rfl) ?_
  refine lv_iload_n hC.1 hC.2.1 d_law_604 rfl (lv_at hl 3 rfl) ?_
  refine lv_iconst (v := nI 1) hC.1 hC.2.1 d_law_605 (by decide) ?_
  refine nv_iadd hC d_law_606 ?_
  refine lw_ld hC hX hbl hM.2.2 (k := i + 1) (by omega) hL d_law_607 ?_
  refine lv_aload_n hC.1 hC.2.1 d_law_608 rfl (lv_at hl 0 rfl) ?_
  refine lv_iload_n hC.1 hC.2.1 d_law_609 rfl (lv_at hl 3 rfl) ?_
  refine lv_iconst (v := nI 2) hC.1 hC.2.1 d_law_610 (by decide) ?_
  refine nv_iadd hC d_law_611 ?_
  refine lw_ld hC hX hbl hM.2.2 (k := i + 2) (by omega) hL d_law_612 ?_
  refine lw_callw hC hK1 hK2 hM (As := [.int (xs (i + 1)), .int (xs (i + 2))]) (rest := []) rfl (c_Mill_compare l D ad cA cR _ ln wd N hR (xs (i + 1)) (xs (i + 2))) kc_Mill_compare km_law_60 ki_Mill kn_Mill_compare ke_Mill_compare kd_Mill_compare ⟨rfl, rfl⟩ ⟨Nat.le_of_ble_eq_true rfl, Nat.le_of_ble_eq_true rfl⟩ rfl hl.1 (Nat.le_of_ble_eq_true rfl) d_law_613 (fun r1 u1 H locs hp1 hM => ?_)
  obtain ⟨hp1, rfl⟩ := hp1
  have hM : lw_M D ad cA cR ad2 cB s ln wd ln2 wd2 H locs := hM
  refine lv_aload_n hC.1 hC.2.1 d_law_616 rfl (lv_at hl 2 rfl) ?_
  refine lv_aload_n hC.1 hC.2.1 d_law_617 rfl (lv_at hl 0 rfl) ?_
  refine lv_iload_n hC.1 hC.2.1 d_law_618 rfl (lv_at hl 3 rfl) ?_
  refine lv_iconst (v := nI 1) hC.1 hC.2.1 d_law_619 (by decide) ?_
  refine nv_iadd hC d_law_620 ?_
  refine lw_ld hC hX hbl hM.2.2 (k := i + 1) (by omega) hL d_law_621 ?_
  refine lv_aload_n hC.1 hC.2.1 d_law_622 rfl (lv_at hl 0 rfl) ?_
  refine lv_iload_n hC.1 hC.2.1 d_law_623 rfl (lv_at hl 3 rfl) ?_
  refine lv_iconst (v := nI 2) hC.1 hC.2.1 d_law_624 (by decide) ?_
  refine nv_iadd hC d_law_625 ?_
  refine lw_ld hC hX hbl hM.2.2 (k := i + 2) (by omega) hL d_law_626 ?_
  refine lw_callm hC hK1 hK2 hM (As := [.int (xs (i + 1)), .int (xs (i + 2))]) (rest := [.int (r1)]) rfl (c_Mod_compare l D ad2 cB _ ln2 wd2 N hR2 (xs (i + 1)) (xs (i + 2))) kc_Mod_compare km_law_64 ki_Mod kn_Mod_compare ke_Mod_compare kd_Mod_compare ⟨rfl, rfl⟩ ⟨Nat.le_of_ble_eq_true rfl, Nat.le_of_ble_eq_true rfl⟩ rfl hl.1 (Nat.le_of_ble_eq_true rfl) d_law_627 (fun r2 u2 H locs hp2 hM => ?_)
  refine lv_icmp_eq (tgt := 770) hC.1 hC.2.1 d_law_630 (by decide) (fun hc => ?_) (fun hc => ?_)
  · exact hnext N ln wd u2.1 u2.2 H locs ls hR hp2.2 hM hl
  · exact absurd (by rw [hp1, hp2.1]) hc
set_option maxHeartbeats 4000000 in
set_option maxRecDepth 100000 in
theorem lw_case_bits {p : Program} {l : Launch} {e : Env} {s : State} {m : MethodId} {below : List Frame} {meth : Method} {c : Code} {Q : State → Prop} {D : va_G} {ad ad2 : Nat → Nat} {cA cR cB : ClassId} {b L : Nat} {xs : Nat → Int32} (hC : CallFix p m c code 4 s #[Value.ref b] lw_T R_law) (hK1 : va_K D classes (wm_ty cA cR) s) (hK2 : va_K D classes (md_ty cB) s) (hX : va_X b L xs s s.heap) (hbl : b < s.heap.size) (hL : L ≤ 2560) {i : Nat} (hi : i + 5 ≤ L) (N : Nat → Nat) (ln : Nat → Nat) (wd : Nat → Nat → Int32) (ln2 : Nat → Nat) (wd2 : Nat → Nat → Nat) (hR : wm_R N ln wd) (hR2 : md_R N wd2)
    (hnext : ∀ (N : Nat → Nat) (ln : Nat → Nat) (wd : Nat → Nat → Int32) (ln2 : Nat → Nat) (wd2 : Nat → Nat → Nat) (H : Heap) (locs : List Loc) (ls : Array Slot), wm_R N ln wd → md_R N wd2 → lw_M D ad cA cR ad2 cB s ln wd ln2 wd2 H locs → lv_has ls 4 [(0, .ref (b)), (1, .ref (ad 38)), (2, .ref (ad2 5)), (3, .int (nI (i)))] → W p l e room_1 s m #[Value.ref b] below meth c H locs 600000 7302250 Q (F0 m 770 ls [])) :
    ∀ (H : Heap) (locs : List Loc) (ls : Array Slot), lw_M D ad cA cR ad2 cB s ln wd ln2 wd2 H locs → lv_has ls 4 [(0, .ref (b)), (1, .ref (ad 38)), (2, .ref (ad2 5)), (3, .int (nI (i)))] → W p l e room_1 s m #[Value.ref b] below meth c H locs 600000 7302250 Q (F0 m 635 ls []) := by
  intro H locs ls hM hl
  refine lv_aload_n hC.1 hC.2.1 d_law_635 rfl (lv_at hl 1 rfl) ?_
  refine lv_aload_n hC.1 hC.2.1 d_law_636 rfl (lv_at hl 0 rfl) ?_
  refine lv_iload_n hC.1 hC.2.1 d_law_637 rfl (lv_at hl 3 rfl) ?_
  refine lv_iconst (v := nI 1) hC.1 hC.2.1 d_law_638 (by decide) ?_
  refine nv_iadd hC d_law_639 ?_
  refine lw_ld hC hX hbl hM.2.2 (k := i + 1) (by omega) hL d_law_640 ?_
  refine lw_callw hC hK1 hK2 hM (As := [.int (xs (i + 1))]) (rest := []) rfl (c_Mill_bits l D ad cA cR _ ln wd N hR (xs (i + 1))) kc_Mill_bits km_law_65 ki_Mill kn_Mill_bits ke_Mill_bits kd_Mill_bits ⟨rfl, rfl⟩ ⟨Nat.le_of_ble_eq_true rfl, Nat.le_of_ble_eq_true rfl⟩ rfl hl.1 (Nat.le_of_ble_eq_true rfl) d_law_641 (fun r1 u1 H locs hp1 hM => ?_)
  obtain ⟨hp1, rfl⟩ := hp1
  have hM : lw_M D ad cA cR ad2 cB s ln wd ln2 wd2 H locs := hM
  refine lv_aload_n hC.1 hC.2.1 d_law_644 rfl (lv_at hl 2 rfl) ?_
  refine lv_aload_n hC.1 hC.2.1 d_law_645 rfl (lv_at hl 0 rfl) ?_
  refine lv_iload_n hC.1 hC.2.1 d_law_646 rfl (lv_at hl 3 rfl) ?_
  refine lv_iconst (v := nI 1) hC.1 hC.2.1 d_law_647 (by decide) ?_
  refine nv_iadd hC d_law_648 ?_
  refine lw_ld hC hX hbl hM.2.2 (k := i + 1) (by omega) hL d_law_649 ?_
  refine lw_callm hC hK1 hK2 hM (As := [.int (xs (i + 1))]) (rest := [.int (r1)]) rfl (c_Mod_bits l D ad2 cB _ ln2 wd2 N hR2 (xs (i + 1))) kc_Mod_bits km_law_69 ki_Mod kn_Mod_bits ke_Mod_bits kd_Mod_bits ⟨rfl, rfl⟩ ⟨Nat.le_of_ble_eq_true rfl, Nat.le_of_ble_eq_true rfl⟩ rfl hl.1 (Nat.le_of_ble_eq_true rfl) d_law_650 (fun r2 u2 H locs hp2 hM => ?_)
  refine lv_icmp_eq (tgt := 770) hC.1 hC.2.1 d_law_653 (by decide) (fun hc => ?_) (fun hc => ?_)
  · exact hnext N ln wd u2.1 u2.2 H locs ls hR hp2.2 hM hl
  · exact absurd (by rw [hp1, hp2.1]) hc
