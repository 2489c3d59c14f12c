theorem d_law_32 : decode code 32 = .ok (.tableswitch 738 0 15 #[80, 143, 216, 249, 292, 335, 378, 431, 474, 517, 570, 603, 626, 659, 682, 705], 80) := by decide +kernel
theorem lw_more {i L : Nat} (hi : i ≤ L) (hL : L ≤ 2560) (h : ¬ nI L - nI 5 < nI i) : i + 5 ≤ L := by
  rw [Int32.lt_iff_toInt_lt, pk_sub_toInt (by omega) (by decide), nI_toInt (by omega)] at h
  omega
set_option maxHeartbeats 4000000 in
set_option maxRecDepth 100000 in
theorem lw_loop {p : Program} {l : Launch} {e : Env} {s : State} {m : MethodId} {below : List Frame} {meth : Method} {c : Code} {D : va_G} {ad ad2 : Nat → Nat} {cA cR cB : ClassId} {b L : Nat} {xs : Nat → Int32} (hC : CallFix p m c code 4 s #[Value.ref b] lw_T R_law) (hr : meth.sig.returnType = ret) (hlocks : meth.locks = false) (hK1 : va_K D classes (wm_ty cA cR) s) (hK2 : va_K D classes (md_ty cB) s) (hX : va_X b L xs s s.heap) (hbl : b < s.heap.size) (hL : L ≤ 2560) :
    ∀ (n i : Nat) (N : Nat → Nat) (ln : Nat → Nat) (wd : Nat → Nat → Int32) (ln2 : Nat → Nat) (wd2 : Nat → Nat → Nat) (H : Heap) (locs : List Loc) (ls : Array Slot), i ≤ L → L + 1 ≤ i + n → wm_R N ln wd → md_R N wd2 → lw_M D ad cA cR ad2 cB s ln wd ln2 wd2 H locs → lv_has ls 4 [(0, .ref b), (1, .ref (ad 38)), (2, .ref (ad2 5)), (3, .int (nI i))] → W p l e room_1 s m #[Value.ref b] below meth c H locs 600000 7302250 (lw_Z below #[Value.ref b] s) (F0 m 18 ls []) := by
  intro n
  induction n with
  | zero => intro i N ln wd ln2 wd2 H locs ls h1 h2; exact absurd h2 (by omega)
  | succ n ih =>
    intro i N ln wd ln2 wd2 H locs ls hi hn hR hR2 hM hl
    refine lv_iload_n hC.1 hC.2.1 d_law_18 rfl (lv_at hl 3 rfl) ?_
    refine lv_aload_n hC.1 hC.2.1 d_law_19 rfl (lv_at hl 0 rfl) ?_
    refine va_slen hC.1 hC.2.1 hX hbl (Nat.not_le.mpr hbl) hM.2.2 d_law_20 ?_
    refine lv_iconst (v := nI 5) hC.1 hC.2.1 d_law_21 (by decide) ?_
    refine lv_isub hC.1 hC.2.1 d_law_22 ?_
    refine lv_icmp_gt (tgt := 776) hC.1 hC.2.1 d_law_23 (by decide) (fun hc => ?_) (fun hc => ?_)
    · refine lv_iconst (v := 1) hC.1 hC.2.1 d_law_776 (by decide) ?_
      refine va_forget (fun q hq => hM.2.2.2.2 q hq) ?_
      exact lw_ret hC.1 hC.2.1 hr hlocks d_law_777
    · have hi5 : i + 5 ≤ L := lw_more hi hL hc
      have hnext : ∀ (N : Nat → Nat) (ln : Nat → Nat) (wd : Nat → Nat → Int32) (ln2 : Nat → Nat) (wd2 : Nat → Nat → Nat) (H : Heap) (locs : List Loc) (ls : Array Slot), wm_R N ln wd → md_R N wd2 → lw_M D ad cA cR ad2 cB s ln wd ln2 wd2 H locs → lv_has ls 4 [(0, .ref b), (1, .ref (ad 38)), (2, .ref (ad2 5)), (3, .int (nI i))] → W p l e room_1 s m #[Value.ref b] below meth c H locs 600000 7302250 (lw_Z below #[Value.ref b] s) (F0 m 770 ls []) := by
        intro N ln wd ln2 wd2 H locs ls hR hR2 hM hl
        refine lv_iinc (v := nI (i + 5)) (lv' := [(3, .int (nI (i + 5))), (0, .ref b), (1, .ref (ad 38)), (2, .ref (ad2 5))]) hC.1 hC.2.1 d_law_770 hl (k := 3) rfl (nI_add _ _) (by decide) rfl (fun ls hl => ?_)
        refine lv_goto (tgt := 18) hC.1 hC.2.1 d_law_773 (by decide) ?_
        exact ih (i + 5) N ln wd ln2 wd2 H locs ls hi5 (by omega) hR hR2 hM (lv_sub hl [1, 2, 3, 0] rfl)
      refine lv_aload_n hC.1 hC.2.1 d_law_26 rfl (lv_at hl 0 rfl) ?_
      refine lv_iload_n hC.1 hC.2.1 d_law_27 rfl (lv_at hl 3 rfl) ?_
      refine lw_ld hC hX hbl hM.2.2 (k := i) (by omega) hL d_law_28 ?_
      refine lv_bipush (v := nI 15) hC.1 hC.2.1 d_law_29 (by decide) ?_
      refine lv_iand hC.1 hC.2.1 d_law_31 ?_
      obtain ⟨j, hj, ej⟩ := pk_andE (xs i) (m := nI 15) 4 (by decide)
      rw [ej]
      have hj : j < 16 := hj
      have cs : j = 0 ∨ j = 1 ∨ j = 2 ∨ j = 3 ∨ j = 4 ∨ j = 5 ∨ j = 6 ∨ j = 7 ∨ j = 8 ∨ j = 9 ∨ j = 10 ∨ j = 11 ∨ j = 12 ∨ j = 13 ∨ j = 14 ∨ j = 15 := by omega
      clear ej hj
      rcases cs with rfl | rfl | rfl | rfl | rfl | rfl | rfl | rfl | rfl | rfl | rfl | rfl | rfl | rfl | rfl | rfl
      · refine lv_tableIn (tgt := 112) (off := 80) hC.1 hC.2.1 d_law_32 (by decide) (by decide) (by decide) (by decide) ?_
        exact lw_case_push hC hK1 hK2 hX hbl hL hi5 N ln wd ln2 wd2 hR hR2 hnext H locs ls hM hl
      · refine lv_tableIn (tgt := 175) (off := 143) hC.1 hC.2.1 d_law_32 (by decide) (by decide) (by decide) (by decide) ?_
        exact lw_case_spread hC hK1 hK2 hX hbl hL hi5 N ln wd ln2 wd2 hR hR2 hnext H locs ls hM hl
      · refine lv_tableIn (tgt := 248) (off := 216) hC.1 hC.2.1 d_law_32 (by decide) (by decide) (by decide) (by decide) ?_
        exact lw_case_copy hC hK1 hK2 hX hbl hL hi5 N ln wd ln2 wd2 hR hR2 hnext H locs ls hM hl
      · refine lv_tableIn (tgt := 281) (off := 249) hC.1 hC.2.1 d_law_32 (by decide) (by decide) (by decide) (by decide) ?_
        exact lw_case_add hC hK1 hK2 hX hbl hL hi5 N ln wd ln2 wd2 hR hR2 hnext H locs ls hM hl
      · refine lv_tableIn (tgt := 324) (off := 292) hC.1 hC.2.1 d_law_32 (by decide) (by decide) (by decide) (by decide) ?_
        exact lw_case_take hC hK1 hK2 hX hbl hL hi5 N ln wd ln2 wd2 hR hR2 hnext H locs ls hM hl
      · refine lv_tableIn (tgt := 367) (off := 335) hC.1 hC.2.1 d_law_32 (by decide) (by decide) (by decide) (by decide) ?_
        exact lw_case_times hC hK1 hK2 hX hbl hL hi5 N ln wd ln2 wd2 hR hR2 hnext H locs ls hM hl
      · refine lv_tableIn (tgt := 410) (off := 378) hC.1 hC.2.1 d_law_32 (by decide) (by decide) (by decide) (by decide) ?_
        exact lw_case_divide hC hK1 hK2 hX hbl hL hi5 N ln wd ln2 wd2 hR hR2 hnext H locs ls hM hl
      · refine lv_tableIn (tgt := 463) (off := 431) hC.1 hC.2.1 d_law_32 (by decide) (by decide) (by decide) (by decide) ?_
        exact lw_case_root hC hK1 hK2 hX hbl hL hi5 N ln wd ln2 wd2 hR hR2 hnext H locs ls hM hl
      · refine lv_tableIn (tgt := 506) (off := 474) hC.1 hC.2.1 d_law_32 (by decide) (by decide) (by decide) (by decide) ?_
        exact lw_case_shift hC hK1 hK2 hX hbl hL hi5 N ln wd ln2 wd2 hR hR2 hnext H locs ls hM hl
      · refine lv_tableIn (tgt := 549) (off := 517) hC.1 hC.2.1 d_law_32 (by decide) (by decide) (by decide) (by decide) ?_
        exact lw_case_part hC hK1 hK2 hX hbl hL hi5 N ln wd ln2 wd2 hR hR2 hnext H locs ls hM hl
      · refine lv_tableIn (tgt := 602) (off := 570) hC.1 hC.2.1 d_law_32 (by decide) (by decide) (by decide) (by decide) ?_
        exact lw_case_compare hC hK1 hK2 hX hbl hL hi5 N ln wd ln2 wd2 hR hR2 hnext H locs ls hM hl
      · refine lv_tableIn (tgt := 635) (off := 603) hC.1 hC.2.1 d_law_32 (by decide) (by decide) (by decide) (by decide) ?_
        exact lw_case_bits hC hK1 hK2 hX hbl hL hi5 N ln wd ln2 wd2 hR hR2 hnext H locs ls hM hl
      · refine lv_tableIn (tgt := 658) (off := 626) hC.1 hC.2.1 d_law_32 (by decide) (by decide) (by decide) (by decide) ?_
        exact lw_case_word hC hK1 hK2 hX hbl hL hi5 N ln wd ln2 wd2 hR hR2 hnext H locs ls hM hl
      · refine lv_tableIn (tgt := 691) (off := 659) hC.1 hC.2.1 d_law_32 (by decide) (by decide) (by decide) (by decide) ?_
        exact lw_case_ones hC hK1 hK2 hX hbl hL hi5 N ln wd ln2 wd2 hR hR2 hnext H locs ls hM hl
      · refine lv_tableIn (tgt := 714) (off := 682) hC.1 hC.2.1 d_law_32 (by decide) (by decide) (by decide) (by decide) ?_
        exact lw_case_lowest hC hK1 hK2 hX hbl hL hi5 N ln wd ln2 wd2 hR hR2 hnext H locs ls hM hl
      · refine lv_tableIn (tgt := 737) (off := 705) hC.1 hC.2.1 d_law_32 (by decide) (by decide) (by decide) (by decide) ?_
        exact lw_case_rest hC hK1 hK2 hX hbl hL hi5 N ln wd ln2 wd2 hR hR2 hnext H locs ls hM hl
