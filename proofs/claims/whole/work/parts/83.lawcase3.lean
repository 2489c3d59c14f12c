set_option maxHeartbeats 4000000 in
set_option maxRecDepth 100000 in
theorem lw_case_word {p : Program} {l : Launch} {e : Env} {s : State} {m : MethodId} {below : List Frame} {meth : Method} {c : Code} {Q : State → Prop} {D : va_G} {ad ad2 : Nat → Nat} {cA cR cB : ClassId} {b L : Nat} {xs : Nat → Int32} (hC : CallFix p m c code 4 s #[Value.ref b] lw_T R_law) (hK1 : va_K D classes (wm_ty cA cR) s) (hK2 : va_K D classes (md_ty cB) s) (hX : va_X b L xs s s.heap) (hbl : b < s.heap.size) (hL : L ≤ 2560) {i : Nat} (hi : i + 5 ≤ L) (N : Nat → Nat) (ln : Nat → Nat) (wd : Nat → Nat → Int32) (ln2 : Nat → Nat) (wd2 : Nat → Nat → Nat) (hR : wm_R N ln wd) (hR2 : md_R N wd2)
    (hnext : ∀ (N : Nat → Nat) (ln : Nat → Nat) (wd : Nat → Nat → Int32) (ln2 : Nat → Nat) (wd2 : Nat → Nat → Nat) (H : Heap) (locs : List Loc) (ls : Array Slot), wm_R N ln wd → md_R N wd2 → lw_M D ad cA cR ad2 cB s ln wd ln2 wd2 H locs → lv_has ls 4 [(0, .ref (b)), (1, .ref (ad 38)), (2, .ref (ad2 5)), (3, .int (nI (i)))] → W p l e room_1 s m #[Value.ref b] below meth c H locs 600000 7302250 Q (F0 m 770 ls [])) :
    ∀ (H : Heap) (locs : List Loc) (ls : Array Slot), lw_M D ad cA cR ad2 cB s ln wd ln2 wd2 H locs → lv_has ls 4 [(0, .ref (b)), (1, .ref (ad 38)), (2, .ref (ad2 5)), (3, .int (nI (i)))] → W p l e room_1 s m #[Value.ref b] below meth c H locs 600000 7302250 Q (F0 m 658 ls []) := by
  intro H locs ls hM hl
  refine lv_aload_n hC.1 hC.2.1 d_law_658 rfl (lv_at hl 1 rfl) ?_
  refine lv_aload_n hC.1 hC.2.1 d_law_659 rfl (lv_at hl 0 rfl) ?_
  refine lv_iload_n hC.1 hC.2.1 d_law_660 rfl (lv_at hl 3 rfl) ?_
  refine lv_iconst (v := nI 1) hC.1 hC.2.1 d_law_661 (by decide) ?_
  refine nv_iadd hC d_law_662 ?_
  refine lw_ld hC hX hbl hM.2.2 (k := i + 1) (by omega) hL d_law_663 ?_
  refine lv_aload_n hC.1 hC.2.1 d_law_664 rfl (lv_at hl 0 rfl) ?_
  refine lv_iload_n hC.1 hC.2.1 d_law_665 rfl (lv_at hl 3 rfl) ?_
  refine lv_iconst (v := nI 2) hC.1 hC.2.1 d_law_666 (by decide) ?_
  refine nv_iadd hC d_law_667 ?_
  refine lw_ld hC hX hbl hM.2.2 (k := i + 2) (by omega) hL d_law_668 ?_
  refine lw_callw hC hK1 hK2 hM (As := [.int (xs (i + 1)), .int (xs (i + 2))]) (rest := []) rfl (c_Mill_word l D ad cA cR _ ln wd N hR (xs (i + 1)) (xs (i + 2))) kc_Mill_word km_law_70 ki_Mill kn_Mill_word ke_Mill_word kd_Mill_word ⟨rfl, rfl⟩ ⟨Nat.le_of_ble_eq_true rfl, Nat.le_of_ble_eq_true rfl⟩ rfl hl.1 (Nat.le_of_ble_eq_true rfl) d_law_669 (fun r1 u1 H locs hp1 hM => ?_)
  obtain ⟨hp1, rfl⟩ := hp1
  have hM : lw_M D ad cA cR ad2 cB s ln wd ln2 wd2 H locs := hM
  refine lv_aload_n hC.1 hC.2.1 d_law_672 rfl (lv_at hl 2 rfl) ?_
  refine lv_aload_n hC.1 hC.2.1 d_law_673 rfl (lv_at hl 0 rfl) ?_
  refine lv_iload_n hC.1 hC.2.1 d_law_674 rfl (lv_at hl 3 rfl) ?_
  refine lv_iconst (v := nI 1) hC.1 hC.2.1 d_law_675 (by decide) ?_
  refine nv_iadd hC d_law_676 ?_
  refine lw_ld hC hX hbl hM.2.2 (k := i + 1) (by omega) hL d_law_677 ?_
  refine lv_aload_n hC.1 hC.2.1 d_law_678 rfl (lv_at hl 0 rfl) ?_
  refine lv_iload_n hC.1 hC.2.1 d_law_679 rfl (lv_at hl 3 rfl) ?_
  refine lv_iconst (v := nI 2) hC.1 hC.2.1 d_law_680 (by decide) ?_
  refine nv_iadd hC d_law_681 ?_
  refine lw_ld hC hX hbl hM.2.2 (k := i + 2) (by omega) hL d_law_682 ?_
  refine lw_callm hC hK1 hK2 hM (As := [.int (xs (i + 1)), .int (xs (i + 2))]) (rest := [.int (r1)]) rfl (c_Mod_word l D ad2 cB _ ln2 wd2 N hR2 (xs (i + 1)) (xs (i + 2))) kc_Mod_word km_law_73 ki_Mod kn_Mod_word ke_Mod_word kd_Mod_word ⟨rfl, rfl⟩ ⟨Nat.le_of_ble_eq_true rfl, Nat.le_of_ble_eq_true rfl⟩ rfl hl.1 (Nat.le_of_ble_eq_true rfl) d_law_683 (fun r2 u2 H locs hp2 hM => ?_)
  refine lv_icmp_eq (tgt := 770) hC.1 hC.2.1 d_law_686 (by decide) (fun hc => ?_) (fun hc => ?_)
  · exact hnext N ln wd u2.1 u2.2 H locs ls hR hp2.2 hM hl
  · exact absurd (by rw [hp1, hp2.1]) hc
set_option maxHeartbeats 4000000 in
set_option maxRecDepth 100000 in
theorem lw_case_ones {p : Program} {l : Launch} {e : Env} {s : State} {m : MethodId} {below : List Frame} {meth : Method} {c : Code} {Q : State → Prop} {D : va_G} {ad ad2 : Nat → Nat} {cA cR cB : ClassId} {b L : Nat} {xs : Nat → Int32} (hC : CallFix p m c code 4 s #[Value.ref b] lw_T R_law) (hK1 : va_K D classes (wm_ty cA cR) s) (hK2 : va_K D classes (md_ty cB) s) (hX : va_X b L xs s s.heap) (hbl : b < s.heap.size) (hL : L ≤ 2560) {i : Nat} (hi : i + 5 ≤ L) (N : Nat → Nat) (ln : Nat → Nat) (wd : Nat → Nat → Int32) (ln2 : Nat → Nat) (wd2 : Nat → Nat → Nat) (hR : wm_R N ln wd) (hR2 : md_R N wd2)
    (hnext : ∀ (N : Nat → Nat) (ln : Nat → Nat) (wd : Nat → Nat → Int32) (ln2 : Nat → Nat) (wd2 : Nat → Nat → Nat) (H : Heap) (locs : List Loc) (ls : Array Slot), wm_R N ln wd → md_R N wd2 → lw_M D ad cA cR ad2 cB s ln wd ln2 wd2 H locs → lv_has ls 4 [(0, .ref (b)), (1, .ref (ad 38)), (2, .ref (ad2 5)), (3, .int (nI (i)))] → W p l e room_1 s m #[Value.ref b] below meth c H locs 600000 7302250 Q (F0 m 770 ls [])) :
    ∀ (H : Heap) (locs : List Loc) (ls : Array Slot), lw_M D ad cA cR ad2 cB s ln wd ln2 wd2 H locs → lv_has ls 4 [(0, .ref (b)), (1, .ref (ad 38)), (2, .ref (ad2 5)), (3, .int (nI (i)))] → W p l e room_1 s m #[Value.ref b] below meth c H locs 600000 7302250 Q (F0 m 691 ls []) := by
  intro H locs ls hM hl
  refine lv_aload_n hC.1 hC.2.1 d_law_691 rfl (lv_at hl 1 rfl) ?_
  refine lv_aload_n hC.1 hC.2.1 d_law_692 rfl (lv_at hl 0 rfl) ?_
  refine lv_iload_n hC.1 hC.2.1 d_law_693 rfl (lv_at hl 3 rfl) ?_
  refine lv_iconst (v := nI 1) hC.1 hC.2.1 d_law_694 (by decide) ?_
  refine nv_iadd hC d_law_695 ?_
  refine lw_ld hC hX hbl hM.2.2 (k := i + 1) (by omega) hL d_law_696 ?_
  refine lw_callw hC hK1 hK2 hM (As := [.int (xs (i + 1))]) (rest := []) rfl (c_Mill_ones l D ad cA cR _ ln wd N hR (xs (i + 1))) kc_Mill_ones km_law_74 ki_Mill kn_Mill_ones ke_Mill_ones kd_Mill_ones ⟨rfl, rfl⟩ ⟨Nat.le_of_ble_eq_true rfl, Nat.le_of_ble_eq_true rfl⟩ rfl hl.1 (Nat.le_of_ble_eq_true rfl) d_law_697 (fun r1 u1 H locs hp1 hM => ?_)
  obtain ⟨hp1, rfl⟩ := hp1
  have hM : lw_M D ad cA cR ad2 cB s ln wd ln2 wd2 H locs := hM
  refine lv_aload_n hC.1 hC.2.1 d_law_700 rfl (lv_at hl 2 rfl) ?_
  refine lv_aload_n hC.1 hC.2.1 d_law_701 rfl (lv_at hl 0 rfl) ?_
  refine lv_iload_n hC.1 hC.2.1 d_law_702 rfl (lv_at hl 3 rfl) ?_
  refine lv_iconst (v := nI 1) hC.1 hC.2.1 d_law_703 (by decide) ?_
  refine nv_iadd hC d_law_704 ?_
  refine lw_ld hC hX hbl hM.2.2 (k := i + 1) (by omega) hL d_law_705 ?_
  refine lw_callm hC hK1 hK2 hM (As := [.int (xs (i + 1))]) (rest := [.int (r1)]) rfl (c_Mod_ones l D ad2 cB _ ln2 wd2 N hR2 (xs (i + 1))) kc_Mod_ones km_law_77 ki_Mod kn_Mod_ones ke_Mod_ones kd_Mod_ones ⟨rfl, rfl⟩ ⟨Nat.le_of_ble_eq_true rfl, Nat.le_of_ble_eq_true rfl⟩ rfl hl.1 (Nat.le_of_ble_eq_true rfl) d_law_706 (fun r2 u2 H locs hp2 hM => ?_)
  refine lv_icmp_eq (tgt := 770) hC.1 hC.2.1 d_law_709 (by decide) (fun hc => ?_) (fun hc => ?_)
  · exact hnext N ln wd u2.1 u2.2 H locs ls hR hp2.2 hM hl
  · exact absurd (by rw [hp1, hp2.1]) hc
set_option maxHeartbeats 4000000 in
set_option maxRecDepth 100000 in
theorem lw_case_lowest {p : Program} {l : Launch} {e : Env} {s : State} {m : MethodId} {below : List Frame} {meth : Method} {c : Code} {Q : State → Prop} {D : va_G} {ad ad2 : Nat → Nat} {cA cR cB : ClassId} {b L : Nat} {xs : Nat → Int32} (hC : CallFix p m c code 4 s #[Value.ref b] lw_T R_law) (hK1 : va_K D classes (wm_ty cA cR) s) (hK2 : va_K D classes (md_ty cB) s) (hX : va_X b L xs s s.heap) (hbl : b < s.heap.size) (hL : L ≤ 2560) {i : Nat} (hi : i + 5 ≤ L) (N : Nat → Nat) (ln : Nat → Nat) (wd : Nat → Nat → Int32) (ln2 : Nat → Nat) (wd2 : Nat → Nat → Nat) (hR : wm_R N ln wd) (hR2 : md_R N wd2)
    (hnext : ∀ (N : Nat → Nat) (ln : Nat → Nat) (wd : Nat → Nat → Int32) (ln2 : Nat → Nat) (wd2 : Nat → Nat → Nat) (H : Heap) (locs : List Loc) (ls : Array Slot), wm_R N ln wd → md_R N wd2 → lw_M D ad cA cR ad2 cB s ln wd ln2 wd2 H locs → lv_has ls 4 [(0, .ref (b)), (1, .ref (ad 38)), (2, .ref (ad2 5)), (3, .int (nI (i)))] → W p l e room_1 s m #[Value.ref b] below meth c H locs 600000 7302250 Q (F0 m 770 ls [])) :
    ∀ (H : Heap) (locs : List Loc) (ls : Array Slot), lw_M D ad cA cR ad2 cB s ln wd ln2 wd2 H locs → lv_has ls 4 [(0, .ref (b)), (1, .ref (ad 38)), (2, .ref (ad2 5)), (3, .int (nI (i)))] → W p l e room_1 s m #[Value.ref b] below meth c H locs 600000 7302250 Q (F0 m 714 ls []) := by
  intro H locs ls hM hl
  refine lv_aload_n hC.1 hC.2.1 d_law_714 rfl (lv_at hl 1 rfl) ?_
  refine lv_aload_n hC.1 hC.2.1 d_law_715 rfl (lv_at hl 0 rfl) ?_
  refine lv_iload_n hC.1 hC.2.1 d_law_716 rfl (lv_at hl 3 rfl) ?_
  refine lv_iconst (v := nI 1) hC.1 hC.2.1 d_law_717 (by decide) ?_
  refine nv_iadd hC d_law_718 ?_
  refine lw_ld hC hX hbl hM.2.2 (k := i + 1) (by omega) hL d_law_719 ?_
  refine lw_callw hC hK1 hK2 hM (As := [.int (xs (i + 1))]) (rest := []) rfl (c_Mill_lowest l D ad cA cR _ ln wd N hR (xs (i + 1))) kc_Mill_lowest km_law_78 ki_Mill kn_Mill_lowest ke_Mill_lowest kd_Mill_lowest ⟨rfl, rfl⟩ ⟨Nat.le_of_ble_eq_true rfl, Nat.le_of_ble_eq_true rfl⟩ rfl hl.1 (Nat.le_of_ble_eq_true rfl) d_law_720 (fun r1 u1 H locs hp1 hM => ?_)
  obtain ⟨hp1, rfl⟩ := hp1
  have hM : lw_M D ad cA cR ad2 cB s ln wd ln2 wd2 H locs := hM
  refine lv_aload_n hC.1 hC.2.1 d_law_723 rfl (lv_at hl 2 rfl) ?_
  refine lv_aload_n hC.1 hC.2.1 d_law_724 rfl (lv_at hl 0 rfl) ?_
  refine lv_iload_n hC.1 hC.2.1 d_law_725 rfl (lv_at hl 3 rfl) ?_
  refine lv_iconst (v := nI 1) hC.1 hC.2.1 d_law_726 (by decide) ?_
  refine nv_iadd hC d_law_727 ?_
  refine lw_ld hC hX hbl hM.2.2 (k := i + 1) (by omega) hL d_law_728 ?_
  refine lw_callm hC hK1 hK2 hM (As := [.int (xs (i + 1))]) (rest := [.int (r1)]) rfl (c_Mod_lowest l D ad2 cB _ ln2 wd2 N hR2 (xs (i + 1))) kc_Mod_lowest km_law_81 ki_Mod kn_Mod_lowest ke_Mod_lowest kd_Mod_lowest ⟨rfl, rfl⟩ ⟨Nat.le_of_ble_eq_true rfl, Nat.le_of_ble_eq_true rfl⟩ rfl hl.1 (Nat.le_of_ble_eq_true rfl) d_law_729 (fun r2 u2 H locs hp2 hM => ?_)
  refine lv_icmp_eq (tgt := 770) hC.1 hC.2.1 d_law_732 (by decide) (fun hc => ?_) (fun hc => ?_)
  · exact hnext N ln wd u2.1 u2.2 H locs ls hR hp2.2 hM hl
  · exact absurd (by rw [hp1, hp2.1]) hc
set_option maxHeartbeats 4000000 in
set_option maxRecDepth 100000 in
theorem lw_case_rest {p : Program} {l : Launch} {e : Env} {s : State} {m : MethodId} {below : List Frame} {meth : Method} {c : Code} {Q : State → Prop} {D : va_G} {ad ad2 : Nat → Nat} {cA cR cB : ClassId} {b L : Nat} {xs : Nat → Int32} (hC : CallFix p m c code 4 s #[Value.ref b] lw_T R_law) (hK1 : va_K D classes (wm_ty cA cR) s) (hK2 : va_K D classes (md_ty cB) s) (hX : va_X b L xs s s.heap) (hbl : b < s.heap.size) (hL : L ≤ 2560) {i : Nat} (hi : i + 5 ≤ L) (N : Nat → Nat) (ln : Nat → Nat) (wd : Nat → Nat → Int32) (ln2 : Nat → Nat) (wd2 : Nat → Nat → Nat) (hR : wm_R N ln wd) (hR2 : md_R N wd2)
    (hnext : ∀ (N : Nat → Nat) (ln : Nat → Nat) (wd : Nat → Nat → Int32) (ln2 : Nat → Nat) (wd2 : Nat → Nat → Nat) (H : Heap) (locs : List Loc) (ls : Array Slot), wm_R N ln wd → md_R N wd2 → lw_M D ad cA cR ad2 cB s ln wd ln2 wd2 H locs → lv_has ls 4 [(0, .ref (b)), (1, .ref (ad 38)), (2, .ref (ad2 5)), (3, .int (nI (i)))] → W p l e room_1 s m #[Value.ref b] below meth c H locs 600000 7302250 Q (F0 m 770 ls [])) :
    ∀ (H : Heap) (locs : List Loc) (ls : Array Slot), lw_M D ad cA cR ad2 cB s ln wd ln2 wd2 H locs → lv_has ls 4 [(0, .ref (b)), (1, .ref (ad 38)), (2, .ref (ad2 5)), (3, .int (nI (i)))] → W p l e room_1 s m #[Value.ref b] below meth c H locs 600000 7302250 Q (F0 m 737 ls []) := by
  intro H locs ls hM hl
  refine lv_aload_n hC.1 hC.2.1 d_law_737 rfl (lv_at hl 1 rfl) ?_
  refine lv_aload_n hC.1 hC.2.1 d_law_738 rfl (lv_at hl 0 rfl) ?_
  refine lv_iload_n hC.1 hC.2.1 d_law_739 rfl (lv_at hl 3 rfl) ?_
  refine lv_iconst (v := nI 1) hC.1 hC.2.1 d_law_740 (by decide) ?_
  refine nv_iadd hC d_law_741 ?_
  refine lw_ld hC hX hbl hM.2.2 (k := i + 1) (by omega) hL d_law_742 ?_
  refine lv_aload_n hC.1 hC.2.1 d_law_743 rfl (lv_at hl 0 rfl) ?_
  refine lv_iload_n hC.1 hC.2.1 d_law_744 rfl (lv_at hl 3 rfl) ?_
  refine lv_iconst (v := nI 2) hC.1 hC.2.1 d_law_745 (by decide) ?_
  refine nv_iadd hC d_law_746 ?_
  refine lw_ld hC hX hbl hM.2.2 (k := i + 2) (by omega) hL d_law_747 ?_
  refine lw_callw hC hK1 hK2 hM (As := [.int (xs (i + 1)), .int (xs (i + 2))]) (rest := []) rfl (c_Mill_rest l D ad cA cR _ ln wd N hR (xs (i + 1)) (xs (i + 2))) kc_Mill_rest km_law_82 ki_Mill kn_Mill_rest ke_Mill_rest kd_Mill_rest ⟨rfl, rfl⟩ ⟨Nat.le_of_ble_eq_true rfl, Nat.le_of_ble_eq_true rfl⟩ rfl hl.1 (Nat.le_of_ble_eq_true rfl) d_law_748 (fun r1 u1 H locs hp1 hM => ?_)
  obtain ⟨hp1, rfl⟩ := hp1
  have hM : lw_M D ad cA cR ad2 cB s ln wd ln2 wd2 H locs := hM
  refine lv_aload_n hC.1 hC.2.1 d_law_751 rfl (lv_at hl 2 rfl) ?_
  refine lv_aload_n hC.1 hC.2.1 d_law_752 rfl (lv_at hl 0 rfl) ?_
  refine lv_iload_n hC.1 hC.2.1 d_law_753 rfl (lv_at hl 3 rfl) ?_
  refine lv_iconst (v := nI 1) hC.1 hC.2.1 d_law_754 (by decide) ?_
  refine nv_iadd hC d_law_755 ?_
  refine lw_ld hC hX hbl hM.2.2 (k := i + 1) (by omega) hL d_law_756 ?_
  refine lv_aload_n hC.1 hC.2.1 d_law_757 rfl (lv_at hl 0 rfl) ?_
  refine lv_iload_n hC.1 hC.2.1 d_law_758 rfl (lv_at hl 3 rfl) ?_
  refine lv_iconst (v := nI 2) hC.1 hC.2.1 d_law_759 (by decide) ?_
  refine nv_iadd hC d_law_760 ?_
  refine lw_ld hC hX hbl hM.2.2 (k := i + 2) (by omega) hL d_law_761 ?_
  refine lw_callm hC hK1 hK2 hM (As := [.int (xs (i + 1)), .int (xs (i + 2))]) (rest := [.int (r1)]) rfl (c_Mod_rest l D ad2 cB _ ln2 wd2 N hR2 (xs (i + 1)) (xs (i + 2))) kc_Mod_rest km_law_85 ki_Mod kn_Mod_rest ke_Mod_rest kd_Mod_rest ⟨rfl, rfl⟩ ⟨Nat.le_of_ble_eq_true rfl, Nat.le_of_ble_eq_true rfl⟩ rfl hl.1 (Nat.le_of_ble_eq_true rfl) d_law_762 (fun r2 u2 H locs hp2 hM => ?_)
  refine lv_icmp_eq (tgt := 770) hC.1 hC.2.1 d_law_765 (by decide) (fun hc => ?_) (fun hc => ?_)
  · exact hnext N ln wd u2.1 u2.2 H locs ls hR hp2.2 hM hl
  · exact absurd (by rw [hp1, hp2.1]) hc
