set_option maxHeartbeats 4000000 in
set_option maxRecDepth 100000 in
theorem tl_Div_nextWord {p : Program} {l : Launch} {e : Env} {s : State} {m : MethodId} {args : Array Value} {below : List Frame} {meth : Method} {c : Code} {Q : State → Prop} {D : va_G} {ad : Nat → Nat} {cA cR : ClassId} (hC : CallFix p m c b_Div_nextWord 11 s args lw_T R_Div) (hK : va_K D classes (wm_ty cA cR) s) (ln : Nat → Nat) (wd : Nat → Nat → Int32) (i j a0 cnt : Nat) (hi : i < 19) (hj : j < 19) (hji : j ≠ i) (hcnt : 1 ≤ cnt) (hfit : a0 + cnt < 2050) (q : Nat) (hqlt : q < 4294967296) (k1 : q * wm_v (wd j) cnt < wm_v (wm_off (wd i) a0) (cnt + 1) + wm_v (wd j) cnt) (k2 : wm_v (wm_off (wd i) a0) (cnt + 1) < (q + 1) * wm_v (wd j) cnt) (hret : ∀ (q : Nat) (f : Nat → Int32) (pc : Nat) (H : Heap) (locs : List Loc) (ls : Array Slot), decode b_Div_nextWord pc = .ok (.ireturn, 1) → (q < 4294967296 ∧ wm_v (wm_off f a0) (cnt + 1) + q * wm_v (wd j) cnt = wm_v (wm_off (wd i) a0) (cnt + 1) ∧ wm_v (wm_off (wd i) a0) (cnt + 1) < (q + 1) * wm_v (wd j) cnt ∧ ∀ k, (k < a0 ∨ a0 + cnt < k) → f k = wd i k) → wm_M D ad cA cR s ln (va_up wd i f) H locs → W p l e ({ frames := 2, cells := 0, slots := 0, locals := 56 }) s m args below meth c H locs 0 0 Q (F0 m pc ls [.int (nI q)])) :
    ∀ (H : Heap) (locs : List Loc) (ls : Array Slot), wm_M D ad cA cR s (ln) (wd) H locs → lv_has ls 11 [(0, .ref (ad (19 + i))), (1, .ref (ad (19 + j))), (2, .int (nI (a0))), (3, .int (nI (cnt))), (4, .int (nI (a0 + cnt)))] → W p l e ({ frames := 2, cells := 0, slots := 0, locals := 56 }) s m args below meth c H locs 0 0 Q (F0 m 60 ls [.long (lN (q))]) := by
  intro H locs ls hM hl
  refine lv_lstore (lv' := [(7, .long (lN (q))), (0, .ref (ad (19 + i))), (1, .ref (ad (19 + j))), (2, .int (nI (a0))), (3, .int (nI (cnt))), (4, .int (nI (a0 + cnt)))]) hC.1 hC.2.1 d_Div_nextWord_60 hl (by decide) rfl (fun ls hl => ?_)
  refine lv_aload_n hC.1 hC.2.1 d_Div_nextWord_62 rfl (lv_at hl 1 rfl) ?_
  refine lv_iload hC.1 hC.2.1 d_Div_nextWord_63 (lv_at hl 5 rfl) ?_
  refine wm_ald hC hK hM (j := i) (k := a0 + cnt) hi (by omega) d_Div_nextWord_65 ?_
  refine nv_low hC kl_Div_55 d_Div_nextWord_66 d_Div_nextWord_67 d_Div_nextWord_70 ?_
  refine lv_aload_n hC.1 hC.2.1 d_Div_nextWord_71 rfl (lv_at hl 1 rfl) ?_
  refine lv_iload_n hC.1 hC.2.1 d_Div_nextWord_72 rfl (lv_at hl 3 rfl) ?_
  refine lv_aload_n hC.1 hC.2.1 d_Div_nextWord_73 rfl (lv_at hl 2 rfl) ?_
  refine lv_iconst (v := nI 0) hC.1 hC.2.1 d_Div_nextWord_74 (by decide) ?_
  refine lv_iload_n hC.1 hC.2.1 d_Div_nextWord_75 rfl (lv_at hl 4 rfl) ?_
  refine lv_lload hC.1 hC.2.1 d_Div_nextWord_76 (lv_at hl 0 rfl) ?_
  refine wm_callSl hC hK hM (As := [.ref (ad (19 + i)), .int (nI (a0)), .ref (ad (19 + j)), .int (nI (0)), .int (nI (cnt)), .long (lN (q))]) (rest := [.long (lN (wm_u (wd i (a0 + cnt))))]) (c_Rows_takeMultiple l D ad cA cR _ ln wd i j a0 0 cnt q hi hj hji hqlt (by omega) (by omega)) kc_Rows_takeMultiple km_Div_57 ki_Rows ks_Rows_takeMultiple kd_Rows_takeMultiple ⟨rfl, rfl⟩ ⟨Nat.le_of_ble_eq_true rfl, Nat.le_of_ble_eq_true rfl⟩ rfl hl.1 (Nat.le_of_ble_eq_true rfl) d_Div_nextWord_78 (fun r u H locs hp hM => ?_)
  obtain ⟨b, f, rfl, rfl, hS, hb, hf⟩ := hp
  rw [wm_off_0] at hS
  have hP := wm_v_lt (wm_off f a0) cnt
  have hv := wm_v_lt (wd j) cnt
  have hT := wm_v_s (wm_off (wd i) a0) cnt
  have hend : wm_off (wd i) a0 cnt = wd i (a0 + cnt) := rfl
  rw [hend] at hT
  have z0 : wm_u (nI 0) = 0 := by decide
  have hM : wm_M D ad cA cR s (ln) (va_up wd i f) H locs := by
    exact hM
  rcases Nat.lt_or_ge (wm_v (wm_off (wd i) a0) (cnt + 1)) (q * wm_v (wd j) cnt) with hc | hc
  · obtain ⟨hbh, hX⟩ := wm_nw_b hP hS hT hc (Nat.lt_trans k1 (Nat.add_lt_add_left hv _))
    have hq1 : 1 ≤ q := by
      rcases Nat.eq_zero_or_pos q with z | z
      · rw [z, Nat.zero_mul] at hc
        exact absurd hc (Nat.not_lt_zero _)
      · exact z
    obtain ⟨q1, rfl⟩ : ∃ z, q = z + 1 := ⟨q - 1, by omega⟩
    rw [Nat.add_mul, Nat.one_mul] at k1 hc hX
    refine nz_lsubn hC d_Div_nextWord_81 ?_
    refine nv_topl (y := -1) (by rw [show ((wm_u (wd i (a0 + cnt)) : Nat) : Int) - ((b : Nat) : Int) = -1 by omega]; decide) ?_
    refine lv_lstore (lv' := [(9, .long (-1)), (7, .long (lN (q1 + 1))), (0, .ref (ad (19 + i))), (1, .ref (ad (19 + j))), (2, .int (nI (a0))), (3, .int (nI (cnt))), (4, .int (nI (a0 + cnt)))]) hC.1 hC.2.1 d_Div_nextWord_82 hl (by decide) rfl (fun ls hl => ?_)
    refine lv_lload hC.1 hC.2.1 d_Div_nextWord_84 (lv_at hl 0 rfl) ?_
    refine lv_lconst (v := lN 0) hC.1 hC.2.1 d_Div_nextWord_86 (by decide) ?_
    refine W.lcmp hC.1 hC.2.1 d_Div_nextWord_87 ?_
    refine lv_if_ge (tgt := 111) hC.1 hC.2.1 d_Div_nextWord_88 (by decide) (fun hg => ?_) (fun hg => ?_)
    · exact absurd hg (by decide)
    · refine lv_lload hC.1 hC.2.1 d_Div_nextWord_91 (lv_at hl 1 rfl) ?_
      refine lv_lconst (v := lN 1) hC.1 hC.2.1 d_Div_nextWord_93 (by decide) ?_
      refine nv_lsub hC (by omega) d_Div_nextWord_94 ?_
      refine lv_lstore (lv' := [(7, .long (lN (q1))), (9, .long (-1)), (0, .ref (ad (19 + i))), (1, .ref (ad (19 + j))), (2, .int (nI (a0))), (3, .int (nI (cnt))), (4, .int (nI (a0 + cnt)))]) hC.1 hC.2.1 d_Div_nextWord_95 hl (by decide) rfl (fun ls hl => ?_)
      refine lv_lload hC.1 hC.2.1 d_Div_nextWord_97 (lv_at hl 1 rfl) ?_
      refine lv_aload_n hC.1 hC.2.1 d_Div_nextWord_99 rfl (lv_at hl 2 rfl) ?_
      refine lv_iload_n hC.1 hC.2.1 d_Div_nextWord_100 rfl (lv_at hl 4 rfl) ?_
      refine lv_aload_n hC.1 hC.2.1 d_Div_nextWord_101 rfl (lv_at hl 3 rfl) ?_
      refine lv_iconst (v := nI 0) hC.1 hC.2.1 d_Div_nextWord_102 (by decide) ?_
      refine lv_iload_n hC.1 hC.2.1 d_Div_nextWord_103 rfl (lv_at hl 5 rfl) ?_
      refine lv_lconst (v := lN 0) hC.1 hC.2.1 d_Div_nextWord_104 (by decide) ?_
      refine wm_callSl hC hK hM (As := [.ref (ad (19 + i)), .int (nI (a0)), .ref (ad (19 + j)), .int (nI (0)), .int (nI (cnt)), .long (lN (0))]) (rest := [.long (-1)]) (c_Rows_addStretch l D ad cA cR _ ln (va_up wd i f) i j a0 0 cnt 0 hi hj hji (by decide) (by omega) (by omega)) kc_Rows_addStretch km_Div_61 ki_Rows ks_Rows_addStretch kd_Rows_addStretch ⟨rfl, rfl⟩ ⟨Nat.le_of_ble_eq_true rfl, Nat.le_of_ble_eq_true rfl⟩ rfl hl.1 (Nat.le_of_ble_eq_true rfl) d_Div_nextWord_105 (fun r u H locs hp hM => ?_)
      obtain ⟨c2, f2, rfl, rfl, hS2, hc2, hf2⟩ := hp
      rw [va_up_self] at hS2 hf2
      rw [va_up_ne _ _ hji, wm_off_0, Nat.add_zero] at hS2
      have hP2 := wm_v_lt (wm_off f2 a0) cnt
      obtain ⟨e1, e2⟩ := wm_nw_c hP2 hS2 hX hc k1 hv
      subst e1
      have hM : wm_M D ad cA cR s (ln) (va_up wd i f2) H locs := by rw [wm_uu] at hM; exact hM
      refine lv_ladd hC.1 hC.2.1 d_Div_nextWord_108 ?_
      refine nv_topl (y := lN (0)) (by decide) ?_
      refine lv_lstore (lv' := [(9, .long (lN (0))), (7, .long (lN (q1))), (0, .ref (ad (19 + i))), (1, .ref (ad (19 + j))), (2, .int (nI (a0))), (3, .int (nI (cnt))), (4, .int (nI (a0 + cnt)))]) hC.1 hC.2.1 d_Div_nextWord_109 hl (by decide) rfl (fun ls hl => ?_)
      refine lv_aload_n hC.1 hC.2.1 d_Div_nextWord_111 rfl (lv_at hl 2 rfl) ?_
      refine lv_iload hC.1 hC.2.1 d_Div_nextWord_112 (lv_at hl 6 rfl) ?_
      refine lv_lload hC.1 hC.2.1 d_Div_nextWord_114 (lv_at hl 0 rfl) ?_
      refine nv_l2i hC d_Div_nextWord_116 ?_
      refine wm_ast_s hC hK hM (k := a0 + cnt) hi (by omega) d_Div_nextWord_117 (fun H locs hM => ?_)
      refine lv_lload hC.1 hC.2.1 d_Div_nextWord_118 (lv_at hl 1 rfl) ?_
      refine nv_l2i hC d_Div_nextWord_120 ?_
      refine hret q1 (upd f2 (a0 + cnt) (nI 0)) _ H locs ls d_Div_nextWord_121 ⟨by omega, ?_, ?_, ?_⟩ hM
      · rw [wm_off_upd, wm_v_upds, z0, Nat.zero_mul, Nat.add_zero]
        exact e2
      · rw [Nat.add_mul, Nat.one_mul]
        exact hc
      · intro k hk
        rw [pk_un (by omega), hf2 k (by omega), hf k (by omega)]
  · obtain ⟨hbh, hX⟩ := wm_nw_a hP hS hT hc (by rw [Nat.add_mul, Nat.one_mul] at k2; exact Nat.lt_trans k2 (Nat.add_lt_add_left hv _))
    refine nz_lsubn hC d_Div_nextWord_81 ?_
    refine nv_topl (y := lN (0)) (by rw [show ((wm_u (wd i (a0 + cnt)) : Nat) : Int) - ((b : Nat) : Int) = 0 by omega]; decide) ?_
    refine lv_lstore (lv' := [(9, .long (lN (0))), (7, .long (lN (q))), (0, .ref (ad (19 + i))), (1, .ref (ad (19 + j))), (2, .int (nI (a0))), (3, .int (nI (cnt))), (4, .int (nI (a0 + cnt)))]) hC.1 hC.2.1 d_Div_nextWord_82 hl (by decide) rfl (fun ls hl => ?_)
    refine lv_lload hC.1 hC.2.1 d_Div_nextWord_84 (lv_at hl 0 rfl) ?_
    refine lv_lconst (v := lN 0) hC.1 hC.2.1 d_Div_nextWord_86 (by decide) ?_
    refine nv_lc_ge (tgt := 111) hC (by decide) (by decide) d_Div_nextWord_87 d_Div_nextWord_88 (by decide) (fun hg => ?_) (fun hg => ?_)
    · refine lv_aload_n hC.1 hC.2.1 d_Div_nextWord_111 rfl (lv_at hl 2 rfl) ?_
      refine lv_iload hC.1 hC.2.1 d_Div_nextWord_112 (lv_at hl 6 rfl) ?_
      refine lv_lload hC.1 hC.2.1 d_Div_nextWord_114 (lv_at hl 0 rfl) ?_
      refine nv_l2i hC d_Div_nextWord_116 ?_
      refine wm_ast_s hC hK hM (k := a0 + cnt) hi (by omega) d_Div_nextWord_117 (fun H locs hM => ?_)
      refine lv_lload hC.1 hC.2.1 d_Div_nextWord_118 (lv_at hl 1 rfl) ?_
      refine nv_l2i hC d_Div_nextWord_120 ?_
      refine hret q (upd f (a0 + cnt) (nI 0)) _ H locs ls d_Div_nextWord_121 ⟨hqlt, ?_, k2, ?_⟩ hM
      · rw [wm_off_upd, wm_v_upds, z0, Nat.zero_mul, Nat.add_zero]
        exact hX
      · intro k hk
        rw [pk_un (by omega), hf k (by omega)]
    · exact absurd hg (Nat.lt_irrefl _)
set_option maxHeartbeats 4000000 in
set_option maxRecDepth 100000 in
theorem c_Div_nextWord (l : Launch) (D : va_G) (ad : Nat → Nat) (cA cR : ClassId) (sz : Nat) (ln : Nat → Nat) (wd : Nat → Nat → Int32) (i j a0 cnt : Nat) (hi : i < 19) (hj : j < 19) (hji : j ≠ i) (hcnt : 1 ≤ cnt) (hfit : a0 + cnt < 2050) (ht : 2147483648 ≤ wm_u (wd j (cnt - 1))) (hlt : wm_v (wm_off (wd i) a0) (cnt + 1) < wm_v (wd j) cnt * 4294967296) : Met l y_Div_nextWord (Cond.code y_Div_nextWord b_Div_nextWord 11 (some .int) :: lw_T) ({ frames := 2, cells := 0, slots := 0, locals := 56 }) (va_Pc [.ref (ad (19 + i)), .ref (ad (19 + j)), .int (nI (a0)), .int (nI (cnt))] (wm_B D ad cA cR sz ln wd)) (va_Qi (fun (r : Int32) (u : wm_St) => ∃ (q : Nat) (f : Nat → Int32), r = nI q ∧ q < 4294967296 ∧ u = (ln, va_up wd i f) ∧ wm_v (wm_off f a0) (cnt + 1) + q * wm_v (wd j) cnt = wm_v (wm_off (wd i) a0) (cnt + 1) ∧ wm_v (wm_off (wd i) a0) (cnt + 1) < (q + 1) * wm_v (wd j) cnt ∧ ∀ k, (k < a0 ∨ a0 + cnt < k) → f k = wd i k) (wm_E D ad cA cR sz) (wm_A ad sz)) 0 0 (wm_A ad sz) := by
  refine wm_met l (by decide) (Nat.le_of_ble_eq_true rfl) ?_
  intro p e s m below meth c ls hsz hC hK hr hlk hM hl
  subst hsz
  have hC : CallFix p m c b_Div_nextWord 11 s _ lw_T R_Div := hC
  have hl : lv_has ls 11 [(0, .ref (ad (19 + i))), (1, .ref (ad (19 + j))), (2, .int (nI (a0))), (3, .int (nI (cnt)))] := hl
  refine lv_iload_n hC.1 hC.2.1 d_Div_nextWord_0 rfl (lv_at hl 2 rfl) ?_
  refine lv_iload_n hC.1 hC.2.1 d_Div_nextWord_1 rfl (lv_at hl 3 rfl) ?_
  refine nv_iadd hC d_Div_nextWord_2 ?_
  refine lv_istore (lv' := [(4, .int (nI (a0 + cnt))), (0, .ref (ad (19 + i))), (1, .ref (ad (19 + j))), (2, .int (nI (a0))), (3, .int (nI (cnt)))]) hC.1 hC.2.1 d_Div_nextWord_3 hl (by decide) rfl (fun ls hl => ?_)
  refine lv_iload_n hC.1 hC.2.1 d_Div_nextWord_5 rfl (lv_at hl 4 rfl) ?_
  refine lv_iconst (v := nI 1) hC.1 hC.2.1 d_Div_nextWord_6 (by decide) ?_
  refine nv_icmp_le (tgt := 19) hC (by omega) (by omega) d_Div_nextWord_7 (by decide) (fun h1 => ?_) (fun h1 => ?_)
  · obtain rfl : cnt = 1 := by omega
    refine lv_iconst (v := nI 0) hC.1 hC.2.1 d_Div_nextWord_19 (by decide) ?_
    refine lv_istore (lv' := [(5, .int (nI (0))), (4, .int (nI (a0 + 1))), (0, .ref (ad (19 + i))), (1, .ref (ad (19 + j))), (2, .int (nI (a0))), (3, .int (nI (1)))]) hC.1 hC.2.1 d_Div_nextWord_20 hl (by decide) rfl (fun ls hl => ?_)
    refine lv_iload_n hC.1 hC.2.1 d_Div_nextWord_22 rfl (lv_at hl 5 rfl) ?_
    refine lv_iconst (v := nI 1) hC.1 hC.2.1 d_Div_nextWord_23 (by decide) ?_
    refine nv_icmp_le (tgt := 35) hC (by omega) (by omega) d_Div_nextWord_24 (by decide) (fun h2 => ?_) (fun h2 => ?_)
    · refine lv_iconst (v := nI 0) hC.1 hC.2.1 d_Div_nextWord_35 (by decide) ?_
      refine lv_istore (lv' := [(6, .int (nI (0))), (5, .int (nI (0))), (4, .int (nI (a0 + 1))), (0, .ref (ad (19 + i))), (1, .ref (ad (19 + j))), (2, .int (nI (a0))), (3, .int (nI (1)))]) hC.1 hC.2.1 d_Div_nextWord_36 hl (by decide) rfl (fun ls hl => ?_)
      refine lv_aload_n hC.1 hC.2.1 d_Div_nextWord_38 rfl (lv_at hl 3 rfl) ?_
      refine lv_iload hC.1 hC.2.1 d_Div_nextWord_39 (lv_at hl 2 rfl) ?_
      refine wm_ald hC hK hM (j := i) (k := a0 + 1) hi (by omega) d_Div_nextWord_41 ?_
      refine lv_aload_n hC.1 hC.2.1 d_Div_nextWord_42 rfl (lv_at hl 3 rfl) ?_
      refine lv_iload hC.1 hC.2.1 d_Div_nextWord_43 (lv_at hl 2 rfl) ?_
      refine lv_iconst (v := nI 1) hC.1 hC.2.1 d_Div_nextWord_45 (by decide) ?_
      refine nv_isub hC (by omega) d_Div_nextWord_46 ?_
      refine nv_top (y := nI (a0 + 0)) rfl ?_
      refine wm_ald hC hK hM (j := i) (k := a0 + 0) hi (by omega) d_Div_nextWord_47 ?_
      refine lv_iload hC.1 hC.2.1 d_Div_nextWord_48 (lv_at hl 1 rfl) ?_
      refine lv_aload_n hC.1 hC.2.1 d_Div_nextWord_50 rfl (lv_at hl 4 rfl) ?_
      refine lv_iload_n hC.1 hC.2.1 d_Div_nextWord_51 rfl (lv_at hl 6 rfl) ?_
      refine lv_iconst (v := nI 1) hC.1 hC.2.1 d_Div_nextWord_52 (by decide) ?_
      refine nv_isub hC (by omega) d_Div_nextWord_53 ?_
      refine nv_top (y := nI (0)) rfl ?_
      refine wm_ald hC hK hM (j := j) (k := 0) hj (by omega) d_Div_nextWord_54 ?_
      refine lv_iload hC.1 hC.2.1 d_Div_nextWord_55 (lv_at hl 0 rfl) ?_
      have hh := wm_nw_top (g := wm_off (wd i) a0) (dv := wd j) (c := 0) hlt
      refine wm_callPl hC hK hM (As := [.int (wd i (a0 + 1)), .int (wd i (a0 + 0)), .int (nI (0)), .int (wd j 0), .int (nI (0))]) (rest := []) (c_Rows_guess l _ (wd i (a0 + 1)) (wd i (a0 + 0)) (nI 0) (wd j (0)) (nI 0) ht hh) kc_Rows_guess km_Div_49 ki_Rows ks_Rows_guess kd_Rows_guess ⟨rfl, rfl⟩ ⟨Nat.le_of_ble_eq_true rfl, Nat.le_of_ble_eq_true rfl⟩ rfl hl.1 (Nat.le_of_ble_eq_true rfl) d_Div_nextWord_57 (fun r H locs hp hM => ?_)
      subst hp
      obtain ⟨k1, k2⟩ := wm_nw1 (g := wm_off (wd i) a0) (dv := wd j) ht hlt rfl
      exact tl_Div_nextWord hC hK ln wd i j a0 (1) hi hj hji hcnt hfit _ (wm_gs_lt _ _) k1 k2 (fun q f pc H locs ls hd hp hM => wm_iret hC hK hM hr hlk ⟨q, f, rfl, hp.1, rfl, hp.2⟩ hd) H locs ls hM (lv_sub hl [3, 4, 5, 6, 2] rfl)
    · exact absurd h2 (by omega)
  · obtain ⟨c0, rfl⟩ : ∃ z, cnt = z + 2 := ⟨cnt - 2, by omega⟩
    refine lv_aload_n hC.1 hC.2.1 d_Div_nextWord_10 rfl (lv_at hl 1 rfl) ?_
    refine lv_iload hC.1 hC.2.1 d_Div_nextWord_11 (lv_at hl 0 rfl) ?_
    refine lv_iconst (v := nI 2) hC.1 hC.2.1 d_Div_nextWord_13 (by decide) ?_
    refine nv_isub hC (by omega) d_Div_nextWord_14 ?_
    refine nv_top (y := nI (a0 + c0)) rfl ?_
    refine wm_ald hC hK hM (j := i) (k := a0 + c0) hi (by omega) d_Div_nextWord_15 ?_
    refine lv_goto (tgt := 20) hC.1 hC.2.1 d_Div_nextWord_16 (by decide) ?_
    refine lv_istore (lv' := [(5, .int (wd i (a0 + c0))), (4, .int (nI (a0 + (c0 + 2)))), (0, .ref (ad (19 + i))), (1, .ref (ad (19 + j))), (2, .int (nI (a0))), (3, .int (nI (c0 + 2)))]) hC.1 hC.2.1 d_Div_nextWord_20 hl (by decide) rfl (fun ls hl => ?_)
    refine lv_iload_n hC.1 hC.2.1 d_Div_nextWord_22 rfl (lv_at hl 5 rfl) ?_
    refine lv_iconst (v := nI 1) hC.1 hC.2.1 d_Div_nextWord_23 (by decide) ?_
    refine nv_icmp_le (tgt := 35) hC (by omega) (by omega) d_Div_nextWord_24 (by decide) (fun h2 => ?_) (fun h2 => ?_)
    · exact absurd h2 (by omega)
    · refine lv_aload_n hC.1 hC.2.1 d_Div_nextWord_27 rfl (lv_at hl 3 rfl) ?_
      refine lv_iload_n hC.1 hC.2.1 d_Div_nextWord_28 rfl (lv_at hl 5 rfl) ?_
      refine lv_iconst (v := nI 2) hC.1 hC.2.1 d_Div_nextWord_29 (by decide) ?_
      refine nv_isub hC (by omega) d_Div_nextWord_30 ?_
      refine nv_top (y := nI (c0)) rfl ?_
      refine wm_ald hC hK hM (j := j) (k := c0) hj (by omega) d_Div_nextWord_31 ?_
      refine lv_goto (tgt := 36) hC.1 hC.2.1 d_Div_nextWord_32 (by decide) ?_
      refine lv_istore (lv' := [(6, .int (wd j c0)), (5, .int (wd i (a0 + c0))), (4, .int (nI (a0 + (c0 + 2)))), (0, .ref (ad (19 + i))), (1, .ref (ad (19 + j))), (2, .int (nI (a0))), (3, .int (nI (c0 + 2)))]) hC.1 hC.2.1 d_Div_nextWord_36 hl (by decide) rfl (fun ls hl => ?_)
      refine lv_aload_n hC.1 hC.2.1 d_Div_nextWord_38 rfl (lv_at hl 3 rfl) ?_
      refine lv_iload hC.1 hC.2.1 d_Div_nextWord_39 (lv_at hl 2 rfl) ?_
      refine wm_ald hC hK hM (j := i) (k := a0 + (c0 + 2)) hi (by omega) d_Div_nextWord_41 ?_
      refine lv_aload_n hC.1 hC.2.1 d_Div_nextWord_42 rfl (lv_at hl 3 rfl) ?_
      refine lv_iload hC.1 hC.2.1 d_Div_nextWord_43 (lv_at hl 2 rfl) ?_
      refine lv_iconst (v := nI 1) hC.1 hC.2.1 d_Div_nextWord_45 (by decide) ?_
      refine nv_isub hC (by omega) d_Div_nextWord_46 ?_
      refine nv_top (y := nI (a0 + (c0 + 1))) rfl ?_
      refine wm_ald hC hK hM (j := i) (k := a0 + (c0 + 1)) hi (by omega) d_Div_nextWord_47 ?_
      refine lv_iload hC.1 hC.2.1 d_Div_nextWord_48 (lv_at hl 1 rfl) ?_
      refine lv_aload_n hC.1 hC.2.1 d_Div_nextWord_50 rfl (lv_at hl 4 rfl) ?_
      refine lv_iload_n hC.1 hC.2.1 d_Div_nextWord_51 rfl (lv_at hl 6 rfl) ?_
      refine lv_iconst (v := nI 1) hC.1 hC.2.1 d_Div_nextWord_52 (by decide) ?_
      refine nv_isub hC (by omega) d_Div_nextWord_53 ?_
      refine nv_top (y := nI (c0 + 1)) rfl ?_
      refine wm_ald hC hK hM (j := j) (k := c0 + 1) hj (by omega) d_Div_nextWord_54 ?_
      refine lv_iload hC.1 hC.2.1 d_Div_nextWord_55 (lv_at hl 0 rfl) ?_
      have hh := wm_nw_top (g := wm_off (wd i) a0) (dv := wd j) (c := c0 + 1) hlt
      refine wm_callPl hC hK hM (As := [.int (wd i (a0 + (c0 + 2))), .int (wd i (a0 + (c0 + 1))), .int (wd i (a0 + c0)), .int (wd j (c0 + 1)), .int (wd j c0)]) (rest := []) (c_Rows_guess l _ (wd i (a0 + (c0 + 2))) (wd i (a0 + (c0 + 1))) (wd i (a0 + c0)) (wd j (c0 + 1)) (wd j c0) ht hh) kc_Rows_guess km_Div_49 ki_Rows ks_Rows_guess kd_Rows_guess ⟨rfl, rfl⟩ ⟨Nat.le_of_ble_eq_true rfl, Nat.le_of_ble_eq_true rfl⟩ rfl hl.1 (Nat.le_of_ble_eq_true rfl) d_Div_nextWord_57 (fun r H locs hp hM => ?_)
      subst hp
      obtain ⟨k1, k2⟩ := wm_nw2 (g := wm_off (wd i) a0) (dv := wd j) ht hlt rfl
      exact tl_Div_nextWord hC hK ln wd i j a0 (c0 + 2) hi hj hji hcnt hfit _ (wm_gs_lt _ _) k1 k2 (fun q f pc H locs ls hd hp hM => wm_iret hC hK hM hr hlk ⟨q, f, rfl, hp.1, rfl, hp.2⟩ hd) H locs ls hM (lv_sub hl [3, 4, 5, 6, 2] rfl)
