set_option maxHeartbeats 4000000 in
set_option maxRecDepth 100000 in
theorem c_Mill_compare (l : Launch) (D : va_G) (ad : Nat → Nat) (cA cR : ClassId) (sz : Nat) (ln : Nat → Nat) (wd : Nat → Nat → Int32) (N : Nat → Nat) (hR : wm_R N ln wd) (x y : Int32) : Met l y_Mill_compare (Cond.code y_Mill_compare b_Mill_compare 3 (some .int) :: lw_T) ({ frames := 1, cells := 0, slots := 0, locals := 22 }) (va_Pc [.ref (ad 38), .int (x), .int (y)] (wm_B D ad cA cR sz ln wd)) (va_Qi (fun (r : Int32) (u : wm_St) => r = sp_compare N x y ∧ u = (ln, wd)) (wm_E D ad cA cR sz) (wm_A ad sz)) 0 0 (wm_A ad sz) := by
  refine wm_met l (by decide) (Nat.le_of_ble_eq_true rfl) ?_
  intro p e s m below meth c ls hsz hC hK hr hlk hM hl
  subst hsz
  have hC : CallFix p m c b_Mill_compare 3 s _ lw_T R_Mill := hC
  have hl : lv_has ls 3 [(0, .ref (ad 38)), (1, .int (x)), (2, .int (y))] := hl
  obtain ⟨⟨Mx, hok, he⟩, hL⟩ := id hR
  refine lv_iload_n hC.1 hC.2.1 d_Mill_compare_0 rfl (lv_at hl 1 rfl) ?_
  refine wm_callPi hC hK hM (As := [.int (x)]) (rest := []) (c_Mill_isRegister l _ x) kc_Mill_isRegister km_Mill_26 ki_Mill ks_Mill_isRegister kd_Mill_isRegister ⟨rfl, rfl⟩ ⟨Nat.le_of_ble_eq_true rfl, Nat.le_of_ble_eq_true rfl⟩ rfl hl.1 (Nat.le_of_ble_eq_true rfl) d_Mill_compare_1 (fun r H locs hp hM => ?_)
  rcases hp with ⟨a, ha, rfl, rfl⟩ | ⟨hno, rfl⟩
  · refine nv_if_eq (tgt := 32) hC (by omega) d_Mill_compare_4 (by decide) (fun hz => ?_) (fun hz => ?_)
    · exact absurd hz (by decide)
    · refine lv_iload_n hC.1 hC.2.1 d_Mill_compare_7 rfl (lv_at hl 2 rfl) ?_
      refine wm_callPi hC hK hM (As := [.int (y)]) (rest := []) (c_Mill_isRegister l _ y) kc_Mill_isRegister km_Mill_26 ki_Mill ks_Mill_isRegister kd_Mill_isRegister ⟨rfl, rfl⟩ ⟨Nat.le_of_ble_eq_true rfl, Nat.le_of_ble_eq_true rfl⟩ rfl hl.1 (Nat.le_of_ble_eq_true rfl) d_Mill_compare_8 (fun r H locs hp hM => ?_)
      rcases hp with ⟨b, hb, rfl, rfl⟩ | ⟨hno, rfl⟩
      · refine nv_if_eq (tgt := 32) hC (by omega) d_Mill_compare_11 (by decide) (fun hz => ?_) (fun hz => ?_)
        · exact absurd hz (by decide)
        · refine lv_aload_n hC.1 hC.2.1 d_Mill_compare_14 rfl (lv_at hl 0 rfl) ?_
          refine wm_regs hC hK hM kf_Mill_11 d_Mill_compare_15 ?_
          refine lv_iload_n hC.1 hC.2.1 d_Mill_compare_18 rfl (lv_at hl 1 rfl) ?_
          refine wm_reg hC hK hM (i := a) (by omega) d_Mill_compare_19 ?_
          refine lv_aload_n hC.1 hC.2.1 d_Mill_compare_20 rfl (lv_at hl 0 rfl) ?_
          refine wm_regs hC hK hM kf_Mill_11 d_Mill_compare_21 ?_
          refine lv_iload_n hC.1 hC.2.1 d_Mill_compare_24 rfl (lv_at hl 2 rfl) ?_
          refine wm_reg hC hK hM (i := b) (by omega) d_Mill_compare_25 ?_
          refine wm_callVi hC hK hM (As := [.ref (ad b)]) (rest := []) (wm_at_o (by omega)) rfl (c_Whole_order l D ad cA cR _ ln wd a b (Mx a) (Mx b) (by omega) (by omega) (hok a (by omega)) (hok b (by omega))) kc_Whole_order km_Mill_58 ki_Whole kn_Whole_order ke_Whole_order kd_Whole_order ⟨rfl, rfl⟩ ⟨Nat.le_of_ble_eq_true rfl, Nat.le_of_ble_eq_true rfl⟩ rfl hl.1 (Nat.le_of_ble_eq_true rfl) d_Mill_compare_26 (fun r u H locs hp hM => ?_)
          obtain ⟨hq, rfl⟩ := hp
          have hM : wm_M D ad cA cR s (ln) (wd) H locs := by
            exact hM
          refine lv_goto (tgt := 34) hC.1 hC.2.1 d_Mill_compare_29 (by decide) ?_
          exact wm_iret hC hK hM hr hlk ⟨by simp only [sp_compare, sp_ix_ok ha, sp_ix_ok hb]; rw [hq, he a ha, he b hb], rfl⟩ d_Mill_compare_34
      · refine nv_if_eq (tgt := 32) hC (by omega) d_Mill_compare_11 (by decide) (fun hz => ?_) (fun hz => ?_)
        · refine lv_bipush (v := -2) hC.1 hC.2.1 d_Mill_compare_32 (by decide) ?_
          exact wm_iret hC hK hM hr hlk (⟨by simp only [sp_compare, sp_ix_ok ha, sp_ix_no hno] <;> rfl, rfl⟩) d_Mill_compare_34
        · exact absurd rfl hz
  · refine nv_if_eq (tgt := 32) hC (by omega) d_Mill_compare_4 (by decide) (fun hz => ?_) (fun hz => ?_)
    · refine lv_bipush (v := -2) hC.1 hC.2.1 d_Mill_compare_32 (by decide) ?_
      exact wm_iret hC hK hM hr hlk (⟨by simp only [sp_compare, sp_ix_no hno] <;> rfl, rfl⟩) d_Mill_compare_34
    · exact absurd rfl hz
set_option maxHeartbeats 4000000 in
set_option maxRecDepth 100000 in
theorem c_Mill_bits (l : Launch) (D : va_G) (ad : Nat → Nat) (cA cR : ClassId) (sz : Nat) (ln : Nat → Nat) (wd : Nat → Nat → Int32) (N : Nat → Nat) (hR : wm_R N ln wd) (x : Int32) : Met l y_Mill_bits (Cond.code y_Mill_bits b_Mill_bits 2 (some .int) :: lw_T) ({ frames := 2, cells := 0, slots := 0, locals := 41 }) (va_Pc [.ref (ad 38), .int (x)] (wm_B D ad cA cR sz ln wd)) (va_Qi (fun (r : Int32) (u : wm_St) => r = sp_bits N x ∧ u = (ln, wd)) (wm_E D ad cA cR sz) (wm_A ad sz)) 0 0 (wm_A ad sz) := by
  refine wm_met l (by decide) (Nat.le_of_ble_eq_true rfl) ?_
  intro p e s m below meth c ls hsz hC hK hr hlk hM hl
  subst hsz
  have hC : CallFix p m c b_Mill_bits 2 s _ lw_T R_Mill := hC
  have hl : lv_has ls 2 [(0, .ref (ad 38)), (1, .int (x))] := hl
  obtain ⟨⟨Mx, hok, he⟩, hL⟩ := id hR
  refine lv_iload_n hC.1 hC.2.1 d_Mill_bits_0 rfl (lv_at hl 1 rfl) ?_
  refine wm_callPi hC hK hM (As := [.int (x)]) (rest := []) (c_Mill_isRegister l _ x) kc_Mill_isRegister km_Mill_26 ki_Mill ks_Mill_isRegister kd_Mill_isRegister ⟨rfl, rfl⟩ ⟨Nat.le_of_ble_eq_true rfl, Nat.le_of_ble_eq_true rfl⟩ rfl hl.1 (Nat.le_of_ble_eq_true rfl) d_Mill_bits_1 (fun r H locs hp hM => ?_)
  rcases hp with ⟨a, ha, rfl, rfl⟩ | ⟨hno, rfl⟩
  · refine nv_if_eq (tgt := 19) hC (by omega) d_Mill_bits_4 (by decide) (fun hz => ?_) (fun hz => ?_)
    · exact absurd hz (by decide)
    · refine lv_aload_n hC.1 hC.2.1 d_Mill_bits_7 rfl (lv_at hl 0 rfl) ?_
      refine wm_regs hC hK hM kf_Mill_11 d_Mill_bits_8 ?_
      refine lv_iload_n hC.1 hC.2.1 d_Mill_bits_11 rfl (lv_at hl 1 rfl) ?_
      refine wm_reg hC hK hM (i := a) (by omega) d_Mill_bits_12 ?_
      refine wm_callVi hC hK hM (As := []) (rest := []) (wm_at_o (by omega)) rfl (c_Whole_size l D ad cA cR _ ln wd a (Mx a) (by omega) (hok a (by omega))) kc_Whole_size km_Mill_30 ki_Whole kn_Whole_size ke_Whole_size kd_Whole_size ⟨rfl, rfl⟩ ⟨Nat.le_of_ble_eq_true rfl, Nat.le_of_ble_eq_true rfl⟩ rfl hl.1 (Nat.le_of_ble_eq_true rfl) d_Mill_bits_13 (fun r u H locs hp hM => ?_)
      obtain ⟨hq, rfl⟩ := hp
      have hM : wm_M D ad cA cR s (ln) (wd) H locs := by
        exact hM
      refine lv_goto (tgt := 20) hC.1 hC.2.1 d_Mill_bits_16 (by decide) ?_
      exact wm_iret hC hK hM hr hlk ⟨by simp only [sp_bits, sp_ix_ok ha]; rw [hq, he a ha], rfl⟩ d_Mill_bits_20
  · refine nv_if_eq (tgt := 19) hC (by omega) d_Mill_bits_4 (by decide) (fun hz => ?_) (fun hz => ?_)
    · refine lv_iconst (v := -1) hC.1 hC.2.1 d_Mill_bits_19 (by decide) ?_
      exact wm_iret hC hK hM hr hlk (⟨by simp only [sp_bits, sp_ix_no hno] <;> rfl, rfl⟩) d_Mill_bits_20
    · exact absurd rfl hz
set_option maxHeartbeats 4000000 in
set_option maxRecDepth 100000 in
theorem c_Mill_ones (l : Launch) (D : va_G) (ad : Nat → Nat) (cA cR : ClassId) (sz : Nat) (ln : Nat → Nat) (wd : Nat → Nat → Int32) (N : Nat → Nat) (hR : wm_R N ln wd) (x : Int32) : Met l y_Mill_ones (Cond.code y_Mill_ones b_Mill_ones 2 (some .int) :: lw_T) ({ frames := 2, cells := 0, slots := 0, locals := 42 }) (va_Pc [.ref (ad 38), .int (x)] (wm_B D ad cA cR sz ln wd)) (va_Qi (fun (r : Int32) (u : wm_St) => r = sp_ones N x ∧ u = (ln, wd)) (wm_E D ad cA cR sz) (wm_A ad sz)) 0 0 (wm_A ad sz) := by
  refine wm_met l (by decide) (Nat.le_of_ble_eq_true rfl) ?_
  intro p e s m below meth c ls hsz hC hK hr hlk hM hl
  subst hsz
  have hC : CallFix p m c b_Mill_ones 2 s _ lw_T R_Mill := hC
  have hl : lv_has ls 2 [(0, .ref (ad 38)), (1, .int (x))] := hl
  obtain ⟨⟨Mx, hok, he⟩, hL⟩ := id hR
  refine lv_iload_n hC.1 hC.2.1 d_Mill_ones_0 rfl (lv_at hl 1 rfl) ?_
  refine wm_callPi hC hK hM (As := [.int (x)]) (rest := []) (c_Mill_isRegister l _ x) kc_Mill_isRegister km_Mill_26 ki_Mill ks_Mill_isRegister kd_Mill_isRegister ⟨rfl, rfl⟩ ⟨Nat.le_of_ble_eq_true rfl, Nat.le_of_ble_eq_true rfl⟩ rfl hl.1 (Nat.le_of_ble_eq_true rfl) d_Mill_ones_1 (fun r H locs hp hM => ?_)
  rcases hp with ⟨a, ha, rfl, rfl⟩ | ⟨hno, rfl⟩
  · refine nv_if_eq (tgt := 19) hC (by omega) d_Mill_ones_4 (by decide) (fun hz => ?_) (fun hz => ?_)
    · exact absurd hz (by decide)
    · refine lv_aload_n hC.1 hC.2.1 d_Mill_ones_7 rfl (lv_at hl 0 rfl) ?_
      refine wm_regs hC hK hM kf_Mill_11 d_Mill_ones_8 ?_
      refine lv_iload_n hC.1 hC.2.1 d_Mill_ones_11 rfl (lv_at hl 1 rfl) ?_
      refine wm_reg hC hK hM (i := a) (by omega) d_Mill_ones_12 ?_
      refine wm_callVi hC hK hM (As := []) (rest := []) (wm_at_o (by omega)) rfl (c_Whole_countOnes l D ad cA cR _ ln wd a (Mx a) (by omega) (hok a (by omega))) kc_Whole_countOnes km_Mill_107 ki_Whole kn_Whole_countOnes ke_Whole_countOnes kd_Whole_countOnes ⟨rfl, rfl⟩ ⟨Nat.le_of_ble_eq_true rfl, Nat.le_of_ble_eq_true rfl⟩ rfl hl.1 (Nat.le_of_ble_eq_true rfl) d_Mill_ones_13 (fun r u H locs hp hM => ?_)
      obtain ⟨hq, rfl⟩ := hp
      have hM : wm_M D ad cA cR s (ln) (wd) H locs := by
        exact hM
      refine lv_goto (tgt := 20) hC.1 hC.2.1 d_Mill_ones_16 (by decide) ?_
      exact wm_iret hC hK hM hr hlk ⟨by simp only [sp_ones, sp_ix_ok ha]; rw [hq, he a ha], rfl⟩ d_Mill_ones_20
  · refine nv_if_eq (tgt := 19) hC (by omega) d_Mill_ones_4 (by decide) (fun hz => ?_) (fun hz => ?_)
    · refine lv_iconst (v := -1) hC.1 hC.2.1 d_Mill_ones_19 (by decide) ?_
      exact wm_iret hC hK hM hr hlk (⟨by simp only [sp_ones, sp_ix_no hno] <;> rfl, rfl⟩) d_Mill_ones_20
    · exact absurd rfl hz
set_option maxHeartbeats 4000000 in
set_option maxRecDepth 100000 in
theorem c_Mill_lowest (l : Launch) (D : va_G) (ad : Nat → Nat) (cA cR : ClassId) (sz : Nat) (ln : Nat → Nat) (wd : Nat → Nat → Int32) (N : Nat → Nat) (hR : wm_R N ln wd) (x : Int32) : Met l y_Mill_lowest (Cond.code y_Mill_lowest b_Mill_lowest 2 (some .int) :: lw_T) ({ frames := 2, cells := 0, slots := 0, locals := 42 }) (va_Pc [.ref (ad 38), .int (x)] (wm_B D ad cA cR sz ln wd)) (va_Qi (fun (r : Int32) (u : wm_St) => r = sp_lowest N x ∧ u = (ln, wd)) (wm_E D ad cA cR sz) (wm_A ad sz)) 0 0 (wm_A ad sz) := by
  refine wm_met l (by decide) (Nat.le_of_ble_eq_true rfl) ?_
  intro p e s m below meth c ls hsz hC hK hr hlk hM hl
  subst hsz
  have hC : CallFix p m c b_Mill_lowest 2 s _ lw_T R_Mill := hC
  have hl : lv_has ls 2 [(0, .ref (ad 38)), (1, .int (x))] := hl
  obtain ⟨⟨Mx, hok, he⟩, hL⟩ := id hR
  refine lv_iload_n hC.1 hC.2.1 d_Mill_lowest_0 rfl (lv_at hl 1 rfl) ?_
  refine wm_callPi hC hK hM (As := [.int (x)]) (rest := []) (c_Mill_isRegister l _ x) kc_Mill_isRegister km_Mill_26 ki_Mill ks_Mill_isRegister kd_Mill_isRegister ⟨rfl, rfl⟩ ⟨Nat.le_of_ble_eq_true rfl, Nat.le_of_ble_eq_true rfl⟩ rfl hl.1 (Nat.le_of_ble_eq_true rfl) d_Mill_lowest_1 (fun r H locs hp hM => ?_)
  rcases hp with ⟨a, ha, rfl, rfl⟩ | ⟨hno, rfl⟩
  · refine nv_if_eq (tgt := 19) hC (by omega) d_Mill_lowest_4 (by decide) (fun hz => ?_) (fun hz => ?_)
    · exact absurd hz (by decide)
    · refine lv_aload_n hC.1 hC.2.1 d_Mill_lowest_7 rfl (lv_at hl 0 rfl) ?_
      refine wm_regs hC hK hM kf_Mill_11 d_Mill_lowest_8 ?_
      refine lv_iload_n hC.1 hC.2.1 d_Mill_lowest_11 rfl (lv_at hl 1 rfl) ?_
      refine wm_reg hC hK hM (i := a) (by omega) d_Mill_lowest_12 ?_
      refine wm_callVi hC hK hM (As := []) (rest := []) (wm_at_o (by omega)) rfl (c_Whole_lowestOne l D ad cA cR _ ln wd a (Mx a) (by omega) (hok a (by omega))) kc_Whole_lowestOne km_Mill_110 ki_Whole kn_Whole_lowestOne ke_Whole_lowestOne kd_Whole_lowestOne ⟨rfl, rfl⟩ ⟨Nat.le_of_ble_eq_true rfl, Nat.le_of_ble_eq_true rfl⟩ rfl hl.1 (Nat.le_of_ble_eq_true rfl) d_Mill_lowest_13 (fun r u H locs hp hM => ?_)
      obtain ⟨hq, rfl⟩ := hp
      have hM : wm_M D ad cA cR s (ln) (wd) H locs := by
        exact hM
      refine lv_goto (tgt := 20) hC.1 hC.2.1 d_Mill_lowest_16 (by decide) ?_
      exact wm_iret hC hK hM hr hlk ⟨by
    simp only [sp_lowest, sp_ix_ok ha]
    rw [he a ha] at hq
    rcases hq with ⟨z, rfl⟩ | ⟨t, -, t1, t2, rfl⟩
    · rw [if_pos z]
    · rw [if_neg (fun z => by rw [z, Nat.zero_div] at t2; omega), sp_ct_of t1 t2], rfl⟩ d_Mill_lowest_20
  · refine nv_if_eq (tgt := 19) hC (by omega) d_Mill_lowest_4 (by decide) (fun hz => ?_) (fun hz => ?_)
    · refine lv_iconst (v := -1) hC.1 hC.2.1 d_Mill_lowest_19 (by decide) ?_
      exact wm_iret hC hK hM hr hlk (⟨by simp only [sp_lowest, sp_ix_no hno] <;> rfl, rfl⟩) d_Mill_lowest_20
    · exact absurd rfl hz
set_option maxHeartbeats 4000000 in
set_option maxRecDepth 100000 in
theorem c_Mill_word (l : Launch) (D : va_G) (ad : Nat → Nat) (cA cR : ClassId) (sz : Nat) (ln : Nat → Nat) (wd : Nat → Nat → Int32) (N : Nat → Nat) (hR : wm_R N ln wd) (x k0 : Int32) : Met l y_Mill_word (Cond.code y_Mill_word b_Mill_word 3 (some .int) :: lw_T) ({ frames := 1, cells := 0, slots := 0, locals := 20 }) (va_Pc [.ref (ad 38), .int (x), .int (k0)] (wm_B D ad cA cR sz ln wd)) (va_Qi (fun (r : Int32) (u : wm_St) => r = sp_word N x k0 ∧ u = (ln, wd)) (wm_E D ad cA cR sz) (wm_A ad sz)) 0 0 (wm_A ad sz) := by
  refine wm_met l (by decide) (Nat.le_of_ble_eq_true rfl) ?_
  intro p e s m below meth c ls hsz hC hK hr hlk hM hl
  subst hsz
  have hC : CallFix p m c b_Mill_word 3 s _ lw_T R_Mill := hC
  have hl : lv_has ls 3 [(0, .ref (ad 38)), (1, .int (x)), (2, .int (k0))] := hl
  obtain ⟨⟨Mx, hok, he⟩, hL⟩ := id hR
  refine lv_iload_n hC.1 hC.2.1 d_Mill_word_0 rfl (lv_at hl 1 rfl) ?_
  refine wm_callPi hC hK hM (As := [.int (x)]) (rest := []) (c_Mill_isRegister l _ x) kc_Mill_isRegister km_Mill_26 ki_Mill ks_Mill_isRegister kd_Mill_isRegister ⟨rfl, rfl⟩ ⟨Nat.le_of_ble_eq_true rfl, Nat.le_of_ble_eq_true rfl⟩ rfl hl.1 (Nat.le_of_ble_eq_true rfl) d_Mill_word_1 (fun r H locs hp hM => ?_)
  rcases hp with ⟨a, ha, rfl, rfl⟩ | ⟨hno, rfl⟩
  · refine nv_if_eq (tgt := 24) hC (by omega) d_Mill_word_4 (by decide) (fun hz => ?_) (fun hz => ?_)
    · exact absurd hz (by decide)
    · have l1 := wm_len16 (hok a (by omega)) (by rw [he a ha]; exact hL a ha)
      refine lv_iload_n hC.1 hC.2.1 d_Mill_word_7 rfl (lv_at hl 2 rfl) ?_
      refine lv_if_lt (tgt := 24) hC.1 hC.2.1 d_Mill_word_8 (by decide) (fun h1 => ?_) (fun h1 => ?_)
      · refine lv_iconst (v := nI 0) hC.1 hC.2.1 d_Mill_word_24 (by decide) ?_
        exact wm_iret hC hK hM hr hlk ⟨by simp only [sp_word, sp_ix_ok ha]; rw [if_pos h1]; rfl, rfl⟩ d_Mill_word_25
      · obtain ⟨k, hk, rfl⟩ := nI_of h1
        refine lv_iload_n hC.1 hC.2.1 d_Mill_word_11 rfl (lv_at hl 2 rfl) ?_
        refine lv_aload_n hC.1 hC.2.1 d_Mill_word_12 rfl (lv_at hl 0 rfl) ?_
        refine wm_regs hC hK hM kf_Mill_11 d_Mill_word_13 ?_
        refine lv_iload_n hC.1 hC.2.1 d_Mill_word_16 rfl (lv_at hl 1 rfl) ?_
        refine wm_reg hC hK hM (i := a) (by omega) d_Mill_word_17 ?_
        refine wm_len hC hK hM (j := a) (by omega) kf_Mill_69 d_Mill_word_18 ?_
        refine nv_icmp_lt (tgt := 26) hC (by omega) (by omega) d_Mill_word_21 (by decide) (fun h2 => ?_) (fun h2 => ?_)
        · refine lv_aload_n hC.1 hC.2.1 d_Mill_word_26 rfl (lv_at hl 0 rfl) ?_
          refine wm_regs hC hK hM kf_Mill_11 d_Mill_word_27 ?_
          refine lv_iload_n hC.1 hC.2.1 d_Mill_word_30 rfl (lv_at hl 1 rfl) ?_
          refine wm_reg hC hK hM (i := a) (by omega) d_Mill_word_31 ?_
          refine wm_wds hC hK hM (j := a) (by omega) kf_Mill_103 d_Mill_word_32 ?_
          refine lv_iload_n hC.1 hC.2.1 d_Mill_word_35 rfl (lv_at hl 2 rfl) ?_
          refine wm_ald hC hK hM (j := a) (k := k) (by omega) (by omega) d_Mill_word_36 ?_
          exact wm_iret hC hK hM hr hlk ⟨by simp only [sp_word, sp_ix_ok ha]; rw [if_neg h1, nI_clamp hk, ← he a ha, ← wm_rep_dig (hok a (by omega)) (by omega), wm_nu], rfl⟩ d_Mill_word_37
        · refine lv_iconst (v := nI 0) hC.1 hC.2.1 d_Mill_word_24 (by decide) ?_
          exact wm_iret hC hK hM hr hlk ⟨by simp only [sp_word, sp_ix_ok ha]; rw [if_neg h1, nI_clamp hk, ← he a ha, Nat.div_eq_of_lt (Nat.lt_of_lt_of_le (wm_rep_lt (hok a (by omega))) (Nat.pow_le_pow_right (by decide) h2))], rfl⟩ d_Mill_word_25
  · refine nv_if_eq (tgt := 24) hC (by omega) d_Mill_word_4 (by decide) (fun hz => ?_) (fun hz => ?_)
    · refine lv_iconst (v := nI 0) hC.1 hC.2.1 d_Mill_word_24 (by decide) ?_
      exact wm_iret hC hK hM hr hlk (⟨by simp only [sp_word, sp_ix_no hno] <;> rfl, rfl⟩) d_Mill_word_25
    · exact absurd rfl hz
set_option maxHeartbeats 4000000 in
set_option maxRecDepth 100000 in
theorem c_Mill_rest (l : Launch) (D : va_G) (ad : Nat → Nat) (cA cR : ClassId) (sz : Nat) (ln : Nat → Nat) (wd : Nat → Nat → Int32) (N : Nat → Nat) (hR : wm_R N ln wd) (x m0 : Int32) : Met l y_Mill_rest (Cond.code y_Mill_rest b_Mill_rest 3 (some .int) :: lw_T) ({ frames := 1, cells := 0, slots := 0, locals := 24 }) (va_Pc [.ref (ad 38), .int (x), .int (m0)] (wm_B D ad cA cR sz ln wd)) (va_Qi (fun (r : Int32) (u : wm_St) => r = sp_rest N x m0 ∧ u = (ln, wd)) (wm_E D ad cA cR sz) (wm_A ad sz)) 0 0 (wm_A ad sz) := by
  refine wm_met l (by decide) (Nat.le_of_ble_eq_true rfl) ?_
  intro p e s m below meth c ls hsz hC hK hr hlk hM hl
  subst hsz
  have hC : CallFix p m c b_Mill_rest 3 s _ lw_T R_Mill := hC
  have hl : lv_has ls 3 [(0, .ref (ad 38)), (1, .int (x)), (2, .int (m0))] := hl
  obtain ⟨⟨Mx, hok, he⟩, hL⟩ := id hR
  refine lv_iload_n hC.1 hC.2.1 d_Mill_rest_0 rfl (lv_at hl 1 rfl) ?_
  refine wm_callPi hC hK hM (As := [.int (x)]) (rest := []) (c_Mill_isRegister l _ x) kc_Mill_isRegister km_Mill_26 ki_Mill ks_Mill_isRegister kd_Mill_isRegister ⟨rfl, rfl⟩ ⟨Nat.le_of_ble_eq_true rfl, Nat.le_of_ble_eq_true rfl⟩ rfl hl.1 (Nat.le_of_ble_eq_true rfl) d_Mill_rest_1 (fun r H locs hp hM => ?_)
  rcases hp with ⟨a, ha, rfl, rfl⟩ | ⟨hno, rfl⟩
  · refine nv_if_eq (tgt := 25) hC (by omega) d_Mill_rest_4 (by decide) (fun hz => ?_) (fun hz => ?_)
    · exact absurd hz (by decide)
    · refine lv_iload_n hC.1 hC.2.1 d_Mill_rest_7 rfl (lv_at hl 2 rfl) ?_
      refine lv_iconst (v := nI 1) hC.1 hC.2.1 d_Mill_rest_8 (by decide) ?_
      refine lv_icmp_lt (tgt := 25) hC.1 hC.2.1 d_Mill_rest_9 (by decide) (fun h1 => ?_) (fun h1 => ?_)
      · refine lv_iconst (v := -1) hC.1 hC.2.1 d_Mill_rest_25 (by decide) ?_
        exact wm_iret hC hK hM hr hlk ⟨by simp only [sp_rest, sp_ix_ok ha]; rw [if_pos h1], rfl⟩ d_Mill_rest_26
      · obtain ⟨k, hk, rfl⟩ := nI_of (x := m0) (fun z => h1 (Int32.lt_trans z (by decide)))
        have hk1 : 1 ≤ k := Nat.le_of_not_lt (fun z => h1 ((nI_ltI hk (by decide)).mpr z))
        refine lv_aload_n hC.1 hC.2.1 d_Mill_rest_12 rfl (lv_at hl 0 rfl) ?_
        refine wm_regs hC hK hM kf_Mill_11 d_Mill_rest_13 ?_
        refine lv_iload_n hC.1 hC.2.1 d_Mill_rest_16 rfl (lv_at hl 1 rfl) ?_
        refine wm_reg hC hK hM (i := a) (by omega) d_Mill_rest_17 ?_
        refine lv_iload_n hC.1 hC.2.1 d_Mill_rest_18 rfl (lv_at hl 2 rfl) ?_
        refine wm_callVi hC hK hM (As := [.int (nI (k))]) (rest := []) (wm_at_o (by omega)) rfl (c_Whole_remainder l D ad cA cR _ ln wd a (Mx a) k (by omega) (hok a (by omega)) hk1 hk) kc_Whole_remainder km_Mill_113 ki_Whole kn_Whole_remainder ke_Whole_remainder kd_Whole_remainder ⟨rfl, rfl⟩ ⟨Nat.le_of_ble_eq_true rfl, Nat.le_of_ble_eq_true rfl⟩ rfl hl.1 (Nat.le_of_ble_eq_true rfl) d_Mill_rest_19 (fun r u H locs hp hM => ?_)
        obtain ⟨hq, rfl⟩ := hp
        have hM : wm_M D ad cA cR s (ln) (wd) H locs := by
          exact hM
        refine lv_goto (tgt := 26) hC.1 hC.2.1 d_Mill_rest_22 (by decide) ?_
        exact wm_iret hC hK hM hr hlk ⟨by simp only [sp_rest, sp_ix_ok ha]; rw [if_neg h1, nI_clamp hk, hq, he a ha], rfl⟩ d_Mill_rest_26
  · refine nv_if_eq (tgt := 25) hC (by omega) d_Mill_rest_4 (by decide) (fun hz => ?_) (fun hz => ?_)
    · refine lv_iconst (v := -1) hC.1 hC.2.1 d_Mill_rest_25 (by decide) ?_
      exact wm_iret hC hK hM hr hlk (⟨by simp only [sp_rest, sp_ix_no hno] <;> rfl, rfl⟩) d_Mill_rest_26
    · exact absurd rfl hz
