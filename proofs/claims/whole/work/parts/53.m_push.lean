set_option maxHeartbeats 4000000 in
set_option maxRecDepth 100000 in
theorem c_Mill_push (l : Launch) (D : va_G) (ad : Nat → Nat) (cA cR : ClassId) (sz : Nat) (ln : Nat → Nat) (wd : Nat → Nat → Int32) (N : Nat → Nat) (hR : wm_R N ln wd) (x : Int32) (p0 : Nat) (hp0 : p0 < 2 ^ 64) : Met l y_Mill_push (Cond.code y_Mill_push b_Mill_push 4 (some .boolean) :: lw_T) ({ frames := 3, cells := 0, slots := 0, locals := 69 }) (va_Pc [.ref (ad 38), .int (x), .long (lN (p0))] (wm_B D ad cA cR sz ln wd)) (va_Qi (fun (r : Int32) (u : wm_St) => r = (sp_push N x p0).1 ∧ wm_R (sp_push N x p0).2 u.1 u.2) (wm_E D ad cA cR sz) (wm_A ad sz)) 0 0 (wm_A ad sz) := by
  refine wm_met l (by decide) (Nat.le_of_ble_eq_true rfl) ?_
  intro p e s m below meth c ls hsz hC hK hr hlk hM hl
  subst hsz
  have hC : CallFix p m c b_Mill_push 4 s _ lw_T R_Mill := hC
  have hl : lv_has ls 4 [(0, .ref (ad 38)), (1, .int (x)), (2, .long (lN (p0)))] := hl
  obtain ⟨⟨Mx, hok, he⟩, hL⟩ := id hR
  refine lv_iload_n hC.1 hC.2.1 d_Mill_push_0 rfl (lv_at hl 1 rfl) ?_
  refine wm_callPi hC hK hM (As := [.int (x)]) (rest := []) (c_Mill_isRegister l _ x) kc_Mill_isRegister km_Mill_26 ki_Mill ks_Mill_isRegister kd_Mill_isRegister ⟨rfl, rfl⟩ ⟨Nat.le_of_ble_eq_true rfl, Nat.le_of_ble_eq_true rfl⟩ rfl hl.1 (Nat.le_of_ble_eq_true rfl) d_Mill_push_1 (fun r H locs hp hM => ?_)
  rcases hp with ⟨d, hd, rfl, rfl⟩ | ⟨hno, rfl⟩
  · refine nv_if_eq (tgt := 21) hC (by omega) d_Mill_push_4 (by decide) (fun hz => ?_) (fun hz => ?_)
    · exact absurd hz (by decide)
    · have l1 := wm_len16 (hok d (by omega)) (by rw [he d hd]; exact hL d hd)
      have hbb : wm_bl (Mx d) ≤ 65536 := sp_bl.mpr (by rw [he d hd]; exact hL d hd)
      refine lv_aload_n hC.1 hC.2.1 d_Mill_push_7 rfl (lv_at hl 0 rfl) ?_
      refine wm_regs hC hK hM kf_Mill_11 d_Mill_push_8 ?_
      refine lv_iload_n hC.1 hC.2.1 d_Mill_push_11 rfl (lv_at hl 1 rfl) ?_
      refine wm_reg hC hK hM (i := d) (by omega) d_Mill_push_12 ?_
      refine wm_callVi hC hK hM (As := []) (rest := []) (wm_at_o (by omega)) rfl (c_Whole_size l D ad cA cR _ ln wd d (Mx d) (by omega) (hok d (by omega))) kc_Whole_size km_Mill_30 ki_Whole kn_Whole_size ke_Whole_size kd_Whole_size ⟨rfl, rfl⟩ ⟨Nat.le_of_ble_eq_true rfl, Nat.le_of_ble_eq_true rfl⟩ rfl hl.1 (Nat.le_of_ble_eq_true rfl) d_Mill_push_13 (fun r u H locs hp hM => ?_)
      obtain ⟨rfl, rfl⟩ := hp
      have hM : wm_M D ad cA cR s (ln) (wd) H locs := by
        exact hM
      refine lv_ldc (v := nI 65472) hC.1 hC.2.1 hC.2.2.2.1 (hC.2.2.2.2 _ kk_Mill_34) d_Mill_push_16 ?_
      refine nv_icmp_le (tgt := 23) hC (by omega) (by omega) d_Mill_push_18 (by decide) (fun hc => ?_) (fun hc => ?_)
      · have l2 : ln d ≤ 2046 := wm_rep_le (hok d (by omega)) (by rw [wm_p32]; exact wm_bl_le.mp hc)
        refine lv_aload_n hC.1 hC.2.1 d_Mill_push_23 rfl (lv_at hl 0 rfl) ?_
        refine wm_res hC hK hM kf_Mill_16 d_Mill_push_24 ?_
        refine lv_aload_n hC.1 hC.2.1 d_Mill_push_27 rfl (lv_at hl 0 rfl) ?_
        refine wm_regs hC hK hM kf_Mill_11 d_Mill_push_28 ?_
        refine lv_iload_n hC.1 hC.2.1 d_Mill_push_31 rfl (lv_at hl 1 rfl) ?_
        refine wm_reg hC hK hM (i := d) (by omega) d_Mill_push_32 ?_
        refine lv_bipush (v := nI 64) hC.1 hC.2.1 d_Mill_push_33 (by decide) ?_
        refine wm_callVv hC hK hM (As := [.ref (ad d), .int (nI (64))]) (rest := []) (wm_at_o (by decide)) rfl (c_Whole_becomeShiftedLeft l D ad cA cR _ ln wd 16 d (Mx d) 64 (by decide) (by omega) (by omega) (wm_rep_ze (hok 16 (by decide))) (hok d (by omega)) (by decide) (by omega)) kc_Whole_becomeShiftedLeft km_Mill_35 ki_Whole kn_Whole_becomeShiftedLeft ke_Whole_becomeShiftedLeft kd_Whole_becomeShiftedLeft ⟨rfl, rfl⟩ ⟨Nat.le_of_ble_eq_true rfl, Nat.le_of_ble_eq_true rfl⟩ rfl hl.1 (Nat.le_of_ble_eq_true rfl) d_Mill_push_35 (fun u1 H locs hp1 hM => ?_)
        have ok1 := wm_ok_up hok hp1
        refine lv_aload_n hC.1 hC.2.1 d_Mill_push_38 rfl (lv_at hl 0 rfl) ?_
        refine wm_res hC hK hM kf_Mill_16 d_Mill_push_39 ?_
        refine lv_lload_n hC.1 hC.2.1 d_Mill_push_42 rfl (lv_at hl 2 rfl) ?_
        refine wm_callVv hC hK hM (As := [.long (lN (p0))]) (rest := []) (wm_at_o (by decide)) rfl (c_Whole_fillLowestPair l D ad cA cR _ (u1.1) (u1.2) 16 p0 _ (by decide) hp0 (wm_ok_self ok1 (by decide))) kc_Whole_fillLowestPair km_Mill_39 ki_Whole kn_Whole_fillLowestPair ke_Whole_fillLowestPair kd_Whole_fillLowestPair ⟨rfl, rfl⟩ ⟨Nat.le_of_ble_eq_true rfl, Nat.le_of_ble_eq_true rfl⟩ rfl hl.1 (Nat.le_of_ble_eq_true rfl) d_Mill_push_43 (fun u2 H locs hp2 hM => ?_)
        have ok2 := wm_ok_up ok1 hp2
        refine lv_aload_n hC.1 hC.2.1 d_Mill_push_46 rfl (lv_at hl 0 rfl) ?_
        refine lv_iload_n hC.1 hC.2.1 d_Mill_push_47 rfl (lv_at hl 1 rfl) ?_
        refine wm_callVi hC hK hM (As := [.int (nI (d))]) (rest := []) wm_at_m rfl (c_Mill_keepResult l D ad cA cR _ (u2.1) (u2.2) _ d hd ok2) kc_Mill_keepResult km_Mill_43 ki_Mill kn_Mill_keepResult ke_Mill_keepResult kd_Mill_keepResult ⟨rfl, rfl⟩ ⟨Nat.le_of_ble_eq_true rfl, Nat.le_of_ble_eq_true rfl⟩ rfl hl.1 (Nat.le_of_ble_eq_true rfl) d_Mill_push_48 (fun r uk H locs hpk hM => ?_)
        have hfin := wm_fin (N := N) hpk ok2 (fun j hj => by rw [va_up_ne _ _ (by omega), va_up_ne _ _ (by omega)]; exact he j hj) hL (X := N d * 18446744073709551616 + p0) (by rw [va_up_self, he d hd]; exact congrArg (· + p0) (by rw [show (2 : Nat) ^ 64 = 18446744073709551616 by decide, Nat.mul_div_cancel _ (by decide)]))
        exact wm_zret hC hK hM hr hlk (wm_kept_n hpk) (by simp only [sp_push, sp_ix_ok hd]; exact hfin) d_Mill_push_51
      · have hbig : ¬ N d * 18446744073709551616 + p0 < sp_L := by
          have h1 := wm_bl_ge (n := Mx d) (by
            rcases Nat.eq_zero_or_pos (Mx d) with z | z
            · rw [z, wm_bl_0] at hc; omega
            · exact z)
          have h2 : 2 ^ 65472 ≤ 2 ^ (wm_bl (Mx d) - 1) := Nat.pow_le_pow_right (by decide) (by omega)
          rw [he d hd] at h1 h2
          exact Nat.not_lt.mpr (sp_big h2 h1)
        refine lv_iconst (v := nI 0) hC.1 hC.2.1 d_Mill_push_21 (by decide) ?_
        exact wm_zret hC hK hM hr hlk rfl ⟨by simp only [sp_push, sp_ix_ok hd, sp_putv, if_neg hbig], by simp only [sp_push, sp_ix_ok hd, sp_putv, if_neg hbig]; exact hR⟩ d_Mill_push_22
  · refine nv_if_eq (tgt := 21) hC (by omega) d_Mill_push_4 (by decide) (fun hz => ?_) (fun hz => ?_)
    · refine lv_iconst (v := nI 0) hC.1 hC.2.1 d_Mill_push_21 (by decide) ?_
      exact wm_zret hC hK hM hr hlk rfl (⟨by simp only [sp_push, sp_3, sp_no, sp_ix_no hno], by simp only [sp_push, sp_3, sp_no, sp_ix_no hno]; exact hR⟩) d_Mill_push_22
    · exact absurd rfl hz
set_option maxHeartbeats 4000000 in
set_option maxRecDepth 100000 in
theorem c_Mill_spread (l : Launch) (D : va_G) (ad : Nat → Nat) (cA cR : ClassId) (sz : Nat) (ln : Nat → Nat) (wd : Nat → Nat → Int32) (N : Nat → Nat) (hR : wm_R N ln wd) (x : Int32) (p0 : Nat) (hp0 : p0 < 2 ^ 64) (n0 : Int32) : Met l y_Mill_spread (Cond.code y_Mill_spread b_Mill_spread 5 (some .boolean) :: lw_T) ({ frames := 3, cells := 0, slots := 0, locals := 68 }) (va_Pc [.ref (ad 38), .int (x), .long (lN (p0)), .int (n0)] (wm_B D ad cA cR sz ln wd)) (va_Qi (fun (r : Int32) (u : wm_St) => r = (sp_spread N x p0 n0).1 ∧ wm_R (sp_spread N x p0 n0).2 u.1 u.2) (wm_E D ad cA cR sz) (wm_A ad sz)) 0 0 (wm_A ad sz) := by
  refine wm_met l (by decide) (Nat.le_of_ble_eq_true rfl) ?_
  intro p e s m below meth c ls hsz hC hK hr hlk hM hl
  subst hsz
  have hC : CallFix p m c b_Mill_spread 5 s _ lw_T R_Mill := hC
  have hl : lv_has ls 5 [(0, .ref (ad 38)), (1, .int (x)), (2, .long (lN (p0))), (4, .int (n0))] := hl
  obtain ⟨⟨Mx, hok, he⟩, hL⟩ := id hR
  refine lv_iload_n hC.1 hC.2.1 d_Mill_spread_0 rfl (lv_at hl 1 rfl) ?_
  refine wm_callPi hC hK hM (As := [.int (x)]) (rest := []) (c_Mill_isRegister l _ x) kc_Mill_isRegister km_Mill_26 ki_Mill ks_Mill_isRegister kd_Mill_isRegister ⟨rfl, rfl⟩ ⟨Nat.le_of_ble_eq_true rfl, Nat.le_of_ble_eq_true rfl⟩ rfl hl.1 (Nat.le_of_ble_eq_true rfl) d_Mill_spread_1 (fun r H locs hp hM => ?_)
  rcases hp with ⟨d, hd, rfl, rfl⟩ | ⟨hno, rfl⟩
  · refine nv_if_eq (tgt := 20) hC (by omega) d_Mill_spread_4 (by decide) (fun hz => ?_) (fun hz => ?_)
    · exact absurd hz (by decide)
    · refine lv_iload hC.1 hC.2.1 d_Mill_spread_7 (lv_at hl 3 rfl) ?_
      refine lv_if_lt (tgt := 20) hC.1 hC.2.1 d_Mill_spread_9 (by decide) (fun hn => ?_) (fun hn => ?_)
      · refine lv_iconst (v := nI 0) hC.1 hC.2.1 d_Mill_spread_20 (by decide) ?_
        exact wm_zret hC hK hM hr hlk rfl ⟨by simp only [sp_spread, sp_ix_ok hd]; rw [if_pos (Or.inl hn)]; rfl, by simp only [sp_spread, sp_ix_ok hd]; rw [if_pos (Or.inl hn)]; exact hR⟩ d_Mill_spread_21
      · obtain ⟨k, hk, rfl⟩ := nI_of hn
        refine lv_iload hC.1 hC.2.1 d_Mill_spread_12 (lv_at hl 3 rfl) ?_
        refine lv_sipush (v := nI 1024) hC.1 hC.2.1 d_Mill_spread_14 (by decide) ?_
        refine nv_icmp_le (tgt := 22) hC (by omega) (by omega) d_Mill_spread_17 (by decide) (fun hk2 => ?_) (fun hk2 => ?_)
        · refine lv_aload_n hC.1 hC.2.1 d_Mill_spread_22 rfl (lv_at hl 0 rfl) ?_
          refine wm_res hC hK hM kf_Mill_16 d_Mill_spread_23 ?_
          refine lv_lload_n hC.1 hC.2.1 d_Mill_spread_26 rfl (lv_at hl 2 rfl) ?_
          refine lv_iload hC.1 hC.2.1 d_Mill_spread_27 (lv_at hl 3 rfl) ?_
          refine wm_callVv hC hK hM (As := [.long (lN (p0)), .int (nI (k))]) (rest := []) (wm_at_o (by decide)) rfl (c_Whole_becomePairs l D ad cA cR _ ln wd 16 p0 k (by decide) hp0 hk2 (wm_rep_ze (hok 16 (by decide)))) kc_Whole_becomePairs km_Mill_46 ki_Whole kn_Whole_becomePairs ke_Whole_becomePairs kd_Whole_becomePairs ⟨rfl, rfl⟩ ⟨Nat.le_of_ble_eq_true rfl, Nat.le_of_ble_eq_true rfl⟩ rfl hl.1 (Nat.le_of_ble_eq_true rfl) d_Mill_spread_29 (fun u1 H locs hp1 hM => ?_)
          have ok1 := wm_ok_up hok hp1
          refine lv_aload_n hC.1 hC.2.1 d_Mill_spread_32 rfl (lv_at hl 0 rfl) ?_
          refine lv_iload_n hC.1 hC.2.1 d_Mill_spread_33 rfl (lv_at hl 1 rfl) ?_
          refine wm_callVi hC hK hM (As := [.int (nI (d))]) (rest := []) wm_at_m rfl (c_Mill_keepResult l D ad cA cR _ (u1.1) (u1.2) _ d hd ok1) kc_Mill_keepResult km_Mill_43 ki_Mill kn_Mill_keepResult ke_Mill_keepResult kd_Mill_keepResult ⟨rfl, rfl⟩ ⟨Nat.le_of_ble_eq_true rfl, Nat.le_of_ble_eq_true rfl⟩ rfl hl.1 (Nat.le_of_ble_eq_true rfl) d_Mill_spread_34 (fun r uk H locs hpk hM => ?_)
          have hfin := wm_fin (N := N) hpk ok1 (fun j hj => by rw [va_up_ne _ _ (by omega)]; exact he j hj) hL (X := wm_pr p0 k) (by rw [va_up_self])
          have hnn : ¬ (nI k < 0 ∨ nI 1024 < nI k) := fun z => by
            rcases z with z | z
            · exact hn z
            · exact absurd ((nI_ltI (by decide) hk).mp z) (by omega)
          exact wm_zret hC hK hM hr hlk (wm_kept_n hpk) (by simp only [sp_spread, sp_ix_ok hd]; rw [if_neg hnn, nI_clamp hk]; exact hfin) d_Mill_spread_37
        · refine lv_iconst (v := nI 0) hC.1 hC.2.1 d_Mill_spread_20 (by decide) ?_
          have hpp : nI k < 0 ∨ nI 1024 < nI k := Or.inr ((nI_ltI (by decide) hk).mpr hk2)
          exact wm_zret hC hK hM hr hlk rfl ⟨by simp only [sp_spread, sp_ix_ok hd]; rw [if_pos hpp]; rfl, by simp only [sp_spread, sp_ix_ok hd]; rw [if_pos hpp]; exact hR⟩ d_Mill_spread_21
  · refine nv_if_eq (tgt := 20) hC (by omega) d_Mill_spread_4 (by decide) (fun hz => ?_) (fun hz => ?_)
    · refine lv_iconst (v := nI 0) hC.1 hC.2.1 d_Mill_spread_20 (by decide) ?_
      exact wm_zret hC hK hM hr hlk rfl (⟨by simp only [sp_spread, sp_3, sp_no, sp_ix_no hno], by simp only [sp_spread, sp_3, sp_no, sp_ix_no hno]; exact hR⟩) d_Mill_spread_21
    · exact absurd rfl hz
set_option maxHeartbeats 4000000 in
set_option maxRecDepth 100000 in
theorem c_Mill_take (l : Launch) (D : va_G) (ad : Nat → Nat) (cA cR : ClassId) (sz : Nat) (ln : Nat → Nat) (wd : Nat → Nat → Int32) (N : Nat → Nat) (hR : wm_R N ln wd) (x y z : Int32) : Met l y_Mill_take (Cond.code y_Mill_take b_Mill_take 4 (some .boolean) :: lw_T) ({ frames := 3, cells := 0, slots := 0, locals := 68 }) (va_Pc [.ref (ad 38), .int (x), .int (y), .int (z)] (wm_B D ad cA cR sz ln wd)) (va_Qi (fun (r : Int32) (u : wm_St) => r = (sp_take N x y z).1 ∧ wm_R (sp_take N x y z).2 u.1 u.2) (wm_E D ad cA cR sz) (wm_A ad sz)) 0 0 (wm_A ad sz) := by
  refine wm_met l (by decide) (Nat.le_of_ble_eq_true rfl) ?_
  intro p e s m below meth c ls hsz hC hK hr hlk hM hl
  subst hsz
  have hC : CallFix p m c b_Mill_take 4 s _ lw_T R_Mill := hC
  have hl : lv_has ls 4 [(0, .ref (ad 38)), (1, .int (x)), (2, .int (y)), (3, .int (z))] := hl
  obtain ⟨⟨Mx, hok, he⟩, hL⟩ := id hR
  refine lv_iload_n hC.1 hC.2.1 d_Mill_take_0 rfl (lv_at hl 1 rfl) ?_
  refine wm_callPi hC hK hM (As := [.int (x)]) (rest := []) (c_Mill_isRegister l _ x) kc_Mill_isRegister km_Mill_26 ki_Mill ks_Mill_isRegister kd_Mill_isRegister ⟨rfl, rfl⟩ ⟨Nat.le_of_ble_eq_true rfl, Nat.le_of_ble_eq_true rfl⟩ rfl hl.1 (Nat.le_of_ble_eq_true rfl) d_Mill_take_1 (fun r H locs hp hM => ?_)
  rcases hp with ⟨d, hd, rfl, rfl⟩ | ⟨hno, rfl⟩
  · refine nv_if_eq (tgt := 21) hC (by omega) d_Mill_take_4 (by decide) (fun hz => ?_) (fun hz => ?_)
    · exact absurd hz (by decide)
    · refine lv_iload_n hC.1 hC.2.1 d_Mill_take_7 rfl (lv_at hl 2 rfl) ?_
      refine wm_callPi hC hK hM (As := [.int (y)]) (rest := []) (c_Mill_isRegister l _ y) kc_Mill_isRegister km_Mill_26 ki_Mill ks_Mill_isRegister kd_Mill_isRegister ⟨rfl, rfl⟩ ⟨Nat.le_of_ble_eq_true rfl, Nat.le_of_ble_eq_true rfl⟩ rfl hl.1 (Nat.le_of_ble_eq_true rfl) d_Mill_take_8 (fun r H locs hp hM => ?_)
      rcases hp with ⟨a, ha, rfl, rfl⟩ | ⟨hno, rfl⟩
      · refine nv_if_eq (tgt := 21) hC (by omega) d_Mill_take_11 (by decide) (fun hz => ?_) (fun hz => ?_)
        · exact absurd hz (by decide)
        · refine lv_iload_n hC.1 hC.2.1 d_Mill_take_14 rfl (lv_at hl 3 rfl) ?_
          refine wm_callPi hC hK hM (As := [.int (z)]) (rest := []) (c_Mill_isRegister l _ z) kc_Mill_isRegister km_Mill_26 ki_Mill ks_Mill_isRegister kd_Mill_isRegister ⟨rfl, rfl⟩ ⟨Nat.le_of_ble_eq_true rfl, Nat.le_of_ble_eq_true rfl⟩ rfl hl.1 (Nat.le_of_ble_eq_true rfl) d_Mill_take_15 (fun r H locs hp hM => ?_)
          rcases hp with ⟨b, hb, rfl, rfl⟩ | ⟨hno, rfl⟩
          · refine nv_if_ne (tgt := 23) hC (by omega) d_Mill_take_18 (by decide) (fun hz => ?_) (fun hz => ?_)
            · have l1 := wm_len16 (hok a (by omega)) (by rw [he a ha]; exact hL a ha)
              have l2 := wm_len16 (hok b (by omega)) (by rw [he b hb]; exact hL b hb)
              refine lv_aload_n hC.1 hC.2.1 d_Mill_take_23 rfl (lv_at hl 0 rfl) ?_
              refine wm_regs hC hK hM kf_Mill_11 d_Mill_take_24 ?_
              refine lv_iload_n hC.1 hC.2.1 d_Mill_take_27 rfl (lv_at hl 2 rfl) ?_
              refine wm_reg hC hK hM (i := a) (by omega) d_Mill_take_28 ?_
              refine lv_aload_n hC.1 hC.2.1 d_Mill_take_29 rfl (lv_at hl 0 rfl) ?_
              refine wm_regs hC hK hM kf_Mill_11 d_Mill_take_30 ?_
              refine lv_iload_n hC.1 hC.2.1 d_Mill_take_33 rfl (lv_at hl 3 rfl) ?_
              refine wm_reg hC hK hM (i := b) (by omega) d_Mill_take_34 ?_
              refine wm_callVi hC hK hM (As := [.ref (ad b)]) (rest := []) (wm_at_o (by omega)) rfl (c_Whole_order l D ad cA cR _ ln wd a b (Mx a) (Mx b) (by omega) (by omega) (hok a (by omega)) (hok b (by omega))) kc_Whole_order km_Mill_58 ki_Whole kn_Whole_order ke_Whole_order kd_Whole_order ⟨rfl, rfl⟩ ⟨Nat.le_of_ble_eq_true rfl, Nat.le_of_ble_eq_true rfl⟩ rfl hl.1 (Nat.le_of_ble_eq_true rfl) d_Mill_take_35 (fun r u H locs hp hM => ?_)
              obtain ⟨hr0, rfl⟩ := hp
              have hM : wm_M D ad cA cR s (ln) (wd) H locs := by
                exact hM
              refine lv_if_ge (tgt := 43) hC.1 hC.2.1 d_Mill_take_38 (by decide) (fun hs => ?_) (fun hs => ?_)
              · have hle : Mx b ≤ Mx a := by
                  rcases Nat.lt_or_ge (Mx a) (Mx b) with z | z
                  · rw [hr0, wm_ord_lt z] at hs; exact absurd hs (by decide)
                  · exact z
                refine lv_aload_n hC.1 hC.2.1 d_Mill_take_43 rfl (lv_at hl 0 rfl) ?_
                refine wm_res hC hK hM kf_Mill_16 d_Mill_take_44 ?_
                refine lv_aload_n hC.1 hC.2.1 d_Mill_take_47 rfl (lv_at hl 0 rfl) ?_
                refine wm_regs hC hK hM kf_Mill_11 d_Mill_take_48 ?_
                refine lv_iload_n hC.1 hC.2.1 d_Mill_take_51 rfl (lv_at hl 2 rfl) ?_
                refine wm_reg hC hK hM (i := a) (by omega) d_Mill_take_52 ?_
                refine lv_aload_n hC.1 hC.2.1 d_Mill_take_53 rfl (lv_at hl 0 rfl) ?_
                refine wm_regs hC hK hM kf_Mill_11 d_Mill_take_54 ?_
                refine lv_iload_n hC.1 hC.2.1 d_Mill_take_57 rfl (lv_at hl 3 rfl) ?_
                refine wm_reg hC hK hM (i := b) (by omega) d_Mill_take_58 ?_
                refine wm_callVv hC hK hM (As := [.ref (ad a), .ref (ad b)]) (rest := []) (wm_at_o (by decide)) rfl (c_Whole_becomeDifference l D ad cA cR _ ln wd 16 a b (Mx a) (Mx b) (by decide) (by omega) (by omega) (by omega) (by omega) (wm_rep_ze (hok 16 (by decide))) (hok a (by omega)) (hok b (by omega)) (by omega) hle) kc_Whole_becomeDifference km_Mill_62 ki_Whole kn_Whole_becomeDifference ke_Whole_becomeDifference kd_Whole_becomeDifference ⟨rfl, rfl⟩ ⟨Nat.le_of_ble_eq_true rfl, Nat.le_of_ble_eq_true rfl⟩ rfl hl.1 (Nat.le_of_ble_eq_true rfl) d_Mill_take_59 (fun u1 H locs hp1 hM => ?_)
                have ok1 := wm_ok_up hok hp1
                refine lv_aload_n hC.1 hC.2.1 d_Mill_take_62 rfl (lv_at hl 0 rfl) ?_
                refine lv_iload_n hC.1 hC.2.1 d_Mill_take_63 rfl (lv_at hl 1 rfl) ?_
                refine wm_callVi hC hK hM (As := [.int (nI (d))]) (rest := []) wm_at_m rfl (c_Mill_keepResult l D ad cA cR _ (u1.1) (u1.2) _ d hd ok1) kc_Mill_keepResult km_Mill_43 ki_Mill kn_Mill_keepResult ke_Mill_keepResult kd_Mill_keepResult ⟨rfl, rfl⟩ ⟨Nat.le_of_ble_eq_true rfl, Nat.le_of_ble_eq_true rfl⟩ rfl hl.1 (Nat.le_of_ble_eq_true rfl) d_Mill_take_64 (fun r uk H locs hpk hM => ?_)
                have hfin := wm_fin1 (N := N) hpk ok1 (fun j hj => by rw [va_up_ne _ _ (by omega)]; exact he j hj) hL (X := N a - N b) (by rw [va_up_self, he a ha, he b hb]) (Nat.lt_of_le_of_lt (Nat.sub_le _ _) (hL a ha))
                rw [he a ha, he b hb] at hle
                exact wm_zret hC hK hM hr hlk (wm_kept_n hpk) (by simp only [sp_take, sp_3, sp_ix_ok hd, sp_ix_ok ha, sp_ix_ok hb]; rw [if_neg (Nat.not_lt.mpr hle)]; exact hfin) d_Mill_take_67
              · have hlt : N a < N b := by
                  rw [← he a ha, ← he b hb]
                  rcases Nat.lt_trichotomy (Mx a) (Mx b) with z | z | z
                  · exact z
                  · rw [hr0, wm_ord_eq z] at hs; exact absurd (show (0 : Int32) ≤ 0 by decide) hs
                  · rw [hr0, wm_ord_gt z] at hs; exact absurd (show (0 : Int32) ≤ 1 by decide) hs
                refine lv_iconst (v := nI 0) hC.1 hC.2.1 d_Mill_take_41 (by decide) ?_
                exact wm_zret hC hK hM hr hlk rfl ⟨by simp only [sp_take, sp_3, sp_ix_ok hd, sp_ix_ok ha, sp_ix_ok hb]; rw [if_pos hlt]; rfl, by simp only [sp_take, sp_3, sp_ix_ok hd, sp_ix_ok ha, sp_ix_ok hb]; rw [if_pos hlt]; exact hR⟩ d_Mill_take_42
            · exact absurd hz (by decide)
          · refine nv_if_ne (tgt := 23) hC (by omega) d_Mill_take_18 (by decide) (fun hz => ?_) (fun hz => ?_)
            · exact absurd rfl hz
            · refine lv_iconst (v := nI 0) hC.1 hC.2.1 d_Mill_take_21 (by decide) ?_
              exact wm_zret hC hK hM hr hlk rfl (⟨by simp only [sp_take, sp_3, sp_no, sp_ix_ok hd, sp_ix_ok ha, sp_ix_no hno], by simp only [sp_take, sp_3, sp_no, sp_ix_ok hd, sp_ix_ok ha, sp_ix_no hno]; exact hR⟩) d_Mill_take_22
      · refine nv_if_eq (tgt := 21) hC (by omega) d_Mill_take_11 (by decide) (fun hz => ?_) (fun hz => ?_)
        · refine lv_iconst (v := nI 0) hC.1 hC.2.1 d_Mill_take_21 (by decide) ?_
          exact wm_zret hC hK hM hr hlk rfl (⟨by simp only [sp_take, sp_3, sp_no, sp_ix_ok hd, sp_ix_no hno], by simp only [sp_take, sp_3, sp_no, sp_ix_ok hd, sp_ix_no hno]; exact hR⟩) d_Mill_take_22
        · exact absurd rfl hz
  · refine nv_if_eq (tgt := 21) hC (by omega) d_Mill_take_4 (by decide) (fun hz => ?_) (fun hz => ?_)
    · refine lv_iconst (v := nI 0) hC.1 hC.2.1 d_Mill_take_21 (by decide) ?_
      exact wm_zret hC hK hM hr hlk rfl (⟨by simp only [sp_take, sp_3, sp_no, sp_ix_no hno], by simp only [sp_take, sp_3, sp_no, sp_ix_no hno]; exact hR⟩) d_Mill_take_22
    · exact absurd rfl hz
