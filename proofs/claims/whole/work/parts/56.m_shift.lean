set_option maxHeartbeats 4000000 in
set_option maxRecDepth 100000 in
theorem c_Mill_shift (l : Launch) (D : va_G) (ad : Nat → Nat) (cA cR : ClassId) (sz : Nat) (ln : Nat → Nat) (wd : Nat → Nat → Int32) (N : Nat → Nat) (hR : wm_R N ln wd) (x y n0 : Int32) : Met l y_Mill_shift (Cond.code y_Mill_shift b_Mill_shift 4 (some .boolean) :: lw_T) ({ frames := 3, cells := 0, slots := 0, locals := 69 }) (va_Pc [.ref (ad 38), .int (x), .int (y), .int (n0)] (wm_B D ad cA cR sz ln wd)) (va_Qi (fun (r : Int32) (u : wm_St) => r = (sp_shift N x y n0).1 ∧ wm_R (sp_shift N x y n0).2 u.1 u.2) (wm_E D ad cA cR sz) (wm_A ad sz)) 0 0 (wm_A ad sz) := by
  refine wm_met l (by decide) (Nat.le_of_ble_eq_true rfl) ?_
  intro p e s m below meth c ls hsz hC hK hr hlk hM hl
  subst hsz
  have hC : CallFix p m c b_Mill_shift 4 s _ lw_T R_Mill := hC
  have hl : lv_has ls 4 [(0, .ref (ad 38)), (1, .int (x)), (2, .int (y)), (3, .int (n0))] := hl
  obtain ⟨⟨Mx, hok, he⟩, hL⟩ := id hR
  refine lv_iload_n hC.1 hC.2.1 d_Mill_shift_0 rfl (lv_at hl 1 rfl) ?_
  refine wm_callPi hC hK hM (As := [.int (x)]) (rest := []) (c_Mill_isRegister l _ x) kc_Mill_isRegister km_Mill_26 ki_Mill ks_Mill_isRegister kd_Mill_isRegister ⟨rfl, rfl⟩ ⟨Nat.le_of_ble_eq_true rfl, Nat.le_of_ble_eq_true rfl⟩ rfl hl.1 (Nat.le_of_ble_eq_true rfl) d_Mill_shift_1 (fun r H locs hp hM => ?_)
  rcases hp with ⟨d, hd, rfl, rfl⟩ | ⟨hno, rfl⟩
  · refine nv_if_eq (tgt := 14) hC (by omega) d_Mill_shift_4 (by decide) (fun hz => ?_) (fun hz => ?_)
    · exact absurd hz (by decide)
    · refine lv_iload_n hC.1 hC.2.1 d_Mill_shift_7 rfl (lv_at hl 2 rfl) ?_
      refine wm_callPi hC hK hM (As := [.int (y)]) (rest := []) (c_Mill_isRegister l _ y) kc_Mill_isRegister km_Mill_26 ki_Mill ks_Mill_isRegister kd_Mill_isRegister ⟨rfl, rfl⟩ ⟨Nat.le_of_ble_eq_true rfl, Nat.le_of_ble_eq_true rfl⟩ rfl hl.1 (Nat.le_of_ble_eq_true rfl) d_Mill_shift_8 (fun r H locs hp hM => ?_)
      rcases hp with ⟨a, ha, rfl, rfl⟩ | ⟨hno, rfl⟩
      · refine nv_if_ne (tgt := 16) hC (by omega) d_Mill_shift_11 (by decide) (fun hz => ?_) (fun hz => ?_)
        · have l1 := wm_len16 (hok a (by omega)) (by rw [he a ha]; exact hL a ha)
          have hbb : wm_bl (Mx a) ≤ 65536 := sp_bl.mpr (by rw [he a ha]; exact hL a ha)
          refine lv_iload_n hC.1 hC.2.1 d_Mill_shift_16 rfl (lv_at hl 3 rfl) ?_
          refine lv_if_le (tgt := 32) hC.1 hC.2.1 d_Mill_shift_17 (by decide) (fun hle => ?_) (fun hle => ?_)
          · refine lv_aload_n hC.1 hC.2.1 d_Mill_shift_32 rfl (lv_at hl 0 rfl) ?_
            refine wm_res hC hK hM kf_Mill_16 d_Mill_shift_33 ?_
            refine lv_aload_n hC.1 hC.2.1 d_Mill_shift_36 rfl (lv_at hl 0 rfl) ?_
            refine wm_regs hC hK hM kf_Mill_11 d_Mill_shift_37 ?_
            refine lv_iload_n hC.1 hC.2.1 d_Mill_shift_40 rfl (lv_at hl 2 rfl) ?_
            refine wm_reg hC hK hM (i := a) (by omega) d_Mill_shift_41 ?_
            refine lv_iload_n hC.1 hC.2.1 d_Mill_shift_42 rfl (lv_at hl 3 rfl) ?_
            refine lv_ldc (v := -65536) hC.1 hC.2.1 hC.2.2.2.1 (hC.2.2.2.2 _ kk_Mill_84) d_Mill_shift_43 ?_
            refine lv_icmp_gt (tgt := 53) hC.1 hC.2.1 d_Mill_shift_45 (by decide) (fun h45 => ?_) (fun h45 => ?_)
            · refine lv_iload_n hC.1 hC.2.1 d_Mill_shift_53 rfl (lv_at hl 3 rfl) ?_
              refine nv_mabs hC hl.1 kj_Mill_86 kj_s_abs ki_Math kj_c_abs (Nat.le_of_ble_eq_true rfl) (Nat.le_of_ble_eq_true rfl) d_Mill_shift_54 ?_
              obtain ⟨k, hk, hka, hkn⟩ := sp_neg hle h45
              refine nv_top (y := nI (k)) (by rw [hka]) ?_
              refine wm_callVv hC hK hM (As := [.ref (ad a), .int (nI (k))]) (rest := []) (wm_at_o (by decide)) rfl (c_Whole_becomeShiftedRight l D ad cA cR _ ln wd 16 a (Mx a) k (by decide) (by omega) (wm_rep_ze (hok 16 (by decide))) (hok a (by omega)) (by omega) (by omega)) kc_Whole_becomeShiftedRight km_Mill_92 ki_Whole kn_Whole_becomeShiftedRight ke_Whole_becomeShiftedRight kd_Whole_becomeShiftedRight ⟨rfl, rfl⟩ ⟨Nat.le_of_ble_eq_true rfl, Nat.le_of_ble_eq_true rfl⟩ rfl hl.1 (Nat.le_of_ble_eq_true rfl) d_Mill_shift_57 (fun u1 H locs hp1 hM => ?_)
              have ok1 := wm_ok_up hok hp1
              refine lv_aload_n hC.1 hC.2.1 d_Mill_shift_60 rfl (lv_at hl 0 rfl) ?_
              refine lv_iload_n hC.1 hC.2.1 d_Mill_shift_61 rfl (lv_at hl 1 rfl) ?_
              refine wm_callVi hC hK hM (As := [.int (nI (d))]) (rest := []) wm_at_m rfl (c_Mill_keepResult l D ad cA cR _ (u1.1) (u1.2) _ d hd ok1) kc_Mill_keepResult km_Mill_43 ki_Mill kn_Mill_keepResult ke_Mill_keepResult kd_Mill_keepResult ⟨rfl, rfl⟩ ⟨Nat.le_of_ble_eq_true rfl, Nat.le_of_ble_eq_true rfl⟩ rfl hl.1 (Nat.le_of_ble_eq_true rfl) d_Mill_shift_62 (fun r uk H locs hpk hM => ?_)
              have hfin := wm_fin1 (N := N) hpk ok1 (fun j hj => by rw [va_up_ne _ _ (by omega)]; exact he j hj) hL (X := N a / 2 ^ k) (by rw [va_up_self, he a ha]) (Nat.lt_of_le_of_lt (Nat.div_le_self _ _) (hL a ha))
              have hpost : _ := sp_shift_neg (N := N) hd ha hle hkn hfin
              exact wm_zret hC hK hM hr hlk (wm_kept_n hpk) hpost d_Mill_shift_65
            · refine lv_ldc (v := nI 65536) hC.1 hC.2.1 hC.2.2.2.1 (hC.2.2.2.2 _ kk_Mill_85) d_Mill_shift_48 ?_
              refine lv_goto (tgt := 57) hC.1 hC.2.1 d_Mill_shift_50 (by decide) ?_
              refine wm_callVv hC hK hM (As := [.ref (ad a), .int (nI (65536))]) (rest := []) (wm_at_o (by decide)) rfl (c_Whole_becomeShiftedRight l D ad cA cR _ ln wd 16 a (Mx a) 65536 (by decide) (by omega) (wm_rep_ze (hok 16 (by decide))) (hok a (by omega)) (by omega) (by decide)) kc_Whole_becomeShiftedRight km_Mill_92 ki_Whole kn_Whole_becomeShiftedRight ke_Whole_becomeShiftedRight kd_Whole_becomeShiftedRight ⟨rfl, rfl⟩ ⟨Nat.le_of_ble_eq_true rfl, Nat.le_of_ble_eq_true rfl⟩ rfl hl.1 (Nat.le_of_ble_eq_true rfl) d_Mill_shift_57 (fun u1 H locs hp1 hM => ?_)
              have ok1 := wm_ok_up hok hp1
              refine lv_aload_n hC.1 hC.2.1 d_Mill_shift_60 rfl (lv_at hl 0 rfl) ?_
              refine lv_iload_n hC.1 hC.2.1 d_Mill_shift_61 rfl (lv_at hl 1 rfl) ?_
              refine wm_callVi hC hK hM (As := [.int (nI (d))]) (rest := []) wm_at_m rfl (c_Mill_keepResult l D ad cA cR _ (u1.1) (u1.2) _ d hd ok1) kc_Mill_keepResult km_Mill_43 ki_Mill kn_Mill_keepResult ke_Mill_keepResult kd_Mill_keepResult ⟨rfl, rfl⟩ ⟨Nat.le_of_ble_eq_true rfl, Nat.le_of_ble_eq_true rfl⟩ rfl hl.1 (Nat.le_of_ble_eq_true rfl) d_Mill_shift_62 (fun r uk H locs hpk hM => ?_)
              have hfin := wm_fin1 (N := N) hpk ok1 (fun j hj => by rw [va_up_ne _ _ (by omega)]; exact he j hj) hL (X := N a / 2 ^ 65536) (by rw [va_up_self, he a ha]) (Nat.lt_of_le_of_lt (Nat.div_le_self _ _) (hL a ha))
              have hpost : _ := sp_shift_far (N := N) hd ha h45 (hL a ha) hfin
              exact wm_zret hC hK hM hr hlk (wm_kept_n hpk) hpost d_Mill_shift_65
          · obtain ⟨k, hk, rfl⟩ := nI_of (x := n0) (fun z => hle (Int32.le_of_lt z))
            have hk0 : 0 < k := by
              rcases Nat.eq_zero_or_pos k with z | z
              · subst z; exact absurd (show nI 0 ≤ 0 by decide) hle
              · exact z
            refine lv_aload_n hC.1 hC.2.1 d_Mill_shift_20 rfl (lv_at hl 0 rfl) ?_
            refine wm_regs hC hK hM kf_Mill_11 d_Mill_shift_21 ?_
            refine lv_iload_n hC.1 hC.2.1 d_Mill_shift_24 rfl (lv_at hl 2 rfl) ?_
            refine wm_reg hC hK hM (i := a) (by omega) d_Mill_shift_25 ?_
            refine wm_len hC hK hM (j := a) (by omega) kf_Mill_69 d_Mill_shift_26 ?_
            refine nv_if_ne (tgt := 66) hC (by omega) d_Mill_shift_29 (by decide) (fun hla => ?_) (fun hla => ?_)
            · have ha0 : 0 < Mx a := Nat.pos_of_ne_zero (fun z => hla ((wm_rep_0 (hok a (by omega))).mpr z))
              refine lv_iload_n hC.1 hC.2.1 d_Mill_shift_66 rfl (lv_at hl 3 rfl) ?_
              refine lv_ldc (v := nI 65536) hC.1 hC.2.1 hC.2.2.2.1 (hC.2.2.2.2 _ kk_Mill_85) d_Mill_shift_67 ?_
              refine lv_aload_n hC.1 hC.2.1 d_Mill_shift_69 rfl (lv_at hl 0 rfl) ?_
              refine wm_regs hC hK hM kf_Mill_11 d_Mill_shift_70 ?_
              refine lv_iload_n hC.1 hC.2.1 d_Mill_shift_73 rfl (lv_at hl 2 rfl) ?_
              refine wm_reg hC hK hM (i := a) (by omega) d_Mill_shift_74 ?_
              refine wm_callVi hC hK hM (As := []) (rest := [.int (nI (65536)), .int (nI (k))]) (wm_at_o (by omega)) rfl (c_Whole_size l D ad cA cR _ ln wd a (Mx a) (by omega) (hok a (by omega))) kc_Whole_size km_Mill_30 ki_Whole kn_Whole_size ke_Whole_size kd_Whole_size ⟨rfl, rfl⟩ ⟨Nat.le_of_ble_eq_true rfl, Nat.le_of_ble_eq_true rfl⟩ rfl hl.1 (Nat.le_of_ble_eq_true rfl) d_Mill_shift_75 (fun r u H locs hp hM => ?_)
              obtain ⟨rfl, rfl⟩ := hp
              have hM : wm_M D ad cA cR s (ln) (wd) H locs := by
                exact hM
              refine nv_isub hC (by omega) d_Mill_shift_78 ?_
              refine nv_icmp_le (tgt := 84) hC (by omega) (by omega) d_Mill_shift_79 (by decide) (fun hc => ?_) (fun hc => ?_)
              · obtain ⟨n', hn'⟩ : ∃ z, ln a = z + 1 := ⟨ln a - 1, by omega⟩
                have hw := wm_bl_words (f := wd a) (n := n') (N := Mx a) (by rw [← hn']; exact hok a (by omega))
                refine lv_aload_n hC.1 hC.2.1 d_Mill_shift_84 rfl (lv_at hl 0 rfl) ?_
                refine wm_res hC hK hM kf_Mill_16 d_Mill_shift_85 ?_
                refine lv_aload_n hC.1 hC.2.1 d_Mill_shift_88 rfl (lv_at hl 0 rfl) ?_
                refine wm_regs hC hK hM kf_Mill_11 d_Mill_shift_89 ?_
                refine lv_iload_n hC.1 hC.2.1 d_Mill_shift_92 rfl (lv_at hl 2 rfl) ?_
                refine wm_reg hC hK hM (i := a) (by omega) d_Mill_shift_93 ?_
                refine lv_iload_n hC.1 hC.2.1 d_Mill_shift_94 rfl (lv_at hl 3 rfl) ?_
                refine wm_callVv hC hK hM (As := [.ref (ad a), .int (nI (k))]) (rest := []) (wm_at_o (by decide)) rfl (c_Whole_becomeShiftedLeft l D ad cA cR _ ln wd 16 a (Mx a) k (by decide) (by omega) (by omega) (wm_rep_ze (hok 16 (by decide))) (hok a (by omega)) (by omega) (by omega)) kc_Whole_becomeShiftedLeft km_Mill_35 ki_Whole kn_Whole_becomeShiftedLeft ke_Whole_becomeShiftedLeft kd_Whole_becomeShiftedLeft ⟨rfl, rfl⟩ ⟨Nat.le_of_ble_eq_true rfl, Nat.le_of_ble_eq_true rfl⟩ rfl hl.1 (Nat.le_of_ble_eq_true rfl) d_Mill_shift_95 (fun u1 H locs hp1 hM => ?_)
                have ok1 := wm_ok_up hok hp1
                refine lv_aload_n hC.1 hC.2.1 d_Mill_shift_98 rfl (lv_at hl 0 rfl) ?_
                refine lv_iload_n hC.1 hC.2.1 d_Mill_shift_99 rfl (lv_at hl 1 rfl) ?_
                refine wm_callVi hC hK hM (As := [.int (nI (d))]) (rest := []) wm_at_m rfl (c_Mill_keepResult l D ad cA cR _ (u1.1) (u1.2) _ d hd ok1) kc_Mill_keepResult km_Mill_43 ki_Mill kn_Mill_keepResult ke_Mill_keepResult kd_Mill_keepResult ⟨rfl, rfl⟩ ⟨Nat.le_of_ble_eq_true rfl, Nat.le_of_ble_eq_true rfl⟩ rfl hl.1 (Nat.le_of_ble_eq_true rfl) d_Mill_shift_100 (fun r uk H locs hpk hM => ?_)
                have hfin := wm_fin (N := N) hpk ok1 (fun j hj => by rw [va_up_ne _ _ (by omega)]; exact he j hj) hL (X := N a * 2 ^ k) (by rw [va_up_self, he a ha])
                exact wm_zret hC hK hM hr hlk (wm_kept_n hpk) (sp_shift_pos hd ha hk hfin) d_Mill_shift_103
              · refine lv_iconst (v := nI 0) hC.1 hC.2.1 d_Mill_shift_82 (by decide) ?_
                exact wm_zret hC hK hM hr hlk rfl (sp_shift_pos hd ha hk (by rw [sp_putv, if_neg (Nat.not_lt.mpr (by rw [← he a ha]; exact sp_shl_big ha0 (by omega)))]; exact ⟨rfl, hR⟩)) d_Mill_shift_83
            · have hN0 : N a = 0 := by rw [← he a ha]; exact (wm_rep_0 (hok a (by omega))).mp hla
              refine lv_aload_n hC.1 hC.2.1 d_Mill_shift_32 rfl (lv_at hl 0 rfl) ?_
              refine wm_res hC hK hM kf_Mill_16 d_Mill_shift_33 ?_
              refine lv_aload_n hC.1 hC.2.1 d_Mill_shift_36 rfl (lv_at hl 0 rfl) ?_
              refine wm_regs hC hK hM kf_Mill_11 d_Mill_shift_37 ?_
              refine lv_iload_n hC.1 hC.2.1 d_Mill_shift_40 rfl (lv_at hl 2 rfl) ?_
              refine wm_reg hC hK hM (i := a) (by omega) d_Mill_shift_41 ?_
              refine lv_iload_n hC.1 hC.2.1 d_Mill_shift_42 rfl (lv_at hl 3 rfl) ?_
              refine lv_ldc (v := -65536) hC.1 hC.2.1 hC.2.2.2.1 (hC.2.2.2.2 _ kk_Mill_84) d_Mill_shift_43 ?_
              refine lv_icmp_gt (tgt := 53) hC.1 hC.2.1 d_Mill_shift_45 (by decide) (fun h45 => ?_) (fun h45 => ?_)
              · refine lv_iload_n hC.1 hC.2.1 d_Mill_shift_53 rfl (lv_at hl 3 rfl) ?_
                refine nv_mabs hC hl.1 kj_Mill_86 kj_s_abs ki_Math kj_c_abs (Nat.le_of_ble_eq_true rfl) (Nat.le_of_ble_eq_true rfl) d_Mill_shift_54 ?_
                refine nv_top (y := nI (k)) (if_pos (nI_pos' hk)) ?_
                refine wm_callVv hC hK hM (As := [.ref (ad a), .int (nI (k))]) (rest := []) (wm_at_o (by decide)) rfl (c_Whole_becomeShiftedRight l D ad cA cR _ ln wd 16 a (Mx a) k (by decide) (by omega) (wm_rep_ze (hok 16 (by decide))) (hok a (by omega)) (by omega) hk) kc_Whole_becomeShiftedRight km_Mill_92 ki_Whole kn_Whole_becomeShiftedRight ke_Whole_becomeShiftedRight kd_Whole_becomeShiftedRight ⟨rfl, rfl⟩ ⟨Nat.le_of_ble_eq_true rfl, Nat.le_of_ble_eq_true rfl⟩ rfl hl.1 (Nat.le_of_ble_eq_true rfl) d_Mill_shift_57 (fun u1 H locs hp1 hM => ?_)
                have ok1 := wm_ok_up hok hp1
                refine lv_aload_n hC.1 hC.2.1 d_Mill_shift_60 rfl (lv_at hl 0 rfl) ?_
                refine lv_iload_n hC.1 hC.2.1 d_Mill_shift_61 rfl (lv_at hl 1 rfl) ?_
                refine wm_callVi hC hK hM (As := [.int (nI (d))]) (rest := []) wm_at_m rfl (c_Mill_keepResult l D ad cA cR _ (u1.1) (u1.2) _ d hd ok1) kc_Mill_keepResult km_Mill_43 ki_Mill kn_Mill_keepResult ke_Mill_keepResult kd_Mill_keepResult ⟨rfl, rfl⟩ ⟨Nat.le_of_ble_eq_true rfl, Nat.le_of_ble_eq_true rfl⟩ rfl hl.1 (Nat.le_of_ble_eq_true rfl) d_Mill_shift_62 (fun r uk H locs hpk hM => ?_)
                have hfin := wm_fin1 (N := N) hpk ok1 (fun j hj => by rw [va_up_ne _ _ (by omega)]; exact he j hj) hL (X := N a / 2 ^ k) (by rw [va_up_self, he a ha]) (Nat.lt_of_le_of_lt (Nat.div_le_self _ _) (hL a ha))
                have hpost : _ := sp_shift_pos (N := N) hd ha hk (r := r) (u := uk) (by
                  rw [hN0, Nat.zero_div] at hfin
                  rw [sp_putv, hN0, Nat.zero_mul, if_pos (by rw [← hN0]; exact hL a ha)]
                  exact hfin)
                exact wm_zret hC hK hM hr hlk (wm_kept_n hpk) hpost d_Mill_shift_65
              · refine lv_ldc (v := nI 65536) hC.1 hC.2.1 hC.2.2.2.1 (hC.2.2.2.2 _ kk_Mill_85) d_Mill_shift_48 ?_
                refine lv_goto (tgt := 57) hC.1 hC.2.1 d_Mill_shift_50 (by decide) ?_
                exact absurd (show -65536 < nI k from Int32.lt_of_lt_of_le (by decide) (nI_pos' hk)) h45
        · exact absurd hz (by decide)
      · refine nv_if_ne (tgt := 16) hC (by omega) d_Mill_shift_11 (by decide) (fun hz => ?_) (fun hz => ?_)
        · exact absurd rfl hz
        · refine lv_iconst (v := nI 0) hC.1 hC.2.1 d_Mill_shift_14 (by decide) ?_
          exact wm_zret hC hK hM hr hlk rfl (⟨by simp only [sp_shift, sp_3, sp_no, sp_ix_ok hd, sp_ix_no hno], by simp only [sp_shift, sp_3, sp_no, sp_ix_ok hd, sp_ix_no hno]; exact hR⟩) d_Mill_shift_15
  · refine nv_if_eq (tgt := 14) hC (by omega) d_Mill_shift_4 (by decide) (fun hz => ?_) (fun hz => ?_)
    · refine lv_iconst (v := nI 0) hC.1 hC.2.1 d_Mill_shift_14 (by decide) ?_
      exact wm_zret hC hK hM hr hlk rfl (⟨by simp only [sp_shift, sp_3, sp_no, sp_ix_no hno], by simp only [sp_shift, sp_3, sp_no, sp_ix_no hno]; exact hR⟩) d_Mill_shift_15
    · exact absurd rfl hz
set_option maxHeartbeats 4000000 in
set_option maxRecDepth 100000 in
theorem c_Mill_part (l : Launch) (D : va_G) (ad : Nat → Nat) (cA cR : ClassId) (sz : Nat) (ln : Nat → Nat) (wd : Nat → Nat → Int32) (N : Nat → Nat) (hR : wm_R N ln wd) (x y f0 n0 : Int32) : Met l y_Mill_part (Cond.code y_Mill_part b_Mill_part 5 (some .boolean) :: lw_T) ({ frames := 3, cells := 0, slots := 0, locals := 68 }) (va_Pc [.ref (ad 38), .int (x), .int (y), .int (f0), .int (n0)] (wm_B D ad cA cR sz ln wd)) (va_Qi (fun (r : Int32) (u : wm_St) => r = (sp_part N x y f0 n0).1 ∧ wm_R (sp_part N x y f0 n0).2 u.1 u.2) (wm_E D ad cA cR sz) (wm_A ad sz)) 0 0 (wm_A ad sz) := by
  refine wm_met l (by decide) (Nat.le_of_ble_eq_true rfl) ?_
  intro p e s m below meth c ls hsz hC hK hr hlk hM hl
  subst hsz
  have hC : CallFix p m c b_Mill_part 5 s _ lw_T R_Mill := hC
  have hl : lv_has ls 5 [(0, .ref (ad 38)), (1, .int (x)), (2, .int (y)), (3, .int (f0)), (4, .int (n0))] := hl
  obtain ⟨⟨Mx, hok, he⟩, hL⟩ := id hR
  refine lv_iload_n hC.1 hC.2.1 d_Mill_part_0 rfl (lv_at hl 1 rfl) ?_
  refine wm_callPi hC hK hM (As := [.int (x)]) (rest := []) (c_Mill_isRegister l _ x) kc_Mill_isRegister km_Mill_26 ki_Mill ks_Mill_isRegister kd_Mill_isRegister ⟨rfl, rfl⟩ ⟨Nat.le_of_ble_eq_true rfl, Nat.le_of_ble_eq_true rfl⟩ rfl hl.1 (Nat.le_of_ble_eq_true rfl) d_Mill_part_1 (fun r H locs hp hM => ?_)
  rcases hp with ⟨d, hd, rfl, rfl⟩ | ⟨hno, rfl⟩
  · refine nv_if_eq (tgt := 23) hC (by omega) d_Mill_part_4 (by decide) (fun hz => ?_) (fun hz => ?_)
    · exact absurd hz (by decide)
    · refine lv_iload_n hC.1 hC.2.1 d_Mill_part_7 rfl (lv_at hl 2 rfl) ?_
      refine wm_callPi hC hK hM (As := [.int (y)]) (rest := []) (c_Mill_isRegister l _ y) kc_Mill_isRegister km_Mill_26 ki_Mill ks_Mill_isRegister kd_Mill_isRegister ⟨rfl, rfl⟩ ⟨Nat.le_of_ble_eq_true rfl, Nat.le_of_ble_eq_true rfl⟩ rfl hl.1 (Nat.le_of_ble_eq_true rfl) d_Mill_part_8 (fun r H locs hp hM => ?_)
      rcases hp with ⟨a, ha, rfl, rfl⟩ | ⟨hno, rfl⟩
      · refine nv_if_eq (tgt := 23) hC (by omega) d_Mill_part_11 (by decide) (fun hz => ?_) (fun hz => ?_)
        · exact absurd hz (by decide)
        · have l1 := wm_len16 (hok a (by omega)) (by rw [he a ha]; exact hL a ha)
          refine lv_iload_n hC.1 hC.2.1 d_Mill_part_14 rfl (lv_at hl 3 rfl) ?_
          refine lv_if_lt (tgt := 23) hC.1 hC.2.1 d_Mill_part_15 (by decide) (fun h1 => ?_) (fun h1 => ?_)
          · refine lv_iconst (v := nI 0) hC.1 hC.2.1 d_Mill_part_23 (by decide) ?_
            have hcd : f0 < 0 ∨ n0 < 0 := Or.inl h1
            exact wm_zret hC hK hM hr hlk rfl ⟨by simp only [sp_part, sp_ix_ok hd, sp_ix_ok ha]; rw [if_pos hcd]; rfl, by simp only [sp_part, sp_ix_ok hd, sp_ix_ok ha]; rw [if_pos hcd]; exact hR⟩ d_Mill_part_24
          · refine lv_iload hC.1 hC.2.1 d_Mill_part_18 (lv_at hl 4 rfl) ?_
            refine lv_if_ge (tgt := 25) hC.1 hC.2.1 d_Mill_part_20 (by decide) (fun h2 => ?_) (fun h2 => ?_)
            · obtain ⟨fr, hfr, ef⟩ := nI_of h1
              obtain ⟨k, hk, en⟩ := nI_of (Int32.not_lt.mpr h2)
              subst ef en
              refine lv_aload_n hC.1 hC.2.1 d_Mill_part_25 rfl (lv_at hl 0 rfl) ?_
              refine wm_res hC hK hM kf_Mill_16 d_Mill_part_26 ?_
              refine lv_aload_n hC.1 hC.2.1 d_Mill_part_29 rfl (lv_at hl 0 rfl) ?_
              refine wm_regs hC hK hM kf_Mill_11 d_Mill_part_30 ?_
              refine lv_iload_n hC.1 hC.2.1 d_Mill_part_33 rfl (lv_at hl 2 rfl) ?_
              refine wm_reg hC hK hM (i := a) (by omega) d_Mill_part_34 ?_
              refine lv_iload_n hC.1 hC.2.1 d_Mill_part_35 rfl (lv_at hl 3 rfl) ?_
              refine lv_ldc (v := nI 65536) hC.1 hC.2.1 hC.2.2.2.1 (hC.2.2.2.2 _ kk_Mill_85) d_Mill_part_36 ?_
              refine nv_mmin hC hl.1 kj_Mill_95 kj_s_min ki_Math kj_c_min (Nat.le_of_ble_eq_true rfl) (Nat.le_of_ble_eq_true rfl) d_Mill_part_38 ?_
              refine nv_top (y := nI (min fr 65536)) (nv_mini (by omega) (by omega)) ?_
              refine wm_callVv hC hK hM (As := [.ref (ad a), .int (nI (min fr 65536))]) (rest := []) (wm_at_o (by decide)) rfl (c_Whole_becomeShiftedRight l D ad cA cR _ ln wd 16 a (Mx a) (min fr 65536) (by decide) (by omega) (wm_rep_ze (hok 16 (by decide))) (hok a (by omega)) (by omega) (by omega)) kc_Whole_becomeShiftedRight km_Mill_92 ki_Whole kn_Whole_becomeShiftedRight ke_Whole_becomeShiftedRight kd_Whole_becomeShiftedRight ⟨rfl, rfl⟩ ⟨Nat.le_of_ble_eq_true rfl, Nat.le_of_ble_eq_true rfl⟩ rfl hl.1 (Nat.le_of_ble_eq_true rfl) d_Mill_part_41 (fun u1 H locs hp1 hM => ?_)
              have ok1 := wm_ok_up hok hp1
              refine lv_aload_n hC.1 hC.2.1 d_Mill_part_44 rfl (lv_at hl 0 rfl) ?_
              refine wm_res hC hK hM kf_Mill_16 d_Mill_part_45 ?_
              refine lv_iload hC.1 hC.2.1 d_Mill_part_48 (lv_at hl 4 rfl) ?_
              refine wm_callVv hC hK hM (As := [.int (nI (k))]) (rest := []) (wm_at_o (by decide)) rfl (c_Whole_keepLowest l D ad cA cR _ (u1.1) (u1.2) 16 k _ (by decide) hk (wm_ok_self ok1 (by decide))) kc_Whole_keepLowest km_Mill_99 ki_Whole kn_Whole_keepLowest ke_Whole_keepLowest kd_Whole_keepLowest ⟨rfl, rfl⟩ ⟨Nat.le_of_ble_eq_true rfl, Nat.le_of_ble_eq_true rfl⟩ rfl hl.1 (Nat.le_of_ble_eq_true rfl) d_Mill_part_50 (fun u2 H locs hp2 hM => ?_)
              have ok2 := wm_ok_up ok1 hp2
              refine lv_aload_n hC.1 hC.2.1 d_Mill_part_53 rfl (lv_at hl 0 rfl) ?_
              refine lv_iload_n hC.1 hC.2.1 d_Mill_part_54 rfl (lv_at hl 1 rfl) ?_
              refine wm_callVi hC hK hM (As := [.int (nI (d))]) (rest := []) wm_at_m rfl (c_Mill_keepResult l D ad cA cR _ (u2.1) (u2.2) _ d hd ok2) kc_Mill_keepResult km_Mill_43 ki_Mill kn_Mill_keepResult ke_Mill_keepResult kd_Mill_keepResult ⟨rfl, rfl⟩ ⟨Nat.le_of_ble_eq_true rfl, Nat.le_of_ble_eq_true rfl⟩ rfl hl.1 (Nat.le_of_ble_eq_true rfl) d_Mill_part_55 (fun r uk H locs hpk hM => ?_)
              have hfin := wm_fin1 (N := N) hpk ok2 (fun j hj => by rw [va_up_ne _ _ (by omega), va_up_ne _ _ (by omega)]; exact he j hj) hL (X := N a / 2 ^ fr % 2 ^ k) (by rw [va_up_self, he a ha, sp_min (hL a ha)]) (Nat.lt_of_le_of_lt (Nat.mod_le _ _) (Nat.lt_of_le_of_lt (Nat.div_le_self _ _) (hL a ha)))
              have hcd : ¬ (nI fr < 0 ∨ nI k < 0) := fun z => by
                rcases z with z | z
                · exact h1 z
                · exact absurd z (Int32.not_lt.mpr h2)
              exact wm_zret hC hK hM hr hlk (wm_kept_n hpk) (by simp only [sp_part, sp_ix_ok hd, sp_ix_ok ha]; rw [if_neg hcd, nI_clamp hfr, nI_clamp hk]; exact hfin) d_Mill_part_58
            · refine lv_iconst (v := nI 0) hC.1 hC.2.1 d_Mill_part_23 (by decide) ?_
              have hcd : f0 < 0 ∨ n0 < 0 := Or.inr (Int32.not_le.mp h2)
              exact wm_zret hC hK hM hr hlk rfl ⟨by simp only [sp_part, sp_ix_ok hd, sp_ix_ok ha]; rw [if_pos hcd]; rfl, by simp only [sp_part, sp_ix_ok hd, sp_ix_ok ha]; rw [if_pos hcd]; exact hR⟩ d_Mill_part_24
      · refine nv_if_eq (tgt := 23) hC (by omega) d_Mill_part_11 (by decide) (fun hz => ?_) (fun hz => ?_)
        · refine lv_iconst (v := nI 0) hC.1 hC.2.1 d_Mill_part_23 (by decide) ?_
          exact wm_zret hC hK hM hr hlk rfl (⟨by simp only [sp_part, sp_3, sp_no, sp_ix_ok hd, sp_ix_no hno], by simp only [sp_part, sp_3, sp_no, sp_ix_ok hd, sp_ix_no hno]; exact hR⟩) d_Mill_part_24
        · exact absurd rfl hz
  · refine nv_if_eq (tgt := 23) hC (by omega) d_Mill_part_4 (by decide) (fun hz => ?_) (fun hz => ?_)
    · refine lv_iconst (v := nI 0) hC.1 hC.2.1 d_Mill_part_23 (by decide) ?_
      exact wm_zret hC hK hM hr hlk rfl (⟨by simp only [sp_part, sp_3, sp_no, sp_ix_no hno], by simp only [sp_part, sp_3, sp_no, sp_ix_no hno]; exact hR⟩) d_Mill_part_24
    · exact absurd rfl hz
