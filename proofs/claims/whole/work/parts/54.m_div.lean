set_option maxHeartbeats 4000000 in
set_option maxRecDepth 100000 in
theorem c_Mill_times (l : Launch) (D : va_G) (ad : Nat → Nat) (cA cR : ClassId) (sz : Nat) (ln : Nat → Nat) (wd : Nat → Nat → Int32) (N : Nat → Nat) (hR : wm_R N ln wd) (x y z : Int32) : Met l y_Mill_times (Cond.code y_Mill_times b_Mill_times 4 (some .boolean) :: lw_T) ({ frames := 3, cells := 0, slots := 0, locals := 68 }) (va_Pc [.ref (ad 38), .int (x), .int (y), .int (z)] (wm_B D ad cA cR sz ln wd)) (va_Qi (fun (r : Int32) (u : wm_St) => r = (sp_times N x y z).1 ∧ wm_R (sp_times N x y z).2 u.1 u.2) (wm_E D ad cA cR sz) (wm_A ad sz)) 0 0 (wm_A ad sz) := by
  refine wm_met l (by decide) (Nat.le_of_ble_eq_true rfl) ?_
  intro p e s m below meth c ls hsz hC hK hr hlk hM hl
  subst hsz
  have hC : CallFix p m c b_Mill_times 4 s _ lw_T R_Mill := hC
  have hl : lv_has ls 4 [(0, .ref (ad 38)), (1, .int (x)), (2, .int (y)), (3, .int (z))] := hl
  obtain ⟨⟨Mx, hok, he⟩, hL⟩ := id hR
  refine lv_iload_n hC.1 hC.2.1 d_Mill_times_0 rfl (lv_at hl 1 rfl) ?_
  refine wm_callPi hC hK hM (As := [.int (x)]) (rest := []) (c_Mill_isRegister l _ x) kc_Mill_isRegister km_Mill_26 ki_Mill ks_Mill_isRegister kd_Mill_isRegister ⟨rfl, rfl⟩ ⟨Nat.le_of_ble_eq_true rfl, Nat.le_of_ble_eq_true rfl⟩ rfl hl.1 (Nat.le_of_ble_eq_true rfl) d_Mill_times_1 (fun r H locs hp hM => ?_)
  rcases hp with ⟨d, hd, rfl, rfl⟩ | ⟨hno, rfl⟩
  · refine nv_if_eq (tgt := 21) hC (by omega) d_Mill_times_4 (by decide) (fun hz => ?_) (fun hz => ?_)
    · exact absurd hz (by decide)
    · refine lv_iload_n hC.1 hC.2.1 d_Mill_times_7 rfl (lv_at hl 2 rfl) ?_
      refine wm_callPi hC hK hM (As := [.int (y)]) (rest := []) (c_Mill_isRegister l _ y) kc_Mill_isRegister km_Mill_26 ki_Mill ks_Mill_isRegister kd_Mill_isRegister ⟨rfl, rfl⟩ ⟨Nat.le_of_ble_eq_true rfl, Nat.le_of_ble_eq_true rfl⟩ rfl hl.1 (Nat.le_of_ble_eq_true rfl) d_Mill_times_8 (fun r H locs hp hM => ?_)
      rcases hp with ⟨a, ha, rfl, rfl⟩ | ⟨hno, rfl⟩
      · refine nv_if_eq (tgt := 21) hC (by omega) d_Mill_times_11 (by decide) (fun hz => ?_) (fun hz => ?_)
        · exact absurd hz (by decide)
        · refine lv_iload_n hC.1 hC.2.1 d_Mill_times_14 rfl (lv_at hl 3 rfl) ?_
          refine wm_callPi hC hK hM (As := [.int (z)]) (rest := []) (c_Mill_isRegister l _ z) kc_Mill_isRegister km_Mill_26 ki_Mill ks_Mill_isRegister kd_Mill_isRegister ⟨rfl, rfl⟩ ⟨Nat.le_of_ble_eq_true rfl, Nat.le_of_ble_eq_true rfl⟩ rfl hl.1 (Nat.le_of_ble_eq_true rfl) d_Mill_times_15 (fun r H locs hp hM => ?_)
          rcases hp with ⟨b, hb, rfl, rfl⟩ | ⟨hno, rfl⟩
          · refine nv_if_ne (tgt := 23) hC (by omega) d_Mill_times_18 (by decide) (fun hz => ?_) (fun hz => ?_)
            · have l1 := wm_len16 (hok a (by omega)) (by rw [he a ha]; exact hL a ha)
              have l2 := wm_len16 (hok b (by omega)) (by rw [he b hb]; exact hL b hb)
              have b1 : wm_bl (Mx a) ≤ 65536 := sp_bl.mpr (by rw [he a ha]; exact hL a ha)
              have b2 : wm_bl (Mx b) ≤ 65536 := sp_bl.mpr (by rw [he b hb]; exact hL b hb)
              refine lv_aload_n hC.1 hC.2.1 d_Mill_times_23 rfl (lv_at hl 0 rfl) ?_
              refine wm_regs hC hK hM kf_Mill_11 d_Mill_times_24 ?_
              refine lv_iload_n hC.1 hC.2.1 d_Mill_times_27 rfl (lv_at hl 2 rfl) ?_
              refine wm_reg hC hK hM (i := a) (by omega) d_Mill_times_28 ?_
              refine wm_callVi hC hK hM (As := []) (rest := []) (wm_at_o (by omega)) rfl (c_Whole_size l D ad cA cR _ ln wd a (Mx a) (by omega) (hok a (by omega))) kc_Whole_size km_Mill_30 ki_Whole kn_Whole_size ke_Whole_size kd_Whole_size ⟨rfl, rfl⟩ ⟨Nat.le_of_ble_eq_true rfl, Nat.le_of_ble_eq_true rfl⟩ rfl hl.1 (Nat.le_of_ble_eq_true rfl) d_Mill_times_29 (fun r u H locs hp hM => ?_)
              obtain ⟨rfl, rfl⟩ := hp
              have hM : wm_M D ad cA cR s (ln) (wd) H locs := by
                exact hM
              refine lv_aload_n hC.1 hC.2.1 d_Mill_times_32 rfl (lv_at hl 0 rfl) ?_
              refine wm_regs hC hK hM kf_Mill_11 d_Mill_times_33 ?_
              refine lv_iload_n hC.1 hC.2.1 d_Mill_times_36 rfl (lv_at hl 3 rfl) ?_
              refine wm_reg hC hK hM (i := b) (by omega) d_Mill_times_37 ?_
              refine wm_callVi hC hK hM (As := []) (rest := [.int (nI (wm_bl (Mx a)))]) (wm_at_o (by omega)) rfl (c_Whole_size l D ad cA cR _ ln wd b (Mx b) (by omega) (hok b (by omega))) kc_Whole_size km_Mill_30 ki_Whole kn_Whole_size ke_Whole_size kd_Whole_size ⟨rfl, rfl⟩ ⟨Nat.le_of_ble_eq_true rfl, Nat.le_of_ble_eq_true rfl⟩ rfl hl.1 (Nat.le_of_ble_eq_true rfl) d_Mill_times_38 (fun r u H locs hp hM => ?_)
              obtain ⟨rfl, rfl⟩ := hp
              have hM : wm_M D ad cA cR s (ln) (wd) H locs := by
                exact hM
              refine nv_iadd hC d_Mill_times_41 ?_
              refine lv_ldc (v := nI 65537) hC.1 hC.2.1 hC.2.2.2.1 (hC.2.2.2.2 _ kk_Mill_65) d_Mill_times_42 ?_
              refine nv_icmp_le (tgt := 49) hC (by omega) (by omega) d_Mill_times_44 (by decide) (fun hc => ?_) (fun hc => ?_)
              · have hfit := wm_prod_fit (hok a (by omega)) (hok b (by omega)) hc l1 l2
                refine lv_aload_n hC.1 hC.2.1 d_Mill_times_49 rfl (lv_at hl 0 rfl) ?_
                refine wm_res hC hK hM kf_Mill_16 d_Mill_times_50 ?_
                refine lv_aload_n hC.1 hC.2.1 d_Mill_times_53 rfl (lv_at hl 0 rfl) ?_
                refine wm_regs hC hK hM kf_Mill_11 d_Mill_times_54 ?_
                refine lv_iload_n hC.1 hC.2.1 d_Mill_times_57 rfl (lv_at hl 2 rfl) ?_
                refine wm_reg hC hK hM (i := a) (by omega) d_Mill_times_58 ?_
                refine lv_aload_n hC.1 hC.2.1 d_Mill_times_59 rfl (lv_at hl 0 rfl) ?_
                refine wm_regs hC hK hM kf_Mill_11 d_Mill_times_60 ?_
                refine lv_iload_n hC.1 hC.2.1 d_Mill_times_63 rfl (lv_at hl 3 rfl) ?_
                refine wm_reg hC hK hM (i := b) (by omega) d_Mill_times_64 ?_
                refine wm_callVv hC hK hM (As := [.ref (ad a), .ref (ad b)]) (rest := []) (wm_at_o (by decide)) rfl (c_Whole_becomeProduct l D ad cA cR _ ln wd 16 a b (Mx a) (Mx b) (by decide) (by omega) (by omega) (by omega) (by omega) (wm_rep_ze (hok 16 (by decide))) (hok a (by omega)) (hok b (by omega)) hfit) kc_Whole_becomeProduct km_Mill_66 ki_Whole kn_Whole_becomeProduct ke_Whole_becomeProduct kd_Whole_becomeProduct ⟨rfl, rfl⟩ ⟨Nat.le_of_ble_eq_true rfl, Nat.le_of_ble_eq_true rfl⟩ rfl hl.1 (Nat.le_of_ble_eq_true rfl) d_Mill_times_65 (fun u1 H locs hp1 hM => ?_)
                have ok1 := wm_ok_up hok hp1
                refine lv_aload_n hC.1 hC.2.1 d_Mill_times_68 rfl (lv_at hl 0 rfl) ?_
                refine lv_iload_n hC.1 hC.2.1 d_Mill_times_69 rfl (lv_at hl 1 rfl) ?_
                refine wm_callVi hC hK hM (As := [.int (nI (d))]) (rest := []) wm_at_m rfl (c_Mill_keepResult l D ad cA cR _ (u1.1) (u1.2) _ d hd ok1) kc_Mill_keepResult km_Mill_43 ki_Mill kn_Mill_keepResult ke_Mill_keepResult kd_Mill_keepResult ⟨rfl, rfl⟩ ⟨Nat.le_of_ble_eq_true rfl, Nat.le_of_ble_eq_true rfl⟩ rfl hl.1 (Nat.le_of_ble_eq_true rfl) d_Mill_times_70 (fun r uk H locs hpk hM => ?_)
                have hfin := wm_fin (N := N) hpk ok1 (fun j hj => by rw [va_up_ne _ _ (by omega)]; exact he j hj) hL (X := N a * N b) (by rw [va_up_self, he a ha, he b hb])
                exact wm_zret hC hK hM hr hlk (wm_kept_n hpk) (by simp only [sp_times, sp_3, sp_ix_ok hd, sp_ix_ok ha, sp_ix_ok hb]; exact hfin) d_Mill_times_73
              · have hbig : ¬ N a * N b < sp_L := by rw [← he a ha, ← he b hb]; exact Nat.not_lt.mpr (wm_prod_big b1 b2 hc)
                refine lv_iconst (v := nI 0) hC.1 hC.2.1 d_Mill_times_47 (by decide) ?_
                exact wm_zret hC hK hM hr hlk rfl ⟨by simp only [sp_times, sp_3, sp_ix_ok hd, sp_ix_ok ha, sp_ix_ok hb, sp_putv]; rw [if_neg hbig], by simp only [sp_times, sp_3, sp_ix_ok hd, sp_ix_ok ha, sp_ix_ok hb, sp_putv]; rw [if_neg hbig]; exact hR⟩ d_Mill_times_48
            · exact absurd hz (by decide)
          · refine nv_if_ne (tgt := 23) hC (by omega) d_Mill_times_18 (by decide) (fun hz => ?_) (fun hz => ?_)
            · exact absurd rfl hz
            · refine lv_iconst (v := nI 0) hC.1 hC.2.1 d_Mill_times_21 (by decide) ?_
              exact wm_zret hC hK hM hr hlk rfl (⟨by simp only [sp_times, sp_3, sp_no, sp_ix_ok hd, sp_ix_ok ha, sp_ix_no hno], by simp only [sp_times, sp_3, sp_no, sp_ix_ok hd, sp_ix_ok ha, sp_ix_no hno]; exact hR⟩) d_Mill_times_22
      · refine nv_if_eq (tgt := 21) hC (by omega) d_Mill_times_11 (by decide) (fun hz => ?_) (fun hz => ?_)
        · refine lv_iconst (v := nI 0) hC.1 hC.2.1 d_Mill_times_21 (by decide) ?_
          exact wm_zret hC hK hM hr hlk rfl (⟨by simp only [sp_times, sp_3, sp_no, sp_ix_ok hd, sp_ix_no hno], by simp only [sp_times, sp_3, sp_no, sp_ix_ok hd, sp_ix_no hno]; exact hR⟩) d_Mill_times_22
        · exact absurd rfl hz
  · refine nv_if_eq (tgt := 21) hC (by omega) d_Mill_times_4 (by decide) (fun hz => ?_) (fun hz => ?_)
    · refine lv_iconst (v := nI 0) hC.1 hC.2.1 d_Mill_times_21 (by decide) ?_
      exact wm_zret hC hK hM hr hlk rfl (⟨by simp only [sp_times, sp_3, sp_no, sp_ix_no hno], by simp only [sp_times, sp_3, sp_no, sp_ix_no hno]; exact hR⟩) d_Mill_times_22
    · exact absurd rfl hz
set_option maxHeartbeats 4000000 in
set_option maxRecDepth 100000 in
theorem c_Mill_divide (l : Launch) (D : va_G) (ad : Nat → Nat) (cA cR : ClassId) (sz : Nat) (ln : Nat → Nat) (wd : Nat → Nat → Int32) (N : Nat → Nat) (hR : wm_R N ln wd) (x y z w : Int32) : Met l y_Mill_divide (Cond.code y_Mill_divide b_Mill_divide 5 (some .boolean) :: lw_T) ({ frames := 4, cells := 0, slots := 0, locals := 114 }) (va_Pc [.ref (ad 38), .int (x), .int (y), .int (z), .int (w)] (wm_B D ad cA cR sz ln wd)) (va_Qi (fun (r : Int32) (u : wm_St) => r = (sp_divide N x y z w).1 ∧ wm_R (sp_divide N x y z w).2 u.1 u.2) (wm_E D ad cA cR sz) (wm_A ad sz)) 0 0 (wm_A ad sz) := by
  refine wm_met l (by decide) (Nat.le_of_ble_eq_true rfl) ?_
  intro p e s m below meth c ls hsz hC hK hr hlk hM hl
  subst hsz
  have hC : CallFix p m c b_Mill_divide 5 s _ lw_T R_Mill := hC
  have hl : lv_has ls 5 [(0, .ref (ad 38)), (1, .int (x)), (2, .int (y)), (3, .int (z)), (4, .int (w))] := hl
  obtain ⟨⟨Mx, hok, he⟩, hL⟩ := id hR
  refine lv_iload_n hC.1 hC.2.1 d_Mill_divide_0 rfl (lv_at hl 1 rfl) ?_
  refine wm_callPi hC hK hM (As := [.int (x)]) (rest := []) (c_Mill_isRegister l _ x) kc_Mill_isRegister km_Mill_26 ki_Mill ks_Mill_isRegister kd_Mill_isRegister ⟨rfl, rfl⟩ ⟨Nat.le_of_ble_eq_true rfl, Nat.le_of_ble_eq_true rfl⟩ rfl hl.1 (Nat.le_of_ble_eq_true rfl) d_Mill_divide_1 (fun r H locs hp hM => ?_)
  rcases hp with ⟨q, hq, rfl, rfl⟩ | ⟨hno, rfl⟩
  · refine nv_if_eq (tgt := 29) hC (by omega) d_Mill_divide_4 (by decide) (fun hz => ?_) (fun hz => ?_)
    · exact absurd hz (by decide)
    · refine lv_iload_n hC.1 hC.2.1 d_Mill_divide_7 rfl (lv_at hl 2 rfl) ?_
      refine wm_callPi hC hK hM (As := [.int (y)]) (rest := []) (c_Mill_isRegister l _ y) kc_Mill_isRegister km_Mill_26 ki_Mill ks_Mill_isRegister kd_Mill_isRegister ⟨rfl, rfl⟩ ⟨Nat.le_of_ble_eq_true rfl, Nat.le_of_ble_eq_true rfl⟩ rfl hl.1 (Nat.le_of_ble_eq_true rfl) d_Mill_divide_8 (fun r H locs hp hM => ?_)
      rcases hp with ⟨r0, hr0, rfl, rfl⟩ | ⟨hno, rfl⟩
      · refine nv_if_eq (tgt := 29) hC (by omega) d_Mill_divide_11 (by decide) (fun hz => ?_) (fun hz => ?_)
        · exact absurd hz (by decide)
        · refine lv_iload_n hC.1 hC.2.1 d_Mill_divide_14 rfl (lv_at hl 3 rfl) ?_
          refine wm_callPi hC hK hM (As := [.int (z)]) (rest := []) (c_Mill_isRegister l _ z) kc_Mill_isRegister km_Mill_26 ki_Mill ks_Mill_isRegister kd_Mill_isRegister ⟨rfl, rfl⟩ ⟨Nat.le_of_ble_eq_true rfl, Nat.le_of_ble_eq_true rfl⟩ rfl hl.1 (Nat.le_of_ble_eq_true rfl) d_Mill_divide_15 (fun r H locs hp hM => ?_)
          rcases hp with ⟨a, ha, rfl, rfl⟩ | ⟨hno, rfl⟩
          · refine nv_if_eq (tgt := 29) hC (by omega) d_Mill_divide_18 (by decide) (fun hz => ?_) (fun hz => ?_)
            · exact absurd hz (by decide)
            · refine lv_iload hC.1 hC.2.1 d_Mill_divide_21 (lv_at hl 4 rfl) ?_
              refine wm_callPi hC hK hM (As := [.int (w)]) (rest := []) (c_Mill_isRegister l _ w) kc_Mill_isRegister km_Mill_26 ki_Mill ks_Mill_isRegister kd_Mill_isRegister ⟨rfl, rfl⟩ ⟨Nat.le_of_ble_eq_true rfl, Nat.le_of_ble_eq_true rfl⟩ rfl hl.1 (Nat.le_of_ble_eq_true rfl) d_Mill_divide_23 (fun r H locs hp hM => ?_)
              rcases hp with ⟨b, hb, rfl, rfl⟩ | ⟨hno, rfl⟩
              · refine nv_if_ne (tgt := 31) hC (by omega) d_Mill_divide_26 (by decide) (fun hz => ?_) (fun hz => ?_)
                · have l1 := wm_len16 (hok a (by omega)) (by rw [he a ha]; exact hL a ha)
                  have l2 := wm_len16 (hok b (by omega)) (by rw [he b hb]; exact hL b hb)
                  refine lv_iload_n hC.1 hC.2.1 d_Mill_divide_31 rfl (lv_at hl 1 rfl) ?_
                  refine lv_iload_n hC.1 hC.2.1 d_Mill_divide_32 rfl (lv_at hl 2 rfl) ?_
                  refine nv_icmp_eq (tgt := 49) hC (by omega) (by omega) d_Mill_divide_33 (by decide) (fun hqr => ?_) (fun hqr => ?_)
                  · refine lv_iconst (v := nI 0) hC.1 hC.2.1 d_Mill_divide_49 (by decide) ?_
                    have hcd : q = r0 ∨ N b = 0 := Or.inl hqr
                    exact wm_zret hC hK hM hr hlk rfl ⟨by simp only [sp_divide, sp_3, sp_ix_ok hq, sp_ix_ok hr0, sp_ix_ok ha, sp_ix_ok hb]; rw [if_pos hcd]; rfl, by simp only [sp_divide, sp_3, sp_ix_ok hq, sp_ix_ok hr0, sp_ix_ok ha, sp_ix_ok hb]; rw [if_pos hcd]; exact hR⟩ d_Mill_divide_50
                  · refine lv_aload_n hC.1 hC.2.1 d_Mill_divide_36 rfl (lv_at hl 0 rfl) ?_
                    refine wm_regs hC hK hM kf_Mill_11 d_Mill_divide_37 ?_
                    refine lv_iload hC.1 hC.2.1 d_Mill_divide_40 (lv_at hl 4 rfl) ?_
                    refine wm_reg hC hK hM (i := b) (by omega) d_Mill_divide_42 ?_
                    refine wm_len hC hK hM (j := b) (by omega) kf_Mill_69 d_Mill_divide_43 ?_
                    refine nv_if_ne (tgt := 51) hC (by omega) d_Mill_divide_46 (by decide) (fun hlb => ?_) (fun hlb => ?_)
                    · have hb0 : Mx b ≠ 0 := fun z => hlb ((wm_rep_0 (hok b (by omega))).mpr z)
                      refine lv_aload_n hC.1 hC.2.1 d_Mill_divide_51 rfl (lv_at hl 0 rfl) ?_
                      refine wm_regs hC hK hM kf_Mill_11 d_Mill_divide_52 ?_
                      refine lv_iload_n hC.1 hC.2.1 d_Mill_divide_55 rfl (lv_at hl 3 rfl) ?_
                      refine wm_reg hC hK hM (i := a) (by omega) d_Mill_divide_56 ?_
                      refine lv_aload_n hC.1 hC.2.1 d_Mill_divide_57 rfl (lv_at hl 0 rfl) ?_
                      refine wm_regs hC hK hM kf_Mill_11 d_Mill_divide_58 ?_
                      refine lv_iload hC.1 hC.2.1 d_Mill_divide_61 (lv_at hl 4 rfl) ?_
                      refine wm_reg hC hK hM (i := b) (by omega) d_Mill_divide_63 ?_
                      refine lv_aload_n hC.1 hC.2.1 d_Mill_divide_64 rfl (lv_at hl 0 rfl) ?_
                      refine wm_res hC hK hM kf_Mill_16 d_Mill_divide_65 ?_
                      refine lv_aload_n hC.1 hC.2.1 d_Mill_divide_68 rfl (lv_at hl 0 rfl) ?_
                      refine wm_lef hC hK hM kf_Mill_20 d_Mill_divide_69 ?_
                      refine lv_aload_n hC.1 hC.2.1 d_Mill_divide_72 rfl (lv_at hl 0 rfl) ?_
                      refine wm_hel hC hK hM kf_Mill_23 d_Mill_divide_73 ?_
                      refine wm_callSv hC hK hM (As := [.ref (ad a), .ref (ad b), .ref (ad 16), .ref (ad 17), .ref (ad 18)]) (rest := []) (c_Div_find l D ad cA cR _ ln wd Mx a b ha hb hok l1 l2 hb0) kc_Div_find km_Mill_73 ki_Div ks_Div_find kd_Div_find ⟨rfl, rfl⟩ ⟨Nat.le_of_ble_eq_true rfl, Nat.le_of_ble_eq_true rfl⟩ rfl hl.1 (Nat.le_of_ble_eq_true rfl) d_Mill_divide_76 (fun u1 H locs hp1 hM => ?_)
                      obtain ⟨h9, ok1⟩ := hp1
                      refine lv_aload_n hC.1 hC.2.1 d_Mill_divide_79 rfl (lv_at hl 0 rfl) ?_
                      refine wm_regs hC hK hM kf_Mill_11 d_Mill_divide_80 ?_
                      refine lv_iload_n hC.1 hC.2.1 d_Mill_divide_83 rfl (lv_at hl 1 rfl) ?_
                      refine wm_reg hC hK hM (i := q) (by omega) d_Mill_divide_84 ?_
                      refine lv_aload_n hC.1 hC.2.1 d_Mill_divide_85 rfl (lv_at hl 0 rfl) ?_
                      refine wm_res hC hK hM kf_Mill_16 d_Mill_divide_86 ?_
                      refine wm_callVv hC hK hM (As := [.ref (ad 16)]) (rest := []) (wm_at_o (by omega)) rfl (c_Whole_become l D ad cA cR _ (u1.1) (u1.2) q 16 _ (by omega) (by decide) (wm_rep_ze (ok1 q (by omega))) (ok1 16 (by decide))) kc_Whole_become km_Mill_50 ki_Whole kn_Whole_become ke_Whole_become kd_Whole_become ⟨rfl, rfl⟩ ⟨Nat.le_of_ble_eq_true rfl, Nat.le_of_ble_eq_true rfl⟩ rfl hl.1 (Nat.le_of_ble_eq_true rfl) d_Mill_divide_89 (fun u2 H locs hp2 hM => ?_)
                      have ok2 := wm_ok_up ok1 hp2
                      refine lv_aload_n hC.1 hC.2.1 d_Mill_divide_92 rfl (lv_at hl 0 rfl) ?_
                      refine wm_regs hC hK hM kf_Mill_11 d_Mill_divide_93 ?_
                      refine lv_iload_n hC.1 hC.2.1 d_Mill_divide_96 rfl (lv_at hl 2 rfl) ?_
                      refine wm_reg hC hK hM (i := r0) (by omega) d_Mill_divide_97 ?_
                      refine lv_aload_n hC.1 hC.2.1 d_Mill_divide_98 rfl (lv_at hl 0 rfl) ?_
                      refine wm_lef hC hK hM kf_Mill_20 d_Mill_divide_99 ?_
                      refine wm_callVv hC hK hM (As := [.ref (ad 17)]) (rest := []) (wm_at_o (by omega)) rfl (c_Whole_become l D ad cA cR _ (u2.1) (u2.2) r0 17 _ (by omega) (by decide) (wm_rep_ze (ok2 r0 (by omega))) (ok2 17 (by decide))) kc_Whole_become km_Mill_50 ki_Whole kn_Whole_become ke_Whole_become kd_Whole_become ⟨rfl, rfl⟩ ⟨Nat.le_of_ble_eq_true rfl, Nat.le_of_ble_eq_true rfl⟩ rfl hl.1 (Nat.le_of_ble_eq_true rfl) d_Mill_divide_102 (fun u3 H locs hp3 hM => ?_)
                      have ok3 := wm_ok_up ok2 hp3
                      rw [va_up_ne _ _ (show 16 ≠ 17 by decide), va_up_self, va_up_ne _ _ (show 17 ≠ q by omega), va_up_self] at ok3
                      rw [he a ha, he b hb] at ok3
                      have hcd : ¬ (q = r0 ∨ N b = 0) := fun z => by
                        rcases z with z | z
                        · exact hqr z
                        · rw [he b hb] at hb0; exact hb0 z
                      have hfin : wm_R (va_up (va_up N q (N a / N b)) r0 (N a % N b)) u3.1 u3.2 := wm_R_up2 ok3 (fun j hj => by rw [va_up_ne _ _ (by omega), va_up_ne _ _ (by omega), va_up_ne _ _ (by omega)]; exact he j hj) hL (Nat.lt_of_le_of_lt (Nat.div_le_self _ _) (hL a ha)) (Nat.lt_of_le_of_lt (Nat.mod_le _ _) (hL a ha))
                      refine lv_iconst (v := nI 1) hC.1 hC.2.1 d_Mill_divide_105 (by decide) ?_
                      exact wm_zret hC hK hM hr hlk rfl ⟨by simp only [sp_divide, sp_3, sp_ix_ok hq, sp_ix_ok hr0, sp_ix_ok ha, sp_ix_ok hb]; rw [if_neg hcd], by simp only [sp_divide, sp_3, sp_ix_ok hq, sp_ix_ok hr0, sp_ix_ok ha, sp_ix_ok hb]; rw [if_neg hcd]; exact hfin⟩ d_Mill_divide_106
                    · refine lv_iconst (v := nI 0) hC.1 hC.2.1 d_Mill_divide_49 (by decide) ?_
                      have hcd : q = r0 ∨ N b = 0 := Or.inr (by rw [← he b hb]; exact (wm_rep_0 (hok b (by omega))).mp hlb)
                      exact wm_zret hC hK hM hr hlk rfl ⟨by simp only [sp_divide, sp_3, sp_ix_ok hq, sp_ix_ok hr0, sp_ix_ok ha, sp_ix_ok hb]; rw [if_pos hcd]; rfl, by simp only [sp_divide, sp_3, sp_ix_ok hq, sp_ix_ok hr0, sp_ix_ok ha, sp_ix_ok hb]; rw [if_pos hcd]; exact hR⟩ d_Mill_divide_50
                · exact absurd hz (by decide)
              · refine nv_if_ne (tgt := 31) hC (by omega) d_Mill_divide_26 (by decide) (fun hz => ?_) (fun hz => ?_)
                · exact absurd rfl hz
                · refine lv_iconst (v := nI 0) hC.1 hC.2.1 d_Mill_divide_29 (by decide) ?_
                  exact wm_zret hC hK hM hr hlk rfl (⟨by simp only [sp_divide, sp_3, sp_no, sp_ix_ok hq, sp_ix_ok hr0, sp_ix_ok ha, sp_ix_no hno], by simp only [sp_divide, sp_3, sp_no, sp_ix_ok hq, sp_ix_ok hr0, sp_ix_ok ha, sp_ix_no hno]; exact hR⟩) d_Mill_divide_30
          · refine nv_if_eq (tgt := 29) hC (by omega) d_Mill_divide_18 (by decide) (fun hz => ?_) (fun hz => ?_)
            · refine lv_iconst (v := nI 0) hC.1 hC.2.1 d_Mill_divide_29 (by decide) ?_
              exact wm_zret hC hK hM hr hlk rfl (⟨by simp only [sp_divide, sp_3, sp_no, sp_ix_ok hq, sp_ix_ok hr0, sp_ix_no hno], by simp only [sp_divide, sp_3, sp_no, sp_ix_ok hq, sp_ix_ok hr0, sp_ix_no hno]; exact hR⟩) d_Mill_divide_30
            · exact absurd rfl hz
      · refine nv_if_eq (tgt := 29) hC (by omega) d_Mill_divide_11 (by decide) (fun hz => ?_) (fun hz => ?_)
        · refine lv_iconst (v := nI 0) hC.1 hC.2.1 d_Mill_divide_29 (by decide) ?_
          exact wm_zret hC hK hM hr hlk rfl (⟨by simp only [sp_divide, sp_3, sp_no, sp_ix_ok hq, sp_ix_no hno], by simp only [sp_divide, sp_3, sp_no, sp_ix_ok hq, sp_ix_no hno]; exact hR⟩) d_Mill_divide_30
        · exact absurd rfl hz
  · refine nv_if_eq (tgt := 29) hC (by omega) d_Mill_divide_4 (by decide) (fun hz => ?_) (fun hz => ?_)
    · refine lv_iconst (v := nI 0) hC.1 hC.2.1 d_Mill_divide_29 (by decide) ?_
      exact wm_zret hC hK hM hr hlk rfl (⟨by simp only [sp_divide, sp_3, sp_no, sp_ix_no hno], by simp only [sp_divide, sp_3, sp_no, sp_ix_no hno]; exact hR⟩) d_Mill_divide_30
    · exact absurd rfl hz
set_option maxHeartbeats 4000000 in
set_option maxRecDepth 100000 in
theorem c_Mill_root (l : Launch) (D : va_G) (ad : Nat → Nat) (cA cR : ClassId) (sz : Nat) (ln : Nat → Nat) (wd : Nat → Nat → Int32) (N : Nat → Nat) (hR : wm_R N ln wd) (x y z : Int32) : Met l y_Mill_root (Cond.code y_Mill_root b_Mill_root 4 (some .boolean) :: lw_T) ({ frames := 5, cells := 0, slots := 0, locals := 140 }) (va_Pc [.ref (ad 38), .int (x), .int (y), .int (z)] (wm_B D ad cA cR sz ln wd)) (va_Qi (fun (r : Int32) (u : wm_St) => r = (sp_root N x y z).1 ∧ wm_R (sp_root N x y z).2 u.1 u.2) (wm_E D ad cA cR sz) (wm_A ad sz)) 0 0 (wm_A ad sz) := by
  refine wm_met l (by decide) (Nat.le_of_ble_eq_true rfl) ?_
  intro p e s m below meth c ls hsz hC hK hr hlk hM hl
  subst hsz
  have hC : CallFix p m c b_Mill_root 4 s _ lw_T R_Mill := hC
  have hl : lv_has ls 4 [(0, .ref (ad 38)), (1, .int (x)), (2, .int (y)), (3, .int (z))] := hl
  obtain ⟨⟨Mx, hok, he⟩, hL⟩ := id hR
  refine lv_iload_n hC.1 hC.2.1 d_Mill_root_0 rfl (lv_at hl 1 rfl) ?_
  refine wm_callPi hC hK hM (As := [.int (x)]) (rest := []) (c_Mill_isRegister l _ x) kc_Mill_isRegister km_Mill_26 ki_Mill ks_Mill_isRegister kd_Mill_isRegister ⟨rfl, rfl⟩ ⟨Nat.le_of_ble_eq_true rfl, Nat.le_of_ble_eq_true rfl⟩ rfl hl.1 (Nat.le_of_ble_eq_true rfl) d_Mill_root_1 (fun r H locs hp hM => ?_)
  rcases hp with ⟨s0, hs0, rfl, rfl⟩ | ⟨hno, rfl⟩
  · refine nv_if_eq (tgt := 26) hC (by omega) d_Mill_root_4 (by decide) (fun hz => ?_) (fun hz => ?_)
    · exact absurd hz (by decide)
    · refine lv_iload_n hC.1 hC.2.1 d_Mill_root_7 rfl (lv_at hl 2 rfl) ?_
      refine wm_callPi hC hK hM (As := [.int (y)]) (rest := []) (c_Mill_isRegister l _ y) kc_Mill_isRegister km_Mill_26 ki_Mill ks_Mill_isRegister kd_Mill_isRegister ⟨rfl, rfl⟩ ⟨Nat.le_of_ble_eq_true rfl, Nat.le_of_ble_eq_true rfl⟩ rfl hl.1 (Nat.le_of_ble_eq_true rfl) d_Mill_root_8 (fun r H locs hp hM => ?_)
      rcases hp with ⟨r0, hr0, rfl, rfl⟩ | ⟨hno, rfl⟩
      · refine nv_if_eq (tgt := 26) hC (by omega) d_Mill_root_11 (by decide) (fun hz => ?_) (fun hz => ?_)
        · exact absurd hz (by decide)
        · refine lv_iload_n hC.1 hC.2.1 d_Mill_root_14 rfl (lv_at hl 3 rfl) ?_
          refine wm_callPi hC hK hM (As := [.int (z)]) (rest := []) (c_Mill_isRegister l _ z) kc_Mill_isRegister km_Mill_26 ki_Mill ks_Mill_isRegister kd_Mill_isRegister ⟨rfl, rfl⟩ ⟨Nat.le_of_ble_eq_true rfl, Nat.le_of_ble_eq_true rfl⟩ rfl hl.1 (Nat.le_of_ble_eq_true rfl) d_Mill_root_15 (fun r H locs hp hM => ?_)
          rcases hp with ⟨a, ha, rfl, rfl⟩ | ⟨hno, rfl⟩
          · refine nv_if_eq (tgt := 26) hC (by omega) d_Mill_root_18 (by decide) (fun hz => ?_) (fun hz => ?_)
            · exact absurd hz (by decide)
            · have l1 := wm_len16 (hok a (by omega)) (by rw [he a ha]; exact hL a ha)
              refine lv_iload_n hC.1 hC.2.1 d_Mill_root_21 rfl (lv_at hl 1 rfl) ?_
              refine lv_iload_n hC.1 hC.2.1 d_Mill_root_22 rfl (lv_at hl 2 rfl) ?_
              refine nv_icmp_ne (tgt := 28) hC (by omega) (by omega) d_Mill_root_23 (by decide) (fun hsr => ?_) (fun hsr => ?_)
              · refine lv_aload_n hC.1 hC.2.1 d_Mill_root_28 rfl (lv_at hl 0 rfl) ?_
                refine wm_regs hC hK hM kf_Mill_11 d_Mill_root_29 ?_
                refine lv_iload_n hC.1 hC.2.1 d_Mill_root_32 rfl (lv_at hl 3 rfl) ?_
                refine wm_reg hC hK hM (i := a) (by omega) d_Mill_root_33 ?_
                refine lv_aload_n hC.1 hC.2.1 d_Mill_root_34 rfl (lv_at hl 0 rfl) ?_
                refine wm_res hC hK hM kf_Mill_16 d_Mill_root_35 ?_
                refine lv_aload_n hC.1 hC.2.1 d_Mill_root_38 rfl (lv_at hl 0 rfl) ?_
                refine wm_lef hC hK hM kf_Mill_20 d_Mill_root_39 ?_
                refine lv_aload_n hC.1 hC.2.1 d_Mill_root_42 rfl (lv_at hl 0 rfl) ?_
                refine wm_hel hC hK hM kf_Mill_23 d_Mill_root_43 ?_
                refine wm_callSv hC hK hM (As := [.ref (ad a), .ref (ad 16), .ref (ad 17), .ref (ad 18)]) (rest := []) (c_Root_find l D ad cA cR _ ln wd Mx a ha hok l1) kc_Root_find km_Mill_79 ki_Root ks_Root_find kd_Root_find ⟨rfl, rfl⟩ ⟨Nat.le_of_ble_eq_true rfl, Nat.le_of_ble_eq_true rfl⟩ rfl hl.1 (Nat.le_of_ble_eq_true rfl) d_Mill_root_46 (fun u1 H locs hp1 hM => ?_)
                obtain ⟨h9, s1, q1, q2, ok1⟩ := hp1
                rw [he a ha] at q1 q2 ok1
                have hsq := sp_sq_of q1 q2
                refine lv_aload_n hC.1 hC.2.1 d_Mill_root_49 rfl (lv_at hl 0 rfl) ?_
                refine wm_regs hC hK hM kf_Mill_11 d_Mill_root_50 ?_
                refine lv_iload_n hC.1 hC.2.1 d_Mill_root_53 rfl (lv_at hl 1 rfl) ?_
                refine wm_reg hC hK hM (i := s0) (by omega) d_Mill_root_54 ?_
                refine lv_aload_n hC.1 hC.2.1 d_Mill_root_55 rfl (lv_at hl 0 rfl) ?_
                refine wm_res hC hK hM kf_Mill_16 d_Mill_root_56 ?_
                refine wm_callVv hC hK hM (As := [.ref (ad 16)]) (rest := []) (wm_at_o (by omega)) rfl (c_Whole_become l D ad cA cR _ (u1.1) (u1.2) s0 16 _ (by omega) (by decide) (wm_rep_ze (ok1 s0 (by omega))) (ok1 16 (by decide))) kc_Whole_become km_Mill_50 ki_Whole kn_Whole_become ke_Whole_become kd_Whole_become ⟨rfl, rfl⟩ ⟨Nat.le_of_ble_eq_true rfl, Nat.le_of_ble_eq_true rfl⟩ rfl hl.1 (Nat.le_of_ble_eq_true rfl) d_Mill_root_59 (fun u2 H locs hp2 hM => ?_)
                have ok2 := wm_ok_up ok1 hp2
                refine lv_aload_n hC.1 hC.2.1 d_Mill_root_62 rfl (lv_at hl 0 rfl) ?_
                refine wm_regs hC hK hM kf_Mill_11 d_Mill_root_63 ?_
                refine lv_iload_n hC.1 hC.2.1 d_Mill_root_66 rfl (lv_at hl 2 rfl) ?_
                refine wm_reg hC hK hM (i := r0) (by omega) d_Mill_root_67 ?_
                refine lv_aload_n hC.1 hC.2.1 d_Mill_root_68 rfl (lv_at hl 0 rfl) ?_
                refine wm_lef hC hK hM kf_Mill_20 d_Mill_root_69 ?_
                refine wm_callVv hC hK hM (As := [.ref (ad 17)]) (rest := []) (wm_at_o (by omega)) rfl (c_Whole_become l D ad cA cR _ (u2.1) (u2.2) r0 17 _ (by omega) (by decide) (wm_rep_ze (ok2 r0 (by omega))) (ok2 17 (by decide))) kc_Whole_become km_Mill_50 ki_Whole kn_Whole_become ke_Whole_become kd_Whole_become ⟨rfl, rfl⟩ ⟨Nat.le_of_ble_eq_true rfl, Nat.le_of_ble_eq_true rfl⟩ rfl hl.1 (Nat.le_of_ble_eq_true rfl) d_Mill_root_72 (fun u3 H locs hp3 hM => ?_)
                have ok3 := wm_ok_up ok2 hp3
                rw [va_up_ne _ _ (show 16 ≠ 17 by decide), va_up_self, va_up_ne _ _ (show 17 ≠ s0 by omega), va_up_self] at ok3
                rw [← hsq] at ok3
                have hfin : wm_R (va_up (va_up N s0 (sp_sq (N a))) r0 (N a - sp_sq (N a) * sp_sq (N a))) u3.1 u3.2 := wm_R_up2 ok3 (fun j hj => by rw [va_up_ne _ _ (by omega), va_up_ne _ _ (by omega), va_up_ne _ _ (by omega)]; exact he j hj) hL (by rw [hsq]; exact Nat.lt_of_le_of_lt (Nat.le_trans (Nat.le_mul_self _) q1) (hL a ha)) (Nat.lt_of_le_of_lt (Nat.sub_le _ _) (hL a ha))
                refine lv_iconst (v := nI 1) hC.1 hC.2.1 d_Mill_root_75 (by decide) ?_
                exact wm_zret hC hK hM hr hlk rfl ⟨by simp only [sp_root, sp_3, sp_ix_ok hs0, sp_ix_ok hr0, sp_ix_ok ha]; rw [if_neg hsr], by simp only [sp_root, sp_3, sp_ix_ok hs0, sp_ix_ok hr0, sp_ix_ok ha]; rw [if_neg hsr]; exact hfin⟩ d_Mill_root_76
              · refine lv_iconst (v := nI 0) hC.1 hC.2.1 d_Mill_root_26 (by decide) ?_
                exact wm_zret hC hK hM hr hlk rfl ⟨by simp only [sp_root, sp_3, sp_ix_ok hs0, sp_ix_ok hr0, sp_ix_ok ha]; rw [if_pos hsr]; rfl, by simp only [sp_root, sp_3, sp_ix_ok hs0, sp_ix_ok hr0, sp_ix_ok ha]; rw [if_pos hsr]; exact hR⟩ d_Mill_root_27
          · refine nv_if_eq (tgt := 26) hC (by omega) d_Mill_root_18 (by decide) (fun hz => ?_) (fun hz => ?_)
            · refine lv_iconst (v := nI 0) hC.1 hC.2.1 d_Mill_root_26 (by decide) ?_
              exact wm_zret hC hK hM hr hlk rfl (⟨by simp only [sp_root, sp_3, sp_no, sp_ix_ok hs0, sp_ix_ok hr0, sp_ix_no hno], by simp only [sp_root, sp_3, sp_no, sp_ix_ok hs0, sp_ix_ok hr0, sp_ix_no hno]; exact hR⟩) d_Mill_root_27
            · exact absurd rfl hz
      · refine nv_if_eq (tgt := 26) hC (by omega) d_Mill_root_11 (by decide) (fun hz => ?_) (fun hz => ?_)
        · refine lv_iconst (v := nI 0) hC.1 hC.2.1 d_Mill_root_26 (by decide) ?_
          exact wm_zret hC hK hM hr hlk rfl (⟨by simp only [sp_root, sp_3, sp_no, sp_ix_ok hs0, sp_ix_no hno], by simp only [sp_root, sp_3, sp_no, sp_ix_ok hs0, sp_ix_no hno]; exact hR⟩) d_Mill_root_27
        · exact absurd rfl hz
  · refine nv_if_eq (tgt := 26) hC (by omega) d_Mill_root_4 (by decide) (fun hz => ?_) (fun hz => ?_)
    · refine lv_iconst (v := nI 0) hC.1 hC.2.1 d_Mill_root_26 (by decide) ?_
      exact wm_zret hC hK hM hr hlk rfl (⟨by simp only [sp_root, sp_3, sp_no, sp_ix_no hno], by simp only [sp_root, sp_3, sp_no, sp_ix_no hno]; exact hR⟩) d_Mill_root_27
    · exact absurd rfl hz
