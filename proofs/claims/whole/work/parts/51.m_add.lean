set_option maxHeartbeats 4000000 in
set_option maxRecDepth 100000 in
theorem c_Mill_keepResult (l : Launch) (D : va_G) (ad : Nat → Nat) (cA cR : ClassId) (sz : Nat) (ln : Nat → Nat) (wd : Nat → Nat → Int32) (Mx : Nat → Nat) (d : Nat) (hd : d < 16) (hok : wm_ok Mx ln wd) : Met l y_Mill_keepResult (Cond.code y_Mill_keepResult b_Mill_keepResult 2 (some .boolean) :: lw_T) ({ frames := 2, cells := 0, slots := 0, locals := 47 }) (va_Pc [.ref (ad 38), .int (nI (d))] (wm_B D ad cA cR sz ln wd)) (va_Qi (fun (r : Int32) (u : wm_St) => wm_kept Mx d ln wd r u) (wm_E D ad cA cR sz) (wm_A ad sz)) 0 0 (wm_A ad sz) := by
  refine wm_met l (by decide) (Nat.le_of_ble_eq_true rfl) ?_
  intro p e s m below meth c ls hsz hC hK hr hlk hM hl
  subst hsz
  have hC : CallFix p m c b_Mill_keepResult 2 s _ lw_T R_Mill := hC
  have hl : lv_has ls 2 [(0, .ref (ad 38)), (1, .int (nI (d)))] := hl
  refine lv_aload_n hC.1 hC.2.1 d_Mill_keepResult_0 rfl (lv_at hl 0 rfl) ?_
  refine wm_res hC hK hM kf_Mill_16 d_Mill_keepResult_1 ?_
  refine wm_callVi hC hK hM (As := []) (rest := []) (wm_at_o (by decide)) rfl (c_Whole_size l D ad cA cR _ ln wd 16 (Mx 16) (by decide) (hok 16 (by decide))) kc_Whole_size km_Mill_30 ki_Whole kn_Whole_size ke_Whole_size kd_Whole_size ⟨rfl, rfl⟩ ⟨Nat.le_of_ble_eq_true rfl, Nat.le_of_ble_eq_true rfl⟩ rfl hl.1 (Nat.le_of_ble_eq_true rfl) d_Mill_keepResult_4 (fun r u H locs hp hM => ?_)
  obtain ⟨rfl, rfl⟩ := hp
  have hb : wm_bl (Mx 16) ≤ 32 * ln 16 := by rw [wm_bl_le, ← wm_p32]; exact wm_rep_lt (hok 16 (by decide))
  have hb2 := (hok 16 (by decide)).1
  have hM : wm_M D ad cA cR s (ln) (wd) H locs := by
    exact hM
  refine lv_ldc (v := nI 65536) hC.1 hC.2.1 hC.2.2.2.1 (hC.2.2.2.2 _ kk_Mill_85) d_Mill_keepResult_7 ?_
  refine nv_icmp_le (tgt := 14) hC (by omega) (by omega) d_Mill_keepResult_9 (by decide) (fun hc => ?_) (fun hc => ?_)
  · refine lv_aload_n hC.1 hC.2.1 d_Mill_keepResult_14 rfl (lv_at hl 0 rfl) ?_
    refine wm_regs hC hK hM kf_Mill_11 d_Mill_keepResult_15 ?_
    refine lv_iload_n hC.1 hC.2.1 d_Mill_keepResult_18 rfl (lv_at hl 1 rfl) ?_
    refine wm_reg hC hK hM (i := d) (by omega) d_Mill_keepResult_19 ?_
    refine lv_aload_n hC.1 hC.2.1 d_Mill_keepResult_20 rfl (lv_at hl 0 rfl) ?_
    refine wm_res hC hK hM kf_Mill_16 d_Mill_keepResult_21 ?_
    refine wm_callVv hC hK hM (As := [.ref (ad 16)]) (rest := []) (wm_at_o (by omega)) rfl (c_Whole_become l D ad cA cR _ ln wd d 16 (Mx 16) (by omega) (by decide) (wm_rep_ze (hok d (by omega))) (hok 16 (by decide))) kc_Whole_become km_Mill_50 ki_Whole kn_Whole_become ke_Whole_become kd_Whole_become ⟨rfl, rfl⟩ ⟨Nat.le_of_ble_eq_true rfl, Nat.le_of_ble_eq_true rfl⟩ rfl hl.1 (Nat.le_of_ble_eq_true rfl) d_Mill_keepResult_24 (fun u1 H locs hp hM => ?_)
    refine lv_iconst (v := nI 1) hC.1 hC.2.1 d_Mill_keepResult_27 (by decide) ?_
    exact wm_zret hC hK hM hr hlk rfl (Or.inl ⟨sp_bl.mp hc, rfl, wm_ok_up hok hp⟩) d_Mill_keepResult_28
  · refine lv_iconst (v := nI 0) hC.1 hC.2.1 d_Mill_keepResult_12 (by decide) ?_
    exact wm_zret hC hK hM hr hlk rfl (Or.inr ⟨Nat.le_of_not_lt (fun z => absurd (sp_bl.mpr z) (by omega)), rfl, rfl⟩) d_Mill_keepResult_13
set_option maxHeartbeats 4000000 in
set_option maxRecDepth 100000 in
theorem c_Mill_add (l : Launch) (D : va_G) (ad : Nat → Nat) (cA cR : ClassId) (sz : Nat) (ln : Nat → Nat) (wd : Nat → Nat → Int32) (N : Nat → Nat) (hR : wm_R N ln wd) (x y z : Int32) : Met l y_Mill_add (Cond.code y_Mill_add b_Mill_add 4 (some .boolean) :: lw_T) ({ frames := 3, cells := 0, slots := 0, locals := 68 }) (va_Pc [.ref (ad 38), .int (x), .int (y), .int (z)] (wm_B D ad cA cR sz ln wd)) (va_Qi (fun (r : Int32) (u : wm_St) => r = (sp_add N x y z).1 ∧ wm_R (sp_add N x y z).2 u.1 u.2) (wm_E D ad cA cR sz) (wm_A ad sz)) 0 0 (wm_A ad sz) := by
  refine wm_met l (by decide) (Nat.le_of_ble_eq_true rfl) ?_
  intro p e s m below meth c ls hsz hC hK hr hlk hM hl
  subst hsz
  have hC : CallFix p m c b_Mill_add 4 s _ lw_T R_Mill := hC
  have hl : lv_has ls 4 [(0, .ref (ad 38)), (1, .int (x)), (2, .int (y)), (3, .int (z))] := hl
  obtain ⟨⟨Mx, hok, he⟩, hL⟩ := id hR
  refine lv_iload_n hC.1 hC.2.1 d_Mill_add_0 rfl (lv_at hl 1 rfl) ?_
  refine wm_callPi hC hK hM (As := [.int (x)]) (rest := []) (c_Mill_isRegister l _ x) kc_Mill_isRegister km_Mill_26 ki_Mill ks_Mill_isRegister kd_Mill_isRegister ⟨rfl, rfl⟩ ⟨Nat.le_of_ble_eq_true rfl, Nat.le_of_ble_eq_true rfl⟩ rfl hl.1 (Nat.le_of_ble_eq_true rfl) d_Mill_add_1 (fun r H locs hp hM => ?_)
  rcases hp with ⟨d, hd, rfl, rfl⟩ | ⟨hno, rfl⟩
  · refine nv_if_eq (tgt := 21) hC (by omega) d_Mill_add_4 (by decide) (fun hz => ?_) (fun hz => ?_)
    · exact absurd hz (by decide)
    · refine lv_iload_n hC.1 hC.2.1 d_Mill_add_7 rfl (lv_at hl 2 rfl) ?_
      refine wm_callPi hC hK hM (As := [.int (y)]) (rest := []) (c_Mill_isRegister l _ y) kc_Mill_isRegister km_Mill_26 ki_Mill ks_Mill_isRegister kd_Mill_isRegister ⟨rfl, rfl⟩ ⟨Nat.le_of_ble_eq_true rfl, Nat.le_of_ble_eq_true rfl⟩ rfl hl.1 (Nat.le_of_ble_eq_true rfl) d_Mill_add_8 (fun r H locs hp hM => ?_)
      rcases hp with ⟨a, ha, rfl, rfl⟩ | ⟨hno, rfl⟩
      · refine nv_if_eq (tgt := 21) hC (by omega) d_Mill_add_11 (by decide) (fun hz => ?_) (fun hz => ?_)
        · exact absurd hz (by decide)
        · refine lv_iload_n hC.1 hC.2.1 d_Mill_add_14 rfl (lv_at hl 3 rfl) ?_
          refine wm_callPi hC hK hM (As := [.int (z)]) (rest := []) (c_Mill_isRegister l _ z) kc_Mill_isRegister km_Mill_26 ki_Mill ks_Mill_isRegister kd_Mill_isRegister ⟨rfl, rfl⟩ ⟨Nat.le_of_ble_eq_true rfl, Nat.le_of_ble_eq_true rfl⟩ rfl hl.1 (Nat.le_of_ble_eq_true rfl) d_Mill_add_15 (fun r H locs hp hM => ?_)
          rcases hp with ⟨b, hb, rfl, rfl⟩ | ⟨hno, rfl⟩
          · refine nv_if_ne (tgt := 23) hC (by omega) d_Mill_add_18 (by decide) (fun hz => ?_) (fun hz => ?_)
            · have l1 := wm_len16 (hok a (by omega)) (by rw [he a ha]; exact hL a ha)
              have l2 := wm_len16 (hok b (by omega)) (by rw [he b hb]; exact hL b hb)
              refine lv_aload_n hC.1 hC.2.1 d_Mill_add_23 rfl (lv_at hl 0 rfl) ?_
              refine wm_res hC hK hM kf_Mill_16 d_Mill_add_24 ?_
              refine lv_aload_n hC.1 hC.2.1 d_Mill_add_27 rfl (lv_at hl 0 rfl) ?_
              refine wm_regs hC hK hM kf_Mill_11 d_Mill_add_28 ?_
              refine lv_iload_n hC.1 hC.2.1 d_Mill_add_31 rfl (lv_at hl 2 rfl) ?_
              refine wm_reg hC hK hM (i := a) (by omega) d_Mill_add_32 ?_
              refine lv_aload_n hC.1 hC.2.1 d_Mill_add_33 rfl (lv_at hl 0 rfl) ?_
              refine wm_regs hC hK hM kf_Mill_11 d_Mill_add_34 ?_
              refine lv_iload_n hC.1 hC.2.1 d_Mill_add_37 rfl (lv_at hl 3 rfl) ?_
              refine wm_reg hC hK hM (i := b) (by omega) d_Mill_add_38 ?_
              refine wm_callVv hC hK hM (As := [.ref (ad a), .ref (ad b)]) (rest := []) (wm_at_o (by decide)) rfl (c_Whole_becomeSum l D ad cA cR _ ln wd 16 a b (Mx a) (Mx b) (by decide) (by omega) (by omega) (by omega) (by omega) (wm_rep_ze (hok 16 (by decide))) (hok a (by omega)) (hok b (by omega)) (by omega) (by omega)) kc_Whole_becomeSum km_Mill_54 ki_Whole kn_Whole_becomeSum ke_Whole_becomeSum kd_Whole_becomeSum ⟨rfl, rfl⟩ ⟨Nat.le_of_ble_eq_true rfl, Nat.le_of_ble_eq_true rfl⟩ rfl hl.1 (Nat.le_of_ble_eq_true rfl) d_Mill_add_39 (fun u1 H locs hp1 hM => ?_)
              have ok1 := wm_ok_up hok hp1
              refine lv_aload_n hC.1 hC.2.1 d_Mill_add_42 rfl (lv_at hl 0 rfl) ?_
              refine lv_iload_n hC.1 hC.2.1 d_Mill_add_43 rfl (lv_at hl 1 rfl) ?_
              refine wm_callVi hC hK hM (As := [.int (nI (d))]) (rest := []) wm_at_m rfl (c_Mill_keepResult l D ad cA cR _ (u1.1) (u1.2) _ d hd ok1) kc_Mill_keepResult km_Mill_43 ki_Mill kn_Mill_keepResult ke_Mill_keepResult kd_Mill_keepResult ⟨rfl, rfl⟩ ⟨Nat.le_of_ble_eq_true rfl, Nat.le_of_ble_eq_true rfl⟩ rfl hl.1 (Nat.le_of_ble_eq_true rfl) d_Mill_add_44 (fun r uk H locs hpk hM => ?_)
              have hfin := wm_fin (N := N) hpk ok1 (fun j hj => by rw [va_up_ne _ _ (by omega)]; exact he j hj) hL (X := N a + N b) (by rw [va_up_self, he a ha, he b hb])
              exact wm_zret hC hK hM hr hlk (wm_kept_n hpk) (by simp only [sp_add, sp_3, sp_ix_ok hd, sp_ix_ok ha, sp_ix_ok hb]; exact hfin) d_Mill_add_47
            · exact absurd hz (by decide)
          · refine nv_if_ne (tgt := 23) hC (by omega) d_Mill_add_18 (by decide) (fun hz => ?_) (fun hz => ?_)
            · exact absurd rfl hz
            · refine lv_iconst (v := nI 0) hC.1 hC.2.1 d_Mill_add_21 (by decide) ?_
              exact wm_zret hC hK hM hr hlk rfl (⟨by simp only [sp_add, sp_3, sp_no, sp_ix_ok hd, sp_ix_ok ha, sp_ix_no hno], by simp only [sp_add, sp_3, sp_no, sp_ix_ok hd, sp_ix_ok ha, sp_ix_no hno]; exact hR⟩) d_Mill_add_22
      · refine nv_if_eq (tgt := 21) hC (by omega) d_Mill_add_11 (by decide) (fun hz => ?_) (fun hz => ?_)
        · refine lv_iconst (v := nI 0) hC.1 hC.2.1 d_Mill_add_21 (by decide) ?_
          exact wm_zret hC hK hM hr hlk rfl (⟨by simp only [sp_add, sp_3, sp_no, sp_ix_ok hd, sp_ix_no hno], by simp only [sp_add, sp_3, sp_no, sp_ix_ok hd, sp_ix_no hno]; exact hR⟩) d_Mill_add_22
        · exact absurd rfl hz
  · refine nv_if_eq (tgt := 21) hC (by omega) d_Mill_add_4 (by decide) (fun hz => ?_) (fun hz => ?_)
    · refine lv_iconst (v := nI 0) hC.1 hC.2.1 d_Mill_add_21 (by decide) ?_
      exact wm_zret hC hK hM hr hlk rfl (⟨by simp only [sp_add, sp_3, sp_no, sp_ix_no hno], by simp only [sp_add, sp_3, sp_no, sp_ix_no hno]; exact hR⟩) d_Mill_add_22
    · exact absurd rfl hz
set_option maxHeartbeats 4000000 in
set_option maxRecDepth 100000 in
theorem c_Mill_copy (l : Launch) (D : va_G) (ad : Nat → Nat) (cA cR : ClassId) (sz : Nat) (ln : Nat → Nat) (wd : Nat → Nat → Int32) (N : Nat → Nat) (hR : wm_R N ln wd) (x y : Int32) : Met l y_Mill_copy (Cond.code y_Mill_copy b_Mill_copy 3 (some .boolean) :: lw_T) ({ frames := 2, cells := 0, slots := 0, locals := 47 }) (va_Pc [.ref (ad 38), .int (x), .int (y)] (wm_B D ad cA cR sz ln wd)) (va_Qi (fun (r : Int32) (u : wm_St) => r = (sp_copy N x y).1 ∧ wm_R (sp_copy N x y).2 u.1 u.2) (wm_E D ad cA cR sz) (wm_A ad sz)) 0 0 (wm_A ad sz) := by
  refine wm_met l (by decide) (Nat.le_of_ble_eq_true rfl) ?_
  intro p e s m below meth c ls hsz hC hK hr hlk hM hl
  subst hsz
  have hC : CallFix p m c b_Mill_copy 3 s _ lw_T R_Mill := hC
  have hl : lv_has ls 3 [(0, .ref (ad 38)), (1, .int (x)), (2, .int (y))] := hl
  obtain ⟨⟨Mx, hok, he⟩, hL⟩ := id hR
  refine lv_iload_n hC.1 hC.2.1 d_Mill_copy_0 rfl (lv_at hl 1 rfl) ?_
  refine wm_callPi hC hK hM (As := [.int (x)]) (rest := []) (c_Mill_isRegister l _ x) kc_Mill_isRegister km_Mill_26 ki_Mill ks_Mill_isRegister kd_Mill_isRegister ⟨rfl, rfl⟩ ⟨Nat.le_of_ble_eq_true rfl, Nat.le_of_ble_eq_true rfl⟩ rfl hl.1 (Nat.le_of_ble_eq_true rfl) d_Mill_copy_1 (fun r H locs hp hM => ?_)
  rcases hp with ⟨d, hd, rfl, rfl⟩ | ⟨hno, rfl⟩
  · refine nv_if_eq (tgt := 14) hC (by omega) d_Mill_copy_4 (by decide) (fun hz => ?_) (fun hz => ?_)
    · exact absurd hz (by decide)
    · refine lv_iload_n hC.1 hC.2.1 d_Mill_copy_7 rfl (lv_at hl 2 rfl) ?_
      refine wm_callPi hC hK hM (As := [.int (y)]) (rest := []) (c_Mill_isRegister l _ y) kc_Mill_isRegister km_Mill_26 ki_Mill ks_Mill_isRegister kd_Mill_isRegister ⟨rfl, rfl⟩ ⟨Nat.le_of_ble_eq_true rfl, Nat.le_of_ble_eq_true rfl⟩ rfl hl.1 (Nat.le_of_ble_eq_true rfl) d_Mill_copy_8 (fun r H locs hp hM => ?_)
      rcases hp with ⟨a, ha, rfl, rfl⟩ | ⟨hno, rfl⟩
      · refine nv_if_ne (tgt := 16) hC (by omega) d_Mill_copy_11 (by decide) (fun hz => ?_) (fun hz => ?_)
        · refine lv_aload_n hC.1 hC.2.1 d_Mill_copy_16 rfl (lv_at hl 0 rfl) ?_
          refine wm_regs hC hK hM kf_Mill_11 d_Mill_copy_17 ?_
          refine lv_iload_n hC.1 hC.2.1 d_Mill_copy_20 rfl (lv_at hl 1 rfl) ?_
          refine wm_reg hC hK hM (i := d) (by omega) d_Mill_copy_21 ?_
          refine lv_aload_n hC.1 hC.2.1 d_Mill_copy_22 rfl (lv_at hl 0 rfl) ?_
          refine wm_regs hC hK hM kf_Mill_11 d_Mill_copy_23 ?_
          refine lv_iload_n hC.1 hC.2.1 d_Mill_copy_26 rfl (lv_at hl 2 rfl) ?_
          refine wm_reg hC hK hM (i := a) (by omega) d_Mill_copy_27 ?_
          refine wm_callVv hC hK hM (As := [.ref (ad a)]) (rest := []) (wm_at_o (by omega)) rfl (c_Whole_become l D ad cA cR _ ln wd d a (Mx a) (by omega) (by omega) (wm_rep_ze (hok d (by omega))) (hok a (by omega))) kc_Whole_become km_Mill_50 ki_Whole kn_Whole_become ke_Whole_become kd_Whole_become ⟨rfl, rfl⟩ ⟨Nat.le_of_ble_eq_true rfl, Nat.le_of_ble_eq_true rfl⟩ rfl hl.1 (Nat.le_of_ble_eq_true rfl) d_Mill_copy_28 (fun u1 H locs hp1 hM => ?_)
          have ok1 := wm_ok_up hok hp1
          rw [he a ha] at ok1
          refine lv_iconst (v := nI 1) hC.1 hC.2.1 d_Mill_copy_31 (by decide) ?_
          exact wm_zret hC hK hM hr hlk rfl ⟨by simp only [sp_copy, sp_ix_ok hd, sp_ix_ok ha], by simp only [sp_copy, sp_ix_ok hd, sp_ix_ok ha]; exact wm_R_up ok1 he hL (hL a ha)⟩ d_Mill_copy_32
        · exact absurd hz (by decide)
      · refine nv_if_ne (tgt := 16) hC (by omega) d_Mill_copy_11 (by decide) (fun hz => ?_) (fun hz => ?_)
        · exact absurd rfl hz
        · refine lv_iconst (v := nI 0) hC.1 hC.2.1 d_Mill_copy_14 (by decide) ?_
          exact wm_zret hC hK hM hr hlk rfl (⟨by simp only [sp_copy, sp_3, sp_no, sp_ix_ok hd, sp_ix_no hno], by simp only [sp_copy, sp_3, sp_no, sp_ix_ok hd, sp_ix_no hno]; exact hR⟩) d_Mill_copy_15
  · refine nv_if_eq (tgt := 14) hC (by omega) d_Mill_copy_4 (by decide) (fun hz => ?_) (fun hz => ?_)
    · refine lv_iconst (v := nI 0) hC.1 hC.2.1 d_Mill_copy_14 (by decide) ?_
      exact wm_zret hC hK hM hr hlk rfl (⟨by simp only [sp_copy, sp_3, sp_no, sp_ix_no hno], by simp only [sp_copy, sp_3, sp_no, sp_ix_no hno]; exact hR⟩) d_Mill_copy_15
    · exact absurd rfl hz
