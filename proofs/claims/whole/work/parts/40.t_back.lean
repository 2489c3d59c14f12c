set_option maxHeartbeats 4000000 in
set_option maxRecDepth 100000 in
theorem c_Root_firstWord (l : Launch) (D : va_G) (ad : Nat → Nat) (cA cR : ClassId) (sz : Nat) (ln : Nat → Nat) (wd : Nat → Nat → Int32) (c0 cnt : Nat) (hcnt : cnt = c0 + 1) (hfit : 2 * c0 + 1 < 2050) (he : wm_u (wd 18 (c0 + 1)) % 2 = 0) : Met l y_Root_firstWord (Cond.code y_Root_firstWord b_Root_firstWord 10 none :: lw_T) ({ frames := 2, cells := 0, slots := 0, locals := 49 }) (va_Pc [.ref (ad (19 + 17)), .ref (ad (19 + 18)), .int (nI (cnt))] (wm_B D ad cA cR sz ln wd)) (va_Qv (fun u : wm_St => ∃ w : Nat, w * w ≤ wm_u (wd 17 (2 * c0 + 1)) * 4294967296 + wm_u (wd 17 (2 * c0)) ∧ wm_u (wd 17 (2 * c0 + 1)) * 4294967296 + wm_u (wd 17 (2 * c0)) < (w + 1) * (w + 1) ∧ w < 4294967296 ∧ u = (ln, va_up (va_up wd 17 (upd (upd (wd 17) (2 * c0) (nI (wm_u (wd 17 (2 * c0 + 1)) * 4294967296 + wm_u (wd 17 (2 * c0)) - w * w))) (2 * c0 + 1) (nI ((wm_u (wd 17 (2 * c0 + 1)) * 4294967296 + wm_u (wd 17 (2 * c0)) - w * w) / 4294967296)))) 18 (upd (upd (wd 18) c0 (nI (w * 2 ^ 1))) (c0 + 1) (nI (wm_u (wd 18 (c0 + 1)) + w / 2 ^ 31))))) (wm_E D ad cA cR sz) (wm_A ad sz)) 0 0 (wm_A ad sz) := by
  refine wm_met l (by decide) (Nat.le_of_ble_eq_true rfl) ?_
  intro p e s m below meth c ls hsz hC hK hr hlk hM hl
  subst hsz
  have hC : CallFix p m c b_Root_firstWord 10 s _ lw_T R_Root := hC
  have hl : lv_has ls 10 [(0, .ref (ad (19 + 17))), (1, .ref (ad (19 + 18))), (2, .int (nI (cnt)))] := hl
  subst hcnt
  have u1 := wm_u_lt (wd 17 (2 * c0 + 1))
  have u0 := wm_u_lt (wd 17 (2 * c0))
  have hM : wm_M D ad cA cR s (ln) (va_up wd 17 (wd 17)) s.heap [] := by
    rw [wm_eta]; exact hM
  refine lv_iconst (v := nI 2) hC.1 hC.2.1 d_Root_firstWord_0 (by decide) ?_
  refine lv_iload_n hC.1 hC.2.1 d_Root_firstWord_1 rfl (lv_at hl 2 rfl) ?_
  refine nv_imul hC d_Root_firstWord_2 ?_
  refine lv_iconst (v := nI 1) hC.1 hC.2.1 d_Root_firstWord_3 (by decide) ?_
  refine nv_isub hC (by omega) d_Root_firstWord_4 ?_
  refine nv_top (y := nI (2 * c0 + 1)) (congrArg nI (by omega)) ?_
  refine lv_istore_n (lv' := [(3, .int (nI (2 * c0 + 1))), (0, .ref (ad (19 + 17))), (1, .ref (ad (19 + 18))), (2, .int (nI (c0 + 1)))]) hC.1 hC.2.1 d_Root_firstWord_5 rfl hl (by decide) rfl (fun ls hl => ?_)
  refine lv_aload_n hC.1 hC.2.1 d_Root_firstWord_6 rfl (lv_at hl 1 rfl) ?_
  refine lv_iload_n hC.1 hC.2.1 d_Root_firstWord_7 rfl (lv_at hl 0 rfl) ?_
  refine wm_ald_s hC hK hM (k := 2 * c0 + 1) (by decide) (by omega) d_Root_firstWord_8 ?_
  refine nv_hi hC d_Root_firstWord_9 d_Root_firstWord_10 d_Root_firstWord_12 ?_
  refine lv_aload_n hC.1 hC.2.1 d_Root_firstWord_13 rfl (lv_at hl 1 rfl) ?_
  refine lv_iload_n hC.1 hC.2.1 d_Root_firstWord_14 rfl (lv_at hl 0 rfl) ?_
  refine lv_iconst (v := nI 1) hC.1 hC.2.1 d_Root_firstWord_15 (by decide) ?_
  refine nv_isub hC (by omega) d_Root_firstWord_16 ?_
  refine nv_top (y := nI (2 * c0)) rfl ?_
  refine wm_ald_s hC hK hM (k := 2 * c0) (by decide) (by omega) d_Root_firstWord_17 ?_
  refine nv_low hC kl_Root_44 d_Root_firstWord_18 d_Root_firstWord_19 d_Root_firstWord_22 ?_
  refine nv_pair (k := 32) hC (by omega) (by omega) d_Root_firstWord_23 ?_
  obtain ⟨pr, hpr⟩ : ∃ z, z = wm_u (wd 17 (2 * c0 + 1)) * 4294967296 + wm_u (wd 17 (2 * c0)) := ⟨_, rfl⟩
  refine nv_topl (y := lN (pr)) (by rw [hpr]) ?_
  refine lv_lstore (lv' := [(4, .long (lN (pr))), (3, .int (nI (2 * c0 + 1))), (0, .ref (ad (19 + 17))), (1, .ref (ad (19 + 18))), (2, .int (nI (c0 + 1)))]) hC.1 hC.2.1 d_Root_firstWord_24 hl (by decide) rfl (fun ls hl => ?_)
  refine lv_lload hC.1 hC.2.1 d_Root_firstWord_26 (lv_at hl 0 rfl) ?_
  refine wm_callPl hC hK hM (As := [.long (lN (pr))]) (rest := []) (c_Root_rootOfPair l _ pr (by omega)) kc_Root_rootOfPair km_Root_46 ki_Root ks_Root_rootOfPair kd_Root_rootOfPair ⟨rfl, rfl⟩ ⟨Nat.le_of_ble_eq_true rfl, Nat.le_of_ble_eq_true rfl⟩ rfl hl.1 (Nat.le_of_ble_eq_true rfl) d_Root_firstWord_28 (fun r H locs hp hM => ?_)
  obtain ⟨w, rfl, h1, h2, h3⟩ := hp
  refine lv_lstore (lv' := [(6, .long (lN (w))), (4, .long (lN (pr))), (3, .int (nI (2 * c0 + 1))), (0, .ref (ad (19 + 17))), (1, .ref (ad (19 + 18))), (2, .int (nI (c0 + 1)))]) hC.1 hC.2.1 d_Root_firstWord_31 hl (by decide) rfl (fun ls hl => ?_)
  refine lv_lload hC.1 hC.2.1 d_Root_firstWord_33 (lv_at hl 1 rfl) ?_
  refine lv_lload hC.1 hC.2.1 d_Root_firstWord_35 (lv_at hl 0 rfl) ?_
  refine lv_lload hC.1 hC.2.1 d_Root_firstWord_37 (lv_at hl 0 rfl) ?_
  refine nv_lmul hC d_Root_firstWord_39 ?_
  refine nv_lsub hC h1 d_Root_firstWord_40 ?_
  refine lv_lstore (lv' := [(8, .long (lN (pr - (w * w)))), (6, .long (lN (w))), (4, .long (lN (pr))), (3, .int (nI (2 * c0 + 1))), (0, .ref (ad (19 + 17))), (1, .ref (ad (19 + 18))), (2, .int (nI (c0 + 1)))]) hC.1 hC.2.1 d_Root_firstWord_41 hl (by decide) rfl (fun ls hl => ?_)
  refine lv_aload_n hC.1 hC.2.1 d_Root_firstWord_43 rfl (lv_at hl 4 rfl) ?_
  refine lv_iload_n hC.1 hC.2.1 d_Root_firstWord_44 rfl (lv_at hl 3 rfl) ?_
  refine lv_iconst (v := nI 1) hC.1 hC.2.1 d_Root_firstWord_45 (by decide) ?_
  refine nv_isub hC (by omega) d_Root_firstWord_46 ?_
  refine lv_lload hC.1 hC.2.1 d_Root_firstWord_47 (lv_at hl 0 rfl) ?_
  refine nv_l2i hC d_Root_firstWord_49 ?_
  refine wm_ast_s hC hK hM (k := 2 * c0) (by decide) (by omega) d_Root_firstWord_50 (fun H locs hM => ?_)
  refine lv_aload_n hC.1 hC.2.1 d_Root_firstWord_51 rfl (lv_at hl 4 rfl) ?_
  refine lv_iload_n hC.1 hC.2.1 d_Root_firstWord_52 rfl (lv_at hl 3 rfl) ?_
  refine lv_lload hC.1 hC.2.1 d_Root_firstWord_53 (lv_at hl 0 rfl) ?_
  refine lv_bipush (v := nI 32) hC.1 hC.2.1 d_Root_firstWord_55 (by decide) ?_
  refine nv_lushr32 hC (by omega) d_Root_firstWord_57 ?_
  refine nv_l2i hC d_Root_firstWord_58 ?_
  refine wm_ast_s hC hK hM (k := 2 * c0 + 1) (by decide) (by omega) d_Root_firstWord_59 (fun H locs hM => ?_)
  refine lv_aload_n hC.1 hC.2.1 d_Root_firstWord_60 rfl (lv_at hl 5 rfl) ?_
  refine lv_iload_n hC.1 hC.2.1 d_Root_firstWord_61 rfl (lv_at hl 6 rfl) ?_
  refine lv_iconst (v := nI 1) hC.1 hC.2.1 d_Root_firstWord_62 (by decide) ?_
  refine nv_isub hC (by omega) d_Root_firstWord_63 ?_
  refine lv_lload hC.1 hC.2.1 d_Root_firstWord_64 (lv_at hl 1 rfl) ?_
  refine wm_callSv hC hK hM (As := [.ref (ad (19 + 18)), .int (nI (c0)), .long (lN (w))]) (rest := []) (c_Root_putWord l D ad cA cR _ ln (va_up wd 17 (upd (upd (wd 17) (2 * c0) (nI (pr - (w * w)))) (2 * c0 + 1) (nI ((pr - (w * w)) / 4294967296)))) 18 c0 w (by decide) (by omega) h3 (by rw [va_up_ne _ _ (by decide)]; exact he)) kc_Root_putWord km_Root_50 ki_Root ks_Root_putWord kd_Root_putWord ⟨rfl, rfl⟩ ⟨Nat.le_of_ble_eq_true rfl, Nat.le_of_ble_eq_true rfl⟩ rfl hl.1 (Nat.le_of_ble_eq_true rfl) d_Root_firstWord_66 (fun u H locs hp hM => ?_)
  rw [va_up_ne _ _ (by decide)] at hp
  refine wm_vret hC hK hM hr hlk ⟨w, ?_, ?_, h3, ?_⟩ d_Root_firstWord_69
  · rw [← hpr]; exact h1
  · rw [← hpr]; exact h2
  · rw [← hpr]; exact hp
set_option maxHeartbeats 4000000 in
set_option maxRecDepth 100000 in
theorem c_Root_shiftBack (l : Launch) (D : va_G) (ad : Nat → Nat) (cA cR : ClassId) (sz : Nat) (ln : Nat → Nat) (wd : Nat → Nat → Int32) (N : Nat → Nat) (cnt hf S R : Nat) (hokr : ∀ j, j < 17 → wm_rep (wd j) (ln j) (N j)) (hl17 : ln 17 ≤ 2050) (hl18 : ln 18 ≤ 2050) (hcnt : cnt ≤ 1024) (hhf : hf ≤ 31) (hL : wm_v (wd 17) 2050 = R) (hDd : wm_v (wd 18) 2050 = 2 * S) (hR : R ≤ 2 * S) (hS : S < 4294967296 ^ cnt) : Met l y_Root_shiftBack (Cond.code y_Root_shiftBack b_Root_shiftBack 6 none :: lw_T) ({ frames := 2, cells := 0, slots := 0, locals := 51 }) (va_Pc [.ref (ad 16), .ref (ad 17), .ref (ad 18), .int (nI (cnt)), .int (nI (hf))] (wm_B D ad cA cR sz ln wd)) (va_Qv (fun u : wm_St => ∃ h, wm_ok (va_up (va_up (va_up N 18 h) 16 (S / 2 ^ hf)) 17 ((R + S % 2 ^ hf * (2 * S)) / 2 ^ (2 * hf))) u.1 u.2) (wm_E D ad cA cR sz) (wm_A ad sz)) 0 0 (wm_A ad sz) := by
  refine wm_met l (by decide) (Nat.le_of_ble_eq_true rfl) ?_
  intro p e s m below meth c ls hsz hC hK hr hlk hM hl
  subst hsz
  have hC : CallFix p m c b_Root_shiftBack 6 s _ lw_T R_Root := hC
  have hl : lv_has ls 6 [(0, .ref (ad 16)), (1, .ref (ad 17)), (2, .ref (ad 18)), (3, .int (nI (cnt))), (4, .int (nI (hf)))] := hl
  have hp0 : 0 < 2 ^ hf := Nat.pow_pos (by decide)
  have hp31 : 2 ^ hf ≤ 2 ^ 31 := Nat.pow_le_pow_right (by decide) (by omega)
  obtain ⟨t, ht⟩ : ∃ z, z = S % 2 ^ hf := ⟨_, rfl⟩
  have ht2 : t < 2 ^ hf := by rw [ht]; exact Nat.mod_lt _ hp0
  have hsum : R + t * (2 * S) < 4294967296 ^ (cnt + 1) := by
    have a1 : (t + 1) * (2 * S) ≤ 2 ^ 31 * (2 * S) := Nat.mul_le_mul_right _ (by omega)
    rw [Nat.add_mul, Nat.one_mul] at a1
    rw [Nat.pow_succ]
    omega
  have hS1 : 2 * S < 4294967296 ^ (cnt + 1) := by rw [Nat.pow_succ]; omega
  have hR1 : R < 4294967296 ^ (cnt + 1) := by omega
  obtain ⟨l1, l2⟩ := wm_small (f := wd 17) (n := 2050) (m := cnt + 1) (by rw [hL]; exact hR1) (by omega)
  obtain ⟨d1, d2⟩ := wm_small (f := wd 18) (n := 2050) (m := cnt + 1) (by rw [hDd]; exact hS1) (by omega)
  rw [hL] at l1
  rw [hDd] at d1
  refine lv_aload_n hC.1 hC.2.1 d_Root_shiftBack_0 rfl (lv_at hl 2 rfl) ?_
  refine wm_wds hC hK hM (j := 18) (by decide) kf_Root_26 d_Root_shiftBack_1 ?_
  refine lv_iconst (v := nI 1) hC.1 hC.2.1 d_Root_shiftBack_4 (by decide) ?_
  refine wm_ald hC hK hM (j := 18) (k := 1) (by decide) (by omega) d_Root_shiftBack_5 ?_
  refine lv_aload_n hC.1 hC.2.1 d_Root_shiftBack_6 rfl (lv_at hl 2 rfl) ?_
  refine wm_wds hC hK hM (j := 18) (by decide) kf_Root_26 d_Root_shiftBack_7 ?_
  refine lv_iconst (v := nI 0) hC.1 hC.2.1 d_Root_shiftBack_10 (by decide) ?_
  refine wm_ald hC hK hM (j := 18) (k := 0) (by decide) (by omega) d_Root_shiftBack_11 ?_
  refine wm_callPi hC hK hM (As := [.int (wd 18 1), .int (wd 18 0)]) (rest := []) (c_Rows_halved l _ (wd 18 1) (wd 18 0)) kc_Rows_halved km_Root_73 ki_Rows ks_Rows_halved kd_Rows_halved ⟨rfl, rfl⟩ ⟨Nat.le_of_ble_eq_true rfl, Nat.le_of_ble_eq_true rfl⟩ rfl hl.1 (Nat.le_of_ble_eq_true rfl) d_Root_shiftBack_12 (fun r H locs hp hM => ?_)
  rw [wm_low1 hDd] at hp
  subst hp
  refine lv_iconst (v := nI 1) hC.1 hC.2.1 d_Root_shiftBack_15 (by decide) ?_
  refine lv_iload hC.1 hC.2.1 d_Root_shiftBack_16 (lv_at hl 4 rfl) ?_
  refine lv_ishl hC.1 hC.2.1 d_Root_shiftBack_18 ?_
  refine nv_top (y := nI (2 ^ hf)) (wm_shl1 (by omega)) ?_
  refine lv_iconst (v := nI 1) hC.1 hC.2.1 d_Root_shiftBack_19 (by decide) ?_
  refine nv_isub hC (by omega) d_Root_shiftBack_20 ?_
  refine lv_iand hC.1 hC.2.1 d_Root_shiftBack_21 ?_
  refine nv_top (y := nI (t)) (by rw [wm_mask1 (by omega), wm_un' (Nat.mod_lt _ (by decide)), ht]; exact congrArg nI (Nat.mod_mod_of_dvd _ ⟨2 ^ (32 - hf), by rw [← Nat.pow_add, show hf + (32 - hf) = 32 by omega]⟩)) ?_
  refine lv_istore (lv' := [(5, .int (nI (t))), (0, .ref (ad 16)), (1, .ref (ad 17)), (2, .ref (ad 18)), (3, .int (nI (cnt))), (4, .int (nI (hf)))]) hC.1 hC.2.1 d_Root_shiftBack_22 hl (by decide) rfl (fun ls hl => ?_)
  refine lv_aload_n hC.1 hC.2.1 d_Root_shiftBack_24 rfl (lv_at hl 2 rfl) ?_
  refine wm_wds hC hK hM (j := 17) (by decide) kf_Root_26 d_Root_shiftBack_25 ?_
  refine lv_iconst (v := nI 0) hC.1 hC.2.1 d_Root_shiftBack_28 (by decide) ?_
  refine lv_aload_n hC.1 hC.2.1 d_Root_shiftBack_29 rfl (lv_at hl 3 rfl) ?_
  refine wm_wds hC hK hM (j := 18) (by decide) kf_Root_26 d_Root_shiftBack_30 ?_
  refine lv_iload_n hC.1 hC.2.1 d_Root_shiftBack_33 rfl (lv_at hl 4 rfl) ?_
  refine lv_iconst (v := nI 1) hC.1 hC.2.1 d_Root_shiftBack_34 (by decide) ?_
  refine nv_iadd hC d_Root_shiftBack_35 ?_
  refine lv_iload hC.1 hC.2.1 d_Root_shiftBack_36 (lv_at hl 0 rfl) ?_
  refine nv_i2l hC (by omega) d_Root_shiftBack_38 ?_
  refine wm_callSl hC hK hM (As := [.ref (ad (19 + 17)), .int (nI (0)), .ref (ad (19 + 18)), .int (nI (cnt + 1)), .long (lN (t))]) (rest := []) (c_Rows_addMultiple l D ad cA cR _ ln wd 17 18 0 (cnt + 1) t (by decide) (by decide) (by decide) (by omega) (by omega)) kc_Rows_addMultiple km_Root_81 ki_Rows ks_Rows_addMultiple kd_Rows_addMultiple ⟨rfl, rfl⟩ ⟨Nat.le_of_ble_eq_true rfl, Nat.le_of_ble_eq_true rfl⟩ rfl hl.1 (Nat.le_of_ble_eq_true rfl) d_Root_shiftBack_39 (fun r u H locs hp hM => ?_)
  obtain ⟨cy, f, rfl, rfl, hS2, hcy, hf2⟩ := hp
  rw [wm_off_0, wm_off_0, ← l1, ← d1] at hS2
  have hcy0 : cy = 0 := by
    rcases Nat.eq_zero_or_pos cy with z | z
    · exact z
    · have : 1 * 4294967296 ^ (cnt + 1) ≤ cy * 4294967296 ^ (cnt + 1) := Nat.mul_le_mul_right _ z
      omega
  rw [hcy0, Nat.zero_mul, Nat.add_zero] at hS2
  have hM : wm_M D ad cA cR s (ln) (va_up wd 17 f) H locs := by
    exact hM
  refine lv_pop2_2 hC.1 hC.2.1 d_Root_shiftBack_42 rfl ?_
  refine lv_aload_n hC.1 hC.2.1 d_Root_shiftBack_43 rfl (lv_at hl 2 rfl) ?_
  refine lv_iload_n hC.1 hC.2.1 d_Root_shiftBack_44 rfl (lv_at hl 4 rfl) ?_
  refine lv_iconst (v := nI 1) hC.1 hC.2.1 d_Root_shiftBack_45 (by decide) ?_
  refine nv_iadd hC d_Root_shiftBack_46 ?_
  refine wm_callVv hC hK hM (As := [.int (nI (cnt + 1))]) (rest := []) (wm_at_o (by decide)) rfl (c_Whole_settle l D ad cA cR _ ln (va_up wd 17 f) 17 (cnt + 1) (by decide) hl17 (by omega)) kc_Whole_settle km_Root_85 ki_Whole kn_Whole_settle ke_Whole_settle kd_Whole_settle ⟨rfl, rfl⟩ ⟨Nat.le_of_ble_eq_true rfl, Nat.le_of_ble_eq_true rfl⟩ rfl hl.1 (Nat.le_of_ble_eq_true rfl) d_Root_shiftBack_47 (fun u1 H locs hp1 hM => ?_)
  rw [va_up_self, wm_uu] at hp1
  obtain ⟨n1, g1, rfl, r1⟩ := wm_up_of hp1 (by omega) (fun k h1 _ h3 => by rw [hf2 k (Or.inr (by omega))]; exact l2 k h1 h3) hS2
  have hM : wm_M D ad cA cR s (va_up ln 17 n1) (va_up wd 17 g1) H locs := by
    exact hM
  have r1l : n1 ≤ 2049 := wm_rep_le r1 (Nat.lt_of_lt_of_le hsum (Nat.pow_le_pow_right (by decide) (by omega)))
  refine lv_aload_n hC.1 hC.2.1 d_Root_shiftBack_50 rfl (lv_at hl 2 rfl) ?_
  refine lv_aload_n hC.1 hC.2.1 d_Root_shiftBack_51 rfl (lv_at hl 2 rfl) ?_
  refine lv_iconst (v := nI 2) hC.1 hC.2.1 d_Root_shiftBack_52 (by decide) ?_
  refine lv_iload hC.1 hC.2.1 d_Root_shiftBack_53 (lv_at hl 5 rfl) ?_
  refine nv_imul hC d_Root_shiftBack_55 ?_
  refine wm_callVv hC hK hM (As := [.ref (ad 17), .int (nI (2 * hf))]) (rest := []) (wm_at_o (by decide)) rfl (c_Whole_becomeShiftedRight l D ad cA cR _ (va_up ln 17 n1) (va_up wd 17 g1) 17 17 (R + t * (2 * S)) (2 * hf) (by decide) (by decide) (by rw [va_up_self, va_up_self]; exact wm_rep_ze r1) (by rw [va_up_self, va_up_self]; exact r1) (by rw [va_up_self]; exact r1l) (by omega)) kc_Whole_becomeShiftedRight km_Root_89 ki_Whole kn_Whole_becomeShiftedRight ke_Whole_becomeShiftedRight kd_Whole_becomeShiftedRight ⟨rfl, rfl⟩ ⟨Nat.le_of_ble_eq_true rfl, Nat.le_of_ble_eq_true rfl⟩ rfl hl.1 (Nat.le_of_ble_eq_true rfl) d_Root_shiftBack_56 (fun u2 H locs hp2 hM => ?_)
  obtain ⟨n2, g2, rfl, r2⟩ := hp2
  rw [wm_uu, wm_uu] at hM
  have hM : wm_M D ad cA cR s (va_up ln 17 n2) (va_up wd 17 g2) H locs := by
    exact hM
  refine lv_aload_n hC.1 hC.2.1 d_Root_shiftBack_59 rfl (lv_at hl 3 rfl) ?_
  refine lv_iload_n hC.1 hC.2.1 d_Root_shiftBack_60 rfl (lv_at hl 4 rfl) ?_
  refine lv_iconst (v := nI 1) hC.1 hC.2.1 d_Root_shiftBack_61 (by decide) ?_
  refine nv_iadd hC d_Root_shiftBack_62 ?_
  refine wm_callVv hC hK hM (As := [.int (nI (cnt + 1))]) (rest := []) (wm_at_o (by decide)) rfl (c_Whole_settle l D ad cA cR _ (va_up ln 17 n2) (va_up wd 17 g2) 18 (cnt + 1) (by decide) (by rw [va_up_ne _ _ (by decide)]; exact hl18) (by omega)) kc_Whole_settle km_Root_85 ki_Whole kn_Whole_settle ke_Whole_settle kd_Whole_settle ⟨rfl, rfl⟩ ⟨Nat.le_of_ble_eq_true rfl, Nat.le_of_ble_eq_true rfl⟩ rfl hl.1 (Nat.le_of_ble_eq_true rfl) d_Root_shiftBack_63 (fun u3 H locs hp3 hM => ?_)
  rw [va_up_ne _ _ (by decide), va_up_ne _ _ (by decide)] at hp3
  obtain ⟨n3, g3, rfl, r3⟩ := wm_up_of hp3 (by omega) (fun k h1 _ h3 => d2 k h1 h3) d1.symm
  have ok3 : wm_ok (va_up (va_up N 17 ((R + t * (2 * S)) / 2 ^ (2 * hf))) 18 (2 * S)) (va_up (va_up ln 17 n2) 18 n3) (va_up (va_up wd 17 g2) 18 g3) := by
    refine wm_ok_row (fun j hj e => ?_) r3
    by_cases e2 : j = 17
    · rw [e2, va_up_self, va_up_self, va_up_self]
      exact r2
    · rw [va_up_ne _ _ e2, va_up_ne _ _ e2, va_up_ne _ _ e2]
      exact hokr j (by omega)
  have n3l : n3 ≤ 2049 := wm_rep_le r3 (Nat.lt_of_lt_of_le hS1 (Nat.pow_le_pow_right (by decide) (by omega)))
  have hM : wm_M D ad cA cR s (va_up (va_up ln 17 n2) 18 n3) (va_up (va_up wd 17 g2) 18 g3) H locs := by
    exact hM
  refine lv_aload_n hC.1 hC.2.1 d_Root_shiftBack_66 rfl (lv_at hl 1 rfl) ?_
  refine lv_aload_n hC.1 hC.2.1 d_Root_shiftBack_67 rfl (lv_at hl 3 rfl) ?_
  refine lv_iload hC.1 hC.2.1 d_Root_shiftBack_68 (lv_at hl 5 rfl) ?_
  refine lv_iconst (v := nI 1) hC.1 hC.2.1 d_Root_shiftBack_70 (by decide) ?_
  refine nv_iadd hC d_Root_shiftBack_71 ?_
  refine wm_callVv hC hK hM (As := [.ref (ad 18), .int (nI (hf + 1))]) (rest := []) (wm_at_o (by decide)) rfl (c_Whole_becomeShiftedRight l D ad cA cR _ (va_up (va_up ln 17 n2) 18 n3) (va_up (va_up wd 17 g2) 18 g3) 16 18 (2 * S) (hf + 1) (by decide) (by decide) (wm_rep_ze (ok3 16 (by decide))) (wm_ok_self ok3 (by decide)) (by rw [va_up_self]; exact n3l) (by omega)) kc_Whole_becomeShiftedRight km_Root_89 ki_Whole kn_Whole_becomeShiftedRight ke_Whole_becomeShiftedRight kd_Whole_becomeShiftedRight ⟨rfl, rfl⟩ ⟨Nat.le_of_ble_eq_true rfl, Nat.le_of_ble_eq_true rfl⟩ rfl hl.1 (Nat.le_of_ble_eq_true rfl) d_Root_shiftBack_72 (fun u4 H locs hp4 hM => ?_)
  have ok4 := wm_ok_up ok3 hp4
  refine wm_vret hC hK hM hr hlk ⟨2 * S, wm_ok_congr ok4 (fun j hj => ?_)⟩ d_Root_shiftBack_75
  rw [← ht, Nat.pow_succ, Nat.mul_comm (2 ^ hf) 2, Nat.mul_div_mul_left _ _ (by decide)]
  simp only [va_up]
  repeat' split
  all_goals first | rfl | omega
