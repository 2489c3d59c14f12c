set_option maxHeartbeats 4000000 in
set_option maxRecDepth 100000 in
theorem c_Whole_clear (l : Launch) (D : va_G) (ad : Nat → Nat) (cA cR : ClassId) (sz : Nat) (ln : Nat → Nat) (wd : Nat → Nat → Int32) (i : Nat) (hi : i < 19) (hlen : ln i ≤ 2050) : Met l y_Whole_clear (Cond.code y_Whole_clear b_Whole_clear 1 none :: lw_T) ({ frames := 1, cells := 0, slots := 0, locals := 22 }) (va_Pc [.ref (ad i)] (wm_B D ad cA cR sz ln wd)) (va_Qv (fun u : wm_St => u = (va_up ln i 0, va_up wd i (wm_clr (wd i) 0 (ln i)))) (wm_E D ad cA cR sz) (wm_A ad sz)) 0 0 (wm_A ad sz) := by
  refine wm_met l (by decide) (Nat.le_of_ble_eq_true rfl) ?_
  intro p e s m below meth c ls hsz hC hK hr hlk hM hl
  subst hsz
  have hC : CallFix p m c b_Whole_clear 1 s _ lw_T R_Whole := hC
  have hl : lv_has ls 1 [(0, .ref (ad i))] := hl
  refine lv_aload_n hC.1 hC.2.1 d_Whole_clear_0 rfl (lv_at hl 0 rfl) ?_
  refine lv_iconst (v := nI 0) hC.1 hC.2.1 d_Whole_clear_1 (by decide) ?_
  refine wm_callVv hC hK hM (As := [.int (nI (0))]) (rest := []) (wm_at_o hi) rfl (c_Whole_settle l D ad cA cR _ ln wd i 0 hi hlen (by omega)) kc_Whole_settle km_Whole_19 ki_Whole kn_Whole_settle ke_Whole_settle kd_Whole_settle ⟨rfl, rfl⟩ ⟨Nat.le_of_ble_eq_true rfl, Nat.le_of_ble_eq_true rfl⟩ rfl hl.1 (Nat.le_of_ble_eq_true rfl) d_Whole_clear_2 (fun u H locs hp hM => ?_)
  exact wm_vret hC hK hM hr hlk hp d_Whole_clear_5
set_option maxHeartbeats 4000000 in
set_option maxRecDepth 100000 in
theorem c_Whole_become (l : Launch) (D : va_G) (ad : Nat → Nat) (cA cR : ClassId) (sz : Nat) (ln : Nat → Nat) (wd : Nat → Nat → Int32) (i j N : Nat) (hi : i < 19) (hj : j < 19) (hz : wm_ze (wd i) (ln i)) (h2 : wm_rep (wd j) (ln j) N) : Met l y_Whole_become (Cond.code y_Whole_become b_Whole_become 2 none :: lw_T) ({ frames := 1, cells := 0, slots := 0, locals := 26 }) (va_Pc [.ref (ad i), .ref (ad j)] (wm_B D ad cA cR sz ln wd)) (va_Qv (fun u : wm_St => wm_up i N ln wd u) (wm_E D ad cA cR sz) (wm_A ad sz)) 0 0 (wm_A ad sz) := by
  refine wm_met l (by decide) (Nat.le_of_ble_eq_true rfl) ?_
  intro p e s m below meth c ls hsz hC hK hr hlk hM hl
  subst hsz
  have hC : CallFix p m c b_Whole_become 2 s _ lw_T R_Whole := hC
  have hl : lv_has ls 2 [(0, .ref (ad i)), (1, .ref (ad j))] := hl
  have hj2 := h2.1
  have hz1 := hz.1
  refine lv_aload_n hC.1 hC.2.1 d_Whole_become_0 rfl (lv_at hl 1 rfl) ?_
  refine wm_wds hC hK hM (j := j) hj kf_Whole_9 d_Whole_become_1 ?_
  refine lv_iconst (v := nI 0) hC.1 hC.2.1 d_Whole_become_4 (by decide) ?_
  refine lv_aload_n hC.1 hC.2.1 d_Whole_become_5 rfl (lv_at hl 0 rfl) ?_
  refine wm_wds hC hK hM (j := i) hi kf_Whole_9 d_Whole_become_6 ?_
  refine lv_iconst (v := nI 0) hC.1 hC.2.1 d_Whole_become_9 (by decide) ?_
  refine lv_aload_n hC.1 hC.2.1 d_Whole_become_10 rfl (lv_at hl 1 rfl) ?_
  refine wm_len hC hK hM (j := j) hj kf_Whole_15 d_Whole_become_11 ?_
  refine wm_copy hC hK hM (i := i) (j := j) (sp := 0) (dp := 0) (n := ln j) hi hj (by omega) (by omega) km_Whole_23 kn_copy ks_copy ki_Sys hl.1 (Nat.le_of_ble_eq_true rfl) (Nat.le_of_ble_eq_true rfl) d_Whole_become_14 (fun H locs hM => ?_)
  refine lv_aload_n hC.1 hC.2.1 d_Whole_become_17 rfl (lv_at hl 0 rfl) ?_
  refine lv_aload_n hC.1 hC.2.1 d_Whole_become_18 rfl (lv_at hl 1 rfl) ?_
  refine wm_len hC hK hM (j := j) hj kf_Whole_15 d_Whole_become_19 ?_
  refine wm_callVv hC hK hM (As := [.int (nI (ln j))]) (rest := []) (wm_at_o hi) rfl (c_Whole_settle l D ad cA cR _ ln (va_up wd i (va_cpy (wd j) (wd i) 0 0 (ln j))) i (ln j) hi hz.1 h2.1) kc_Whole_settle km_Whole_19 ki_Whole kn_Whole_settle ke_Whole_settle kd_Whole_settle ⟨rfl, rfl⟩ ⟨Nat.le_of_ble_eq_true rfl, Nat.le_of_ble_eq_true rfl⟩ rfl hl.1 (Nat.le_of_ble_eq_true rfl) d_Whole_become_22 (fun u H locs hp hM => ?_)
  refine wm_vret hC hK hM hr hlk ?_ d_Whole_become_25
  rw [va_up_self, wm_uu] at hp
  refine wm_up_of hp h2.1 (fun k h3 h4 h5 => ?_) ?_
  · rw [pk_cpy_out (Or.inr (by omega))]
    exact hz.2 k h4 h5
  · rw [← h2.2.2.2]
    exact wm_v_congr (fun k hk => by rw [pk_cpy_in (Nat.zero_le _) (by omega), Nat.sub_zero, Nat.zero_add])
set_option maxHeartbeats 4000000 in
set_option maxRecDepth 100000 in
theorem c_Whole_size (l : Launch) (D : va_G) (ad : Nat → Nat) (cA cR : ClassId) (sz : Nat) (ln : Nat → Nat) (wd : Nat → Nat → Int32) (i N : Nat) (hi : i < 19) (h : wm_rep (wd i) (ln i) N) : Met l y_Whole_size (Cond.code y_Whole_size b_Whole_size 1 (some .int) :: lw_T) ({ frames := 1, cells := 0, slots := 0, locals := 21 }) (va_Pc [.ref (ad i)] (wm_B D ad cA cR sz ln wd)) (va_Qi (fun (r : Int32) (u : wm_St) => r = nI (wm_bl N) ∧ u = (ln, wd)) (wm_E D ad cA cR sz) (wm_A ad sz)) 0 0 (wm_A ad sz) := by
  refine wm_met l (by decide) (Nat.le_of_ble_eq_true rfl) ?_
  intro p e s m below meth c ls hsz hC hK hr hlk hM hl
  subst hsz
  have hC : CallFix p m c b_Whole_size 1 s _ lw_T R_Whole := hC
  have hl : lv_has ls 1 [(0, .ref (ad i))] := hl
  have hn := h.1
  refine lv_aload_n hC.1 hC.2.1 d_Whole_size_0 rfl (lv_at hl 0 rfl) ?_
  refine wm_len hC hK hM (j := i) hi kf_Whole_15 d_Whole_size_1 ?_
  refine nv_if_ne (tgt := 11) hC (by omega) d_Whole_size_4 (by decide) (fun hc => ?_) (fun hc => ?_)
  · obtain ⟨k, hk⟩ : ∃ k, ln i = k + 1 := ⟨ln i - 1, by omega⟩
    have h9 : wm_rep (wd i) (k + 1) N := by rw [← hk]; exact h
    refine lv_bipush (v := nI 32) hC.1 hC.2.1 d_Whole_size_11 (by decide) ?_
    refine lv_aload_n hC.1 hC.2.1 d_Whole_size_13 rfl (lv_at hl 0 rfl) ?_
    refine wm_len hC hK hM (j := i) hi kf_Whole_15 d_Whole_size_14 ?_
    refine nv_top (y := nI (k + 1)) (by rw [hk]) ?_
    refine nv_imul hC d_Whole_size_17 ?_
    refine lv_aload_n hC.1 hC.2.1 d_Whole_size_18 rfl (lv_at hl 0 rfl) ?_
    refine wm_wds hC hK hM (j := i) hi kf_Whole_9 d_Whole_size_19 ?_
    refine lv_aload_n hC.1 hC.2.1 d_Whole_size_22 rfl (lv_at hl 0 rfl) ?_
    refine wm_len hC hK hM (j := i) hi kf_Whole_15 d_Whole_size_23 ?_
    refine nv_top (y := nI (k + 1)) (by rw [hk]) ?_
    refine lv_iconst (v := nI 1) hC.1 hC.2.1 d_Whole_size_26 (by decide) ?_
    refine nv_isub hC (by omega) d_Whole_size_27 ?_
    refine wm_ald hC hK hM (j := i) (k := k) hi (by omega) d_Whole_size_28 ?_
    refine wm_callPi hC hK hM (As := [.int (wd i k)]) (rest := [.int (nI (32 * (k + 1)))]) (c_Int_numberOfLeadingZeros l _ (wd i k)) kc_Int_numberOfLeadingZeros km_Whole_50 ki_Int ks_Int_numberOfLeadingZeros kd_Int_numberOfLeadingZeros ⟨rfl, rfl⟩ ⟨Nat.le_of_ble_eq_true rfl, Nat.le_of_ble_eq_true rfl⟩ rfl hl.1 (Nat.le_of_ble_eq_true rfl) d_Whole_size_29 (fun r H locs hp hM => ?_)
    refine nv_top (y := nI (32 - wm_bl (wm_u (wd i k)))) hp ?_
    have h8 := wm_bl_rep h9
    have h7 : wm_bl (wm_u (wd i k)) ≤ 32 := wm_bl_le.mpr (wm_u_lt _)
    refine nv_isub hC (by omega) d_Whole_size_32 ?_
    exact wm_iret hC hK hM hr hlk ⟨congrArg nI (by omega), rfl⟩ d_Whole_size_33
  · refine lv_iconst (v := nI 0) hC.1 hC.2.1 d_Whole_size_7 (by decide) ?_
    refine lv_goto (tgt := 33) hC.1 hC.2.1 d_Whole_size_8 (by decide) ?_
    exact wm_iret hC hK hM hr hlk ⟨by rw [(wm_rep_0 h).mp hc]; rfl, rfl⟩ d_Whole_size_33
