set_option maxHeartbeats 4000000 in
set_option maxRecDepth 100000 in
theorem c_Int_bitCount (l : Launch) (sz : Nat) (x : Int32) : Met l y_Int_bitCount (Cond.code y_Int_bitCount b_Int_bitCount 1 (some .int) :: lw_T) ({ frames := 0, cells := 0, slots := 0, locals := 0 }) (pu_Pc [.int (x)] sz) (pu_Qi (fun r => r = nI (wm_on (wm_u x) 32)) sz) 0 0 (fun q => sz ≤ q) := by
  refine pu_met l (by decide) (Nat.le_of_ble_eq_true rfl) ?_
  intro p e s m below meth c ls hsz hC hr hlk hl
  subst hsz
  have hM : pu_H s s.heap [] := va_S.rf
  have hC : CallFix p m c b_Int_bitCount 1 s _ lw_T R_Int := hC
  have hl : lv_has ls 1 [(0, .int (x))] := hl
  obtain ⟨v, hv, rfl⟩ : ∃ v, v < 4294967296 ∧ x = nI v := ⟨wm_u x, wm_u_lt x, (wm_nu x).symm⟩
  rw [wm_un' hv]
  refine lv_iload_n hC.1 hC.2.1 d_Int_bitCount_0 rfl (lv_at hl 0 rfl) ?_
  refine lv_iload_n hC.1 hC.2.1 d_Int_bitCount_1 rfl (lv_at hl 0 rfl) ?_
  refine lv_iconst (v := nI 1) hC.1 hC.2.1 d_Int_bitCount_2 (by decide) ?_
  refine nv_iushr hC (by omega) (by decide) d_Int_bitCount_3 ?_
  refine lv_ldcw (v := nI 1431655765) hC.1 hC.2.1 hC.2.2.2.1 (hC.2.2.2.2 _ kk_Int_265) d_Int_bitCount_4 ?_
  refine nv_iandm hC d_Int_bitCount_7 ?_
  refine nv_isub hC (Nat.le_trans Nat.and_le_left (Nat.div_le_self _ _)) d_Int_bitCount_8 ?_
  obtain ⟨a1, e1⟩ : ∃ z, z = v - (v / 2 ^ 1 &&& 1431655765) := ⟨_, rfl⟩
  refine nv_top (y := nI (a1)) (by rw [e1]) ?_
  refine lv_istore_n (lv' := [(0, .int (nI (a1)))]) hC.1 hC.2.1 d_Int_bitCount_9 rfl hl (by decide) rfl (fun ls hl => ?_)
  refine lv_iload_n hC.1 hC.2.1 d_Int_bitCount_10 rfl (lv_at hl 0 rfl) ?_
  refine lv_ldcw (v := nI 858993459) hC.1 hC.2.1 hC.2.2.2.1 (hC.2.2.2.2 _ kk_Int_266) d_Int_bitCount_11 ?_
  refine nv_iandm hC d_Int_bitCount_14 ?_
  refine lv_iload_n hC.1 hC.2.1 d_Int_bitCount_15 rfl (lv_at hl 0 rfl) ?_
  refine lv_iconst (v := nI 2) hC.1 hC.2.1 d_Int_bitCount_16 (by decide) ?_
  refine nv_iushr hC (by omega) (by decide) d_Int_bitCount_17 ?_
  refine lv_ldcw (v := nI 858993459) hC.1 hC.2.1 hC.2.2.2.1 (hC.2.2.2.2 _ kk_Int_266) d_Int_bitCount_18 ?_
  refine nv_iandm hC d_Int_bitCount_21 ?_
  refine nv_iadd hC d_Int_bitCount_22 ?_
  obtain ⟨a2, e2⟩ : ∃ z, z = (a1 &&& 858993459) + (a1 / 2 ^ 2 &&& 858993459) := ⟨_, rfl⟩
  have b2 : a2 ≤ 858993459 + 858993459 := by rw [e2]; exact Nat.add_le_add Nat.and_le_right Nat.and_le_right
  refine nv_top (y := nI (a2)) (by rw [e2]) ?_
  refine lv_istore_n (lv' := [(0, .int (nI (a2)))]) hC.1 hC.2.1 d_Int_bitCount_23 rfl hl (by decide) rfl (fun ls hl => ?_)
  refine lv_iload_n hC.1 hC.2.1 d_Int_bitCount_24 rfl (lv_at hl 0 rfl) ?_
  refine lv_iload_n hC.1 hC.2.1 d_Int_bitCount_25 rfl (lv_at hl 0 rfl) ?_
  refine lv_iconst (v := nI 4) hC.1 hC.2.1 d_Int_bitCount_26 (by decide) ?_
  refine nv_iushr hC (by omega) (by decide) d_Int_bitCount_27 ?_
  refine nv_iadd hC d_Int_bitCount_28 ?_
  refine lv_ldcw (v := nI 252645135) hC.1 hC.2.1 hC.2.2.2.1 (hC.2.2.2.2 _ kk_Int_267) d_Int_bitCount_29 ?_
  refine nv_iandm hC d_Int_bitCount_32 ?_
  obtain ⟨a3, e3⟩ : ∃ z, z = (a2 + a2 / 2 ^ 4) &&& 252645135 := ⟨_, rfl⟩
  have b3 : a3 ≤ 252645135 := by rw [e3]; exact Nat.and_le_right
  refine nv_top (y := nI (a3)) (by rw [e3]) ?_
  refine lv_istore_n (lv' := [(0, .int (nI (a3)))]) hC.1 hC.2.1 d_Int_bitCount_33 rfl hl (by decide) rfl (fun ls hl => ?_)
  refine lv_iload_n hC.1 hC.2.1 d_Int_bitCount_34 rfl (lv_at hl 0 rfl) ?_
  refine lv_iload_n hC.1 hC.2.1 d_Int_bitCount_35 rfl (lv_at hl 0 rfl) ?_
  refine lv_bipush (v := nI 8) hC.1 hC.2.1 d_Int_bitCount_36 (by decide) ?_
  refine nv_iushr hC (by omega) (by decide) d_Int_bitCount_38 ?_
  refine nv_iadd hC d_Int_bitCount_39 ?_
  obtain ⟨a4, e4⟩ : ∃ z, z = a3 + a3 / 2 ^ 8 := ⟨_, rfl⟩
  refine nv_top (y := nI (a4)) (by rw [e4]) ?_
  refine lv_istore_n (lv' := [(0, .int (nI (a4)))]) hC.1 hC.2.1 d_Int_bitCount_40 rfl hl (by decide) rfl (fun ls hl => ?_)
  refine lv_iload_n hC.1 hC.2.1 d_Int_bitCount_41 rfl (lv_at hl 0 rfl) ?_
  refine lv_iload_n hC.1 hC.2.1 d_Int_bitCount_42 rfl (lv_at hl 0 rfl) ?_
  refine lv_bipush (v := nI 16) hC.1 hC.2.1 d_Int_bitCount_43 (by decide) ?_
  refine nv_iushr hC (by omega) (by decide) d_Int_bitCount_45 ?_
  refine nv_iadd hC d_Int_bitCount_46 ?_
  obtain ⟨a5, e5⟩ : ∃ z, z = a4 + a4 / 2 ^ 16 := ⟨_, rfl⟩
  refine nv_top (y := nI (a5)) (by rw [e5]) ?_
  refine lv_istore_n (lv' := [(0, .int (nI (a5)))]) hC.1 hC.2.1 d_Int_bitCount_47 rfl hl (by decide) rfl (fun ls hl => ?_)
  refine lv_iload_n hC.1 hC.2.1 d_Int_bitCount_48 rfl (lv_at hl 0 rfl) ?_
  refine lv_bipush (v := nI 63) hC.1 hC.2.1 d_Int_bitCount_49 (by decide) ?_
  refine nv_iand (k := 6) hC (by omega) (by decide) d_Int_bitCount_51 ?_
  exact pu_iret hC hr hM hlk (congrArg nI (wm_bc hv e1 e2 e3 e4 e5)) d_Int_bitCount_52
set_option maxHeartbeats 4000000 in
set_option maxRecDepth 100000 in
theorem c_Int_numberOfTrailingZeros (l : Launch) (sz : Nat) (x : Int32) (hne : ¬ x = 0) : Met l y_Int_numberOfTrailingZeros (Cond.code y_Int_numberOfTrailingZeros b_Int_numberOfTrailingZeros 2 (some .int) :: lw_T) ({ frames := 0, cells := 0, slots := 0, locals := 0 }) (pu_Pc [.int (x)] sz) (pu_Qi (fun r => ∃ t : Nat, t < 32 ∧ wm_u x % 2 ^ t = 0 ∧ wm_u x / 2 ^ t % 2 = 1 ∧ r = nI t) sz) 0 0 (fun q => sz ≤ q) := by
  refine pu_met l (by decide) (Nat.le_of_ble_eq_true rfl) ?_
  intro p e s m below meth c ls hsz hC hr hlk hl
  subst hsz
  have hM : pu_H s s.heap [] := va_S.rf
  have hC : CallFix p m c b_Int_numberOfTrailingZeros 2 s _ lw_T R_Int := hC
  have hl : lv_has ls 2 [(0, .int (x))] := hl
  have hx := wm_u_lt x
  obtain ⟨t, m, ev⟩ := wm_ctz (wm_u_nz hne)
  have hp : 0 < 2 ^ t := Nat.pow_pos (by decide)
  have hle : 2 ^ t * 1 ≤ 2 ^ t * (2 * m + 1) := Nat.mul_le_mul_left _ (by omega)
  have hlow := wm_low_ones (t := t) (m := m) (by rw [← ev]; exact hx)
  rw [← ev] at hlow hle
  have hmod : wm_u x % 2 ^ t = 0 := by rw [ev]; exact Nat.mul_mod_right _ _
  have hdiv : wm_u x / 2 ^ t % 2 = 1 := by rw [ev, Nat.mul_div_cancel_left _ hp]; omega
  have ht32 : t < 32 := by
    rcases Nat.lt_or_ge t 32 with z | z
    · exact z
    · have h1 : 2 ^ 32 ≤ 2 ^ t := Nat.pow_le_pow_right (by decide) z
      omega
  have hbl := wm_bl_ones (t := t)
  have hv31 : 2 ^ t ≤ 2 ^ 31 := Nat.pow_le_pow_right (by decide) (by omega)
  obtain ⟨v, hv⟩ : ∃ z, z = 2 ^ t - 1 := ⟨_, rfl⟩
  rw [← hv] at hbl hlow
  refine lv_iload_n hC.1 hC.2.1 d_Int_numberOfTrailingZeros_0 rfl (lv_at hl 0 rfl) ?_
  refine lv_iconst (v := -1) hC.1 hC.2.1 d_Int_numberOfTrailingZeros_1 (by decide) ?_
  refine lv_ixor hC.1 hC.2.1 d_Int_numberOfTrailingZeros_2 ?_
  refine nv_top (y := nI (4294967296 - (wm_u x + 1))) (wm_xorm x) ?_
  refine lv_iload_n hC.1 hC.2.1 d_Int_numberOfTrailingZeros_3 rfl (lv_at hl 0 rfl) ?_
  refine nv_top (y := nI (wm_u x)) (wm_nu x).symm ?_
  refine lv_iconst (v := nI 1) hC.1 hC.2.1 d_Int_numberOfTrailingZeros_4 (by decide) ?_
  refine nv_isub hC (by omega) d_Int_numberOfTrailingZeros_5 ?_
  refine nv_iandm hC d_Int_numberOfTrailingZeros_6 ?_
  refine nv_top (y := nI (v)) (by rw [hlow]) ?_
  refine lv_istore_n (lv' := [(0, .int (nI (v)))]) hC.1 hC.2.1 d_Int_numberOfTrailingZeros_7 rfl hl (by decide) rfl (fun ls hl => ?_)
  refine lv_iload_n hC.1 hC.2.1 d_Int_numberOfTrailingZeros_8 rfl (lv_at hl 0 rfl) ?_
  refine lv_if_gt (tgt := 17) hC.1 hC.2.1 d_Int_numberOfTrailingZeros_9 (by decide) (fun h0 => ?_) (fun h0 => ?_)
  · have hv0 : 0 < v := (nI_ltI (a := 0) (by decide) (by omega)).mp h0
    have hb : wm_bl v = wm_bl v + 0 := rfl
    refine lv_iconst (v := nI 1) hC.1 hC.2.1 d_Int_numberOfTrailingZeros_17 (by decide) ?_
    refine lv_istore_n (lv' := [(1, .int (nI (1))), (0, .int (nI (v)))]) hC.1 hC.2.1 d_Int_numberOfTrailingZeros_18 rfl hl (by decide) rfl (fun ls hl => ?_)
    refine lv_iload_n hC.1 hC.2.1 d_Int_numberOfTrailingZeros_19 rfl (lv_at hl 1 rfl) ?_
    refine lv_ldcw (v := nI 65536) hC.1 hC.2.1 hC.2.2.2.1 (hC.2.2.2.2 _ kk_Int_264) d_Int_numberOfTrailingZeros_20 ?_
    refine nv_icmp_le (tgt := 34) hC (by omega) (by omega) d_Int_numberOfTrailingZeros_23 (by decide) (fun hc16 => ?_) (fun hc16 => ?_)
    · refine lv_iload_n hC.1 hC.2.1 d_Int_numberOfTrailingZeros_34 rfl (lv_at hl 1 rfl) ?_
      refine lv_sipush (v := nI 256) hC.1 hC.2.1 d_Int_numberOfTrailingZeros_35 (by decide) ?_
      refine nv_icmp_le (tgt := 49) hC (by omega) (by omega) d_Int_numberOfTrailingZeros_38 (by decide) (fun hc8 => ?_) (fun hc8 => ?_)
      · refine lv_iload_n hC.1 hC.2.1 d_Int_numberOfTrailingZeros_49 rfl (lv_at hl 1 rfl) ?_
        refine lv_bipush (v := nI 16) hC.1 hC.2.1 d_Int_numberOfTrailingZeros_50 (by decide) ?_
        refine nv_icmp_le (tgt := 62) hC (by omega) (by omega) d_Int_numberOfTrailingZeros_52 (by decide) (fun hc4 => ?_) (fun hc4 => ?_)
        · refine lv_iload_n hC.1 hC.2.1 d_Int_numberOfTrailingZeros_62 rfl (lv_at hl 1 rfl) ?_
          refine lv_iconst (v := nI 4) hC.1 hC.2.1 d_Int_numberOfTrailingZeros_63 (by decide) ?_
          refine nv_icmp_le (tgt := 74) hC (by omega) (by omega) d_Int_numberOfTrailingZeros_64 (by decide) (fun hc2 => ?_) (fun hc2 => ?_)
          · refine lv_iload_n hC.1 hC.2.1 d_Int_numberOfTrailingZeros_74 rfl (lv_at hl 0 rfl) ?_
            refine lv_iload_n hC.1 hC.2.1 d_Int_numberOfTrailingZeros_75 rfl (lv_at hl 1 rfl) ?_
            refine lv_iconst (v := nI 1) hC.1 hC.2.1 d_Int_numberOfTrailingZeros_76 (by decide) ?_
            refine nv_iushr hC (by omega) (by decide) d_Int_numberOfTrailingZeros_77 ?_
            refine nv_iadd hC d_Int_numberOfTrailingZeros_78 ?_
            refine pu_iret hC hr hM hlk ⟨t, ht32, hmod, hdiv, ?_⟩ d_Int_numberOfTrailingZeros_79
            exact congrArg nI (by rw [← hbl]; exact wm_ntz_fin hb (by omega) (by omega))
          · refine lv_iinc (v := nI (3)) (lv' := [(1, .int (nI (3))), (0, .int (nI (v)))]) hC.1 hC.2.1 d_Int_numberOfTrailingZeros_67 hl (k := 0) rfl (by decide) (by decide) rfl (fun ls hl => ?_)
            refine lv_iload_n hC.1 hC.2.1 d_Int_numberOfTrailingZeros_70 rfl (lv_at hl 1 rfl) ?_
            refine lv_iconst (v := nI 2) hC.1 hC.2.1 d_Int_numberOfTrailingZeros_71 (by decide) ?_
            refine nv_iushr hC (by omega) (by decide) d_Int_numberOfTrailingZeros_72 ?_
            refine lv_istore_n (lv' := [(0, .int (nI (v / 2 ^ 2))), (1, .int (nI (3)))]) hC.1 hC.2.1 d_Int_numberOfTrailingZeros_73 rfl hl (by decide) rfl (fun ls hl => ?_)
            have hb : wm_bl v = wm_bl (v / 2 ^ 2) + 2 := by rw [hb, wm_bl_div (k := 2) (by omega)]
            refine lv_iload_n hC.1 hC.2.1 d_Int_numberOfTrailingZeros_74 rfl (lv_at hl 1 rfl) ?_
            refine lv_iload_n hC.1 hC.2.1 d_Int_numberOfTrailingZeros_75 rfl (lv_at hl 0 rfl) ?_
            refine lv_iconst (v := nI 1) hC.1 hC.2.1 d_Int_numberOfTrailingZeros_76 (by decide) ?_
            refine nv_iushr hC (by omega) (by decide) d_Int_numberOfTrailingZeros_77 ?_
            refine nv_iadd hC d_Int_numberOfTrailingZeros_78 ?_
            refine pu_iret hC hr hM hlk ⟨t, ht32, hmod, hdiv, ?_⟩ d_Int_numberOfTrailingZeros_79
            exact congrArg nI (by rw [← hbl]; exact wm_ntz_fin hb (by omega) (by omega))
        · refine lv_iinc (v := nI (5)) (lv' := [(1, .int (nI (5))), (0, .int (nI (v)))]) hC.1 hC.2.1 d_Int_numberOfTrailingZeros_55 hl (k := 0) rfl (by decide) (by decide) rfl (fun ls hl => ?_)
          refine lv_iload_n hC.1 hC.2.1 d_Int_numberOfTrailingZeros_58 rfl (lv_at hl 1 rfl) ?_
          refine lv_iconst (v := nI 4) hC.1 hC.2.1 d_Int_numberOfTrailingZeros_59 (by decide) ?_
          refine nv_iushr hC (by omega) (by decide) d_Int_numberOfTrailingZeros_60 ?_
          refine lv_istore_n (lv' := [(0, .int (nI (v / 2 ^ 4))), (1, .int (nI (5)))]) hC.1 hC.2.1 d_Int_numberOfTrailingZeros_61 rfl hl (by decide) rfl (fun ls hl => ?_)
          have hb : wm_bl v = wm_bl (v / 2 ^ 4) + 4 := by rw [hb, wm_bl_div (k := 4) (by omega)]
          refine lv_iload_n hC.1 hC.2.1 d_Int_numberOfTrailingZeros_62 rfl (lv_at hl 0 rfl) ?_
          refine lv_iconst (v := nI 4) hC.1 hC.2.1 d_Int_numberOfTrailingZeros_63 (by decide) ?_
          refine nv_icmp_le (tgt := 74) hC (by omega) (by omega) d_Int_numberOfTrailingZeros_64 (by decide) (fun hc2 => ?_) (fun hc2 => ?_)
          · refine lv_iload_n hC.1 hC.2.1 d_Int_numberOfTrailingZeros_74 rfl (lv_at hl 1 rfl) ?_
            refine lv_iload_n hC.1 hC.2.1 d_Int_numberOfTrailingZeros_75 rfl (lv_at hl 0 rfl) ?_
            refine lv_iconst (v := nI 1) hC.1 hC.2.1 d_Int_numberOfTrailingZeros_76 (by decide) ?_
            refine nv_iushr hC (by omega) (by decide) d_Int_numberOfTrailingZeros_77 ?_
            refine nv_iadd hC d_Int_numberOfTrailingZeros_78 ?_
            refine pu_iret hC hr hM hlk ⟨t, ht32, hmod, hdiv, ?_⟩ d_Int_numberOfTrailingZeros_79
            exact congrArg nI (by rw [← hbl]; exact wm_ntz_fin hb (by omega) (by omega))
          · refine lv_iinc (v := nI (7)) (lv' := [(1, .int (nI (7))), (0, .int (nI (v / 2 ^ 4)))]) hC.1 hC.2.1 d_Int_numberOfTrailingZeros_67 hl (k := 1) rfl (by decide) (by decide) rfl (fun ls hl => ?_)
            refine lv_iload_n hC.1 hC.2.1 d_Int_numberOfTrailingZeros_70 rfl (lv_at hl 1 rfl) ?_
            refine lv_iconst (v := nI 2) hC.1 hC.2.1 d_Int_numberOfTrailingZeros_71 (by decide) ?_
            refine nv_iushr hC (by omega) (by decide) d_Int_numberOfTrailingZeros_72 ?_
            refine lv_istore_n (lv' := [(0, .int (nI ((v / 2 ^ 4) / 2 ^ 2))), (1, .int (nI (7)))]) hC.1 hC.2.1 d_Int_numberOfTrailingZeros_73 rfl hl (by decide) rfl (fun ls hl => ?_)
            have hb : wm_bl v = wm_bl ((v / 2 ^ 4) / 2 ^ 2) + 6 := by rw [hb, wm_bl_div (k := 2) (by omega)]
            refine lv_iload_n hC.1 hC.2.1 d_Int_numberOfTrailingZeros_74 rfl (lv_at hl 1 rfl) ?_
            refine lv_iload_n hC.1 hC.2.1 d_Int_numberOfTrailingZeros_75 rfl (lv_at hl 0 rfl) ?_
            refine lv_iconst (v := nI 1) hC.1 hC.2.1 d_Int_numberOfTrailingZeros_76 (by decide) ?_
            refine nv_iushr hC (by omega) (by decide) d_Int_numberOfTrailingZeros_77 ?_
            refine nv_iadd hC d_Int_numberOfTrailingZeros_78 ?_
            refine pu_iret hC hr hM hlk ⟨t, ht32, hmod, hdiv, ?_⟩ d_Int_numberOfTrailingZeros_79
            exact congrArg nI (by rw [← hbl]; exact wm_ntz_fin hb (by omega) (by omega))
      · refine lv_iinc (v := nI (9)) (lv' := [(1, .int (nI (9))), (0, .int (nI (v)))]) hC.1 hC.2.1 d_Int_numberOfTrailingZeros_41 hl (k := 0) rfl (by decide) (by decide) rfl (fun ls hl => ?_)
        refine lv_iload_n hC.1 hC.2.1 d_Int_numberOfTrailingZeros_44 rfl (lv_at hl 1 rfl) ?_
        refine lv_bipush (v := nI 8) hC.1 hC.2.1 d_Int_numberOfTrailingZeros_45 (by decide) ?_
        refine nv_iushr hC (by omega) (by decide) d_Int_numberOfTrailingZeros_47 ?_
        refine lv_istore_n (lv' := [(0, .int (nI (v / 2 ^ 8))), (1, .int (nI (9)))]) hC.1 hC.2.1 d_Int_numberOfTrailingZeros_48 rfl hl (by decide) rfl (fun ls hl => ?_)
        have hb : wm_bl v = wm_bl (v / 2 ^ 8) + 8 := by rw [hb, wm_bl_div (k := 8) (by omega)]
        refine lv_iload_n hC.1 hC.2.1 d_Int_numberOfTrailingZeros_49 rfl (lv_at hl 0 rfl) ?_
        refine lv_bipush (v := nI 16) hC.1 hC.2.1 d_Int_numberOfTrailingZeros_50 (by decide) ?_
        refine nv_icmp_le (tgt := 62) hC (by omega) (by omega) d_Int_numberOfTrailingZeros_52 (by decide) (fun hc4 => ?_) (fun hc4 => ?_)
        · refine lv_iload_n hC.1 hC.2.1 d_Int_numberOfTrailingZeros_62 rfl (lv_at hl 0 rfl) ?_
          refine lv_iconst (v := nI 4) hC.1 hC.2.1 d_Int_numberOfTrailingZeros_63 (by decide) ?_
          refine nv_icmp_le (tgt := 74) hC (by omega) (by omega) d_Int_numberOfTrailingZeros_64 (by decide) (fun hc2 => ?_) (fun hc2 => ?_)
          · refine lv_iload_n hC.1 hC.2.1 d_Int_numberOfTrailingZeros_74 rfl (lv_at hl 1 rfl) ?_
            refine lv_iload_n hC.1 hC.2.1 d_Int_numberOfTrailingZeros_75 rfl (lv_at hl 0 rfl) ?_
            refine lv_iconst (v := nI 1) hC.1 hC.2.1 d_Int_numberOfTrailingZeros_76 (by decide) ?_
            refine nv_iushr hC (by omega) (by decide) d_Int_numberOfTrailingZeros_77 ?_
            refine nv_iadd hC d_Int_numberOfTrailingZeros_78 ?_
            refine pu_iret hC hr hM hlk ⟨t, ht32, hmod, hdiv, ?_⟩ d_Int_numberOfTrailingZeros_79
            exact congrArg nI (by rw [← hbl]; exact wm_ntz_fin hb (by omega) (by omega))
          · refine lv_iinc (v := nI (11)) (lv' := [(1, .int (nI (11))), (0, .int (nI (v / 2 ^ 8)))]) hC.1 hC.2.1 d_Int_numberOfTrailingZeros_67 hl (k := 1) rfl (by decide) (by decide) rfl (fun ls hl => ?_)
            refine lv_iload_n hC.1 hC.2.1 d_Int_numberOfTrailingZeros_70 rfl (lv_at hl 1 rfl) ?_
            refine lv_iconst (v := nI 2) hC.1 hC.2.1 d_Int_numberOfTrailingZeros_71 (by decide) ?_
            refine nv_iushr hC (by omega) (by decide) d_Int_numberOfTrailingZeros_72 ?_
            refine lv_istore_n (lv' := [(0, .int (nI ((v / 2 ^ 8) / 2 ^ 2))), (1, .int (nI (11)))]) hC.1 hC.2.1 d_Int_numberOfTrailingZeros_73 rfl hl (by decide) rfl (fun ls hl => ?_)
            have hb : wm_bl v = wm_bl ((v / 2 ^ 8) / 2 ^ 2) + 10 := by rw [hb, wm_bl_div (k := 2) (by omega)]
            refine lv_iload_n hC.1 hC.2.1 d_Int_numberOfTrailingZeros_74 rfl (lv_at hl 1 rfl) ?_
            refine lv_iload_n hC.1 hC.2.1 d_Int_numberOfTrailingZeros_75 rfl (lv_at hl 0 rfl) ?_
            refine lv_iconst (v := nI 1) hC.1 hC.2.1 d_Int_numberOfTrailingZeros_76 (by decide) ?_
            refine nv_iushr hC (by omega) (by decide) d_Int_numberOfTrailingZeros_77 ?_
            refine nv_iadd hC d_Int_numberOfTrailingZeros_78 ?_
            refine pu_iret hC hr hM hlk ⟨t, ht32, hmod, hdiv, ?_⟩ d_Int_numberOfTrailingZeros_79
            exact congrArg nI (by rw [← hbl]; exact wm_ntz_fin hb (by omega) (by omega))
        · refine lv_iinc (v := nI (13)) (lv' := [(1, .int (nI (13))), (0, .int (nI (v / 2 ^ 8)))]) hC.1 hC.2.1 d_Int_numberOfTrailingZeros_55 hl (k := 1) rfl (by decide) (by decide) rfl (fun ls hl => ?_)
          refine lv_iload_n hC.1 hC.2.1 d_Int_numberOfTrailingZeros_58 rfl (lv_at hl 1 rfl) ?_
          refine lv_iconst (v := nI 4) hC.1 hC.2.1 d_Int_numberOfTrailingZeros_59 (by decide) ?_
          refine nv_iushr hC (by omega) (by decide) d_Int_numberOfTrailingZeros_60 ?_
          refine lv_istore_n (lv' := [(0, .int (nI ((v / 2 ^ 8) / 2 ^ 4))), (1, .int (nI (13)))]) hC.1 hC.2.1 d_Int_numberOfTrailingZeros_61 rfl hl (by decide) rfl (fun ls hl => ?_)
          have hb : wm_bl v = wm_bl ((v / 2 ^ 8) / 2 ^ 4) + 12 := by rw [hb, wm_bl_div (k := 4) (by omega)]
          refine lv_iload_n hC.1 hC.2.1 d_Int_numberOfTrailingZeros_62 rfl (lv_at hl 0 rfl) ?_
          refine lv_iconst (v := nI 4) hC.1 hC.2.1 d_Int_numberOfTrailingZeros_63 (by decide) ?_
          refine nv_icmp_le (tgt := 74) hC (by omega) (by omega) d_Int_numberOfTrailingZeros_64 (by decide) (fun hc2 => ?_) (fun hc2 => ?_)
          · refine lv_iload_n hC.1 hC.2.1 d_Int_numberOfTrailingZeros_74 rfl (lv_at hl 1 rfl) ?_
            refine lv_iload_n hC.1 hC.2.1 d_Int_numberOfTrailingZeros_75 rfl (lv_at hl 0 rfl) ?_
            refine lv_iconst (v := nI 1) hC.1 hC.2.1 d_Int_numberOfTrailingZeros_76 (by decide) ?_
            refine nv_iushr hC (by omega) (by decide) d_Int_numberOfTrailingZeros_77 ?_
            refine nv_iadd hC d_Int_numberOfTrailingZeros_78 ?_
            refine pu_iret hC hr hM hlk ⟨t, ht32, hmod, hdiv, ?_⟩ d_Int_numberOfTrailingZeros_79
            exact congrArg nI (by rw [← hbl]; exact wm_ntz_fin hb (by omega) (by omega))
          · refine lv_iinc (v := nI (15)) (lv' := [(1, .int (nI (15))), (0, .int (nI ((v / 2 ^ 8) / 2 ^ 4)))]) hC.1 hC.2.1 d_Int_numberOfTrailingZeros_67 hl (k := 1) rfl (by decide) (by decide) rfl (fun ls hl => ?_)
            refine lv_iload_n hC.1 hC.2.1 d_Int_numberOfTrailingZeros_70 rfl (lv_at hl 1 rfl) ?_
            refine lv_iconst (v := nI 2) hC.1 hC.2.1 d_Int_numberOfTrailingZeros_71 (by decide) ?_
            refine nv_iushr hC (by omega) (by decide) d_Int_numberOfTrailingZeros_72 ?_
            refine lv_istore_n (lv' := [(0, .int (nI (((v / 2 ^ 8) / 2 ^ 4) / 2 ^ 2))), (1, .int (nI (15)))]) hC.1 hC.2.1 d_Int_numberOfTrailingZeros_73 rfl hl (by decide) rfl (fun ls hl => ?_)
            have hb : wm_bl v = wm_bl (((v / 2 ^ 8) / 2 ^ 4) / 2 ^ 2) + 14 := by rw [hb, wm_bl_div (k := 2) (by omega)]
            refine lv_iload_n hC.1 hC.2.1 d_Int_numberOfTrailingZeros_74 rfl (lv_at hl 1 rfl) ?_
            refine lv_iload_n hC.1 hC.2.1 d_Int_numberOfTrailingZeros_75 rfl (lv_at hl 0 rfl) ?_
            refine lv_iconst (v := nI 1) hC.1 hC.2.1 d_Int_numberOfTrailingZeros_76 (by decide) ?_
            refine nv_iushr hC (by omega) (by decide) d_Int_numberOfTrailingZeros_77 ?_
            refine nv_iadd hC d_Int_numberOfTrailingZeros_78 ?_
            refine pu_iret hC hr hM hlk ⟨t, ht32, hmod, hdiv, ?_⟩ d_Int_numberOfTrailingZeros_79
            exact congrArg nI (by rw [← hbl]; exact wm_ntz_fin hb (by omega) (by omega))
    · refine lv_iinc (v := nI (17)) (lv' := [(1, .int (nI (17))), (0, .int (nI (v)))]) hC.1 hC.2.1 d_Int_numberOfTrailingZeros_26 hl (k := 0) rfl (by decide) (by decide) rfl (fun ls hl => ?_)
      refine lv_iload_n hC.1 hC.2.1 d_Int_numberOfTrailingZeros_29 rfl (lv_at hl 1 rfl) ?_
      refine lv_bipush (v := nI 16) hC.1 hC.2.1 d_Int_numberOfTrailingZeros_30 (by decide) ?_
      refine nv_iushr hC (by omega) (by decide) d_Int_numberOfTrailingZeros_32 ?_
      refine lv_istore_n (lv' := [(0, .int (nI (v / 2 ^ 16))), (1, .int (nI (17)))]) hC.1 hC.2.1 d_Int_numberOfTrailingZeros_33 rfl hl (by decide) rfl (fun ls hl => ?_)
      have hb : wm_bl v = wm_bl (v / 2 ^ 16) + 16 := by rw [hb, wm_bl_div (k := 16) (by omega)]
      refine lv_iload_n hC.1 hC.2.1 d_Int_numberOfTrailingZeros_34 rfl (lv_at hl 0 rfl) ?_
      refine lv_sipush (v := nI 256) hC.1 hC.2.1 d_Int_numberOfTrailingZeros_35 (by decide) ?_
      refine nv_icmp_le (tgt := 49) hC (by omega) (by omega) d_Int_numberOfTrailingZeros_38 (by decide) (fun hc8 => ?_) (fun hc8 => ?_)
      · refine lv_iload_n hC.1 hC.2.1 d_Int_numberOfTrailingZeros_49 rfl (lv_at hl 0 rfl) ?_
        refine lv_bipush (v := nI 16) hC.1 hC.2.1 d_Int_numberOfTrailingZeros_50 (by decide) ?_
        refine nv_icmp_le (tgt := 62) hC (by omega) (by omega) d_Int_numberOfTrailingZeros_52 (by decide) (fun hc4 => ?_) (fun hc4 => ?_)
        · refine lv_iload_n hC.1 hC.2.1 d_Int_numberOfTrailingZeros_62 rfl (lv_at hl 0 rfl) ?_
          refine lv_iconst (v := nI 4) hC.1 hC.2.1 d_Int_numberOfTrailingZeros_63 (by decide) ?_
          refine nv_icmp_le (tgt := 74) hC (by omega) (by omega) d_Int_numberOfTrailingZeros_64 (by decide) (fun hc2 => ?_) (fun hc2 => ?_)
          · refine lv_iload_n hC.1 hC.2.1 d_Int_numberOfTrailingZeros_74 rfl (lv_at hl 1 rfl) ?_
            refine lv_iload_n hC.1 hC.2.1 d_Int_numberOfTrailingZeros_75 rfl (lv_at hl 0 rfl) ?_
            refine lv_iconst (v := nI 1) hC.1 hC.2.1 d_Int_numberOfTrailingZeros_76 (by decide) ?_
            refine nv_iushr hC (by omega) (by decide) d_Int_numberOfTrailingZeros_77 ?_
            refine nv_iadd hC d_Int_numberOfTrailingZeros_78 ?_
            refine pu_iret hC hr hM hlk ⟨t, ht32, hmod, hdiv, ?_⟩ d_Int_numberOfTrailingZeros_79
            exact congrArg nI (by rw [← hbl]; exact wm_ntz_fin hb (by omega) (by omega))
          · refine lv_iinc (v := nI (19)) (lv' := [(1, .int (nI (19))), (0, .int (nI (v / 2 ^ 16)))]) hC.1 hC.2.1 d_Int_numberOfTrailingZeros_67 hl (k := 1) rfl (by decide) (by decide) rfl (fun ls hl => ?_)
            refine lv_iload_n hC.1 hC.2.1 d_Int_numberOfTrailingZeros_70 rfl (lv_at hl 1 rfl) ?_
            refine lv_iconst (v := nI 2) hC.1 hC.2.1 d_Int_numberOfTrailingZeros_71 (by decide) ?_
            refine nv_iushr hC (by omega) (by decide) d_Int_numberOfTrailingZeros_72 ?_
            refine lv_istore_n (lv' := [(0, .int (nI ((v / 2 ^ 16) / 2 ^ 2))), (1, .int (nI (19)))]) hC.1 hC.2.1 d_Int_numberOfTrailingZeros_73 rfl hl (by decide) rfl (fun ls hl => ?_)
            have hb : wm_bl v = wm_bl ((v / 2 ^ 16) / 2 ^ 2) + 18 := by rw [hb, wm_bl_div (k := 2) (by omega)]
            refine lv_iload_n hC.1 hC.2.1 d_Int_numberOfTrailingZeros_74 rfl (lv_at hl 1 rfl) ?_
            refine lv_iload_n hC.1 hC.2.1 d_Int_numberOfTrailingZeros_75 rfl (lv_at hl 0 rfl) ?_
            refine lv_iconst (v := nI 1) hC.1 hC.2.1 d_Int_numberOfTrailingZeros_76 (by decide) ?_
            refine nv_iushr hC (by omega) (by decide) d_Int_numberOfTrailingZeros_77 ?_
            refine nv_iadd hC d_Int_numberOfTrailingZeros_78 ?_
            refine pu_iret hC hr hM hlk ⟨t, ht32, hmod, hdiv, ?_⟩ d_Int_numberOfTrailingZeros_79
            exact congrArg nI (by rw [← hbl]; exact wm_ntz_fin hb (by omega) (by omega))
        · refine lv_iinc (v := nI (21)) (lv' := [(1, .int (nI (21))), (0, .int (nI (v / 2 ^ 16)))]) hC.1 hC.2.1 d_Int_numberOfTrailingZeros_55 hl (k := 1) rfl (by decide) (by decide) rfl (fun ls hl => ?_)
          refine lv_iload_n hC.1 hC.2.1 d_Int_numberOfTrailingZeros_58 rfl (lv_at hl 1 rfl) ?_
          refine lv_iconst (v := nI 4) hC.1 hC.2.1 d_Int_numberOfTrailingZeros_59 (by decide) ?_
          refine nv_iushr hC (by omega) (by decide) d_Int_numberOfTrailingZeros_60 ?_
          refine lv_istore_n (lv' := [(0, .int (nI ((v / 2 ^ 16) / 2 ^ 4))), (1, .int (nI (21)))]) hC.1 hC.2.1 d_Int_numberOfTrailingZeros_61 rfl hl (by decide) rfl (fun ls hl => ?_)
          have hb : wm_bl v = wm_bl ((v / 2 ^ 16) / 2 ^ 4) + 20 := by rw [hb, wm_bl_div (k := 4) (by omega)]
          refine lv_iload_n hC.1 hC.2.1 d_Int_numberOfTrailingZeros_62 rfl (lv_at hl 0 rfl) ?_
          refine lv_iconst (v := nI 4) hC.1 hC.2.1 d_Int_numberOfTrailingZeros_63 (by decide) ?_
          refine nv_icmp_le (tgt := 74) hC (by omega) (by omega) d_Int_numberOfTrailingZeros_64 (by decide) (fun hc2 => ?_) (fun hc2 => ?_)
          · refine lv_iload_n hC.1 hC.2.1 d_Int_numberOfTrailingZeros_74 rfl (lv_at hl 1 rfl) ?_
            refine lv_iload_n hC.1 hC.2.1 d_Int_numberOfTrailingZeros_75 rfl (lv_at hl 0 rfl) ?_
            refine lv_iconst (v := nI 1) hC.1 hC.2.1 d_Int_numberOfTrailingZeros_76 (by decide) ?_
            refine nv_iushr hC (by omega) (by decide) d_Int_numberOfTrailingZeros_77 ?_
            refine nv_iadd hC d_Int_numberOfTrailingZeros_78 ?_
            refine pu_iret hC hr hM hlk ⟨t, ht32, hmod, hdiv, ?_⟩ d_Int_numberOfTrailingZeros_79
            exact congrArg nI (by rw [← hbl]; exact wm_ntz_fin hb (by omega) (by omega))
          · refine lv_iinc (v := nI (23)) (lv' := [(1, .int (nI (23))), (0, .int (nI ((v / 2 ^ 16) / 2 ^ 4)))]) hC.1 hC.2.1 d_Int_numberOfTrailingZeros_67 hl (k := 1) rfl (by decide) (by decide) rfl (fun ls hl => ?_)
            refine lv_iload_n hC.1 hC.2.1 d_Int_numberOfTrailingZeros_70 rfl (lv_at hl 1 rfl) ?_
            refine lv_iconst (v := nI 2) hC.1 hC.2.1 d_Int_numberOfTrailingZeros_71 (by decide) ?_
            refine nv_iushr hC (by omega) (by decide) d_Int_numberOfTrailingZeros_72 ?_
            refine lv_istore_n (lv' := [(0, .int (nI (((v / 2 ^ 16) / 2 ^ 4) / 2 ^ 2))), (1, .int (nI (23)))]) hC.1 hC.2.1 d_Int_numberOfTrailingZeros_73 rfl hl (by decide) rfl (fun ls hl => ?_)
            have hb : wm_bl v = wm_bl (((v / 2 ^ 16) / 2 ^ 4) / 2 ^ 2) + 22 := by rw [hb, wm_bl_div (k := 2) (by omega)]
            refine lv_iload_n hC.1 hC.2.1 d_Int_numberOfTrailingZeros_74 rfl (lv_at hl 1 rfl) ?_
            refine lv_iload_n hC.1 hC.2.1 d_Int_numberOfTrailingZeros_75 rfl (lv_at hl 0 rfl) ?_
            refine lv_iconst (v := nI 1) hC.1 hC.2.1 d_Int_numberOfTrailingZeros_76 (by decide) ?_
            refine nv_iushr hC (by omega) (by decide) d_Int_numberOfTrailingZeros_77 ?_
            refine nv_iadd hC d_Int_numberOfTrailingZeros_78 ?_
            refine pu_iret hC hr hM hlk ⟨t, ht32, hmod, hdiv, ?_⟩ d_Int_numberOfTrailingZeros_79
            exact congrArg nI (by rw [← hbl]; exact wm_ntz_fin hb (by omega) (by omega))
      · refine lv_iinc (v := nI (25)) (lv' := [(1, .int (nI (25))), (0, .int (nI (v / 2 ^ 16)))]) hC.1 hC.2.1 d_Int_numberOfTrailingZeros_41 hl (k := 1) rfl (by decide) (by decide) rfl (fun ls hl => ?_)
        refine lv_iload_n hC.1 hC.2.1 d_Int_numberOfTrailingZeros_44 rfl (lv_at hl 1 rfl) ?_
        refine lv_bipush (v := nI 8) hC.1 hC.2.1 d_Int_numberOfTrailingZeros_45 (by decide) ?_
        refine nv_iushr hC (by omega) (by decide) d_Int_numberOfTrailingZeros_47 ?_
        refine lv_istore_n (lv' := [(0, .int (nI ((v / 2 ^ 16) / 2 ^ 8))), (1, .int (nI (25)))]) hC.1 hC.2.1 d_Int_numberOfTrailingZeros_48 rfl hl (by decide) rfl (fun ls hl => ?_)
        have hb : wm_bl v = wm_bl ((v / 2 ^ 16) / 2 ^ 8) + 24 := by rw [hb, wm_bl_div (k := 8) (by omega)]
        refine lv_iload_n hC.1 hC.2.1 d_Int_numberOfTrailingZeros_49 rfl (lv_at hl 0 rfl) ?_
        refine lv_bipush (v := nI 16) hC.1 hC.2.1 d_Int_numberOfTrailingZeros_50 (by decide) ?_
        refine nv_icmp_le (tgt := 62) hC (by omega) (by omega) d_Int_numberOfTrailingZeros_52 (by decide) (fun hc4 => ?_) (fun hc4 => ?_)
        · refine lv_iload_n hC.1 hC.2.1 d_Int_numberOfTrailingZeros_62 rfl (lv_at hl 0 rfl) ?_
          refine lv_iconst (v := nI 4) hC.1 hC.2.1 d_Int_numberOfTrailingZeros_63 (by decide) ?_
          refine nv_icmp_le (tgt := 74) hC (by omega) (by omega) d_Int_numberOfTrailingZeros_64 (by decide) (fun hc2 => ?_) (fun hc2 => ?_)
          · refine lv_iload_n hC.1 hC.2.1 d_Int_numberOfTrailingZeros_74 rfl (lv_at hl 1 rfl) ?_
            refine lv_iload_n hC.1 hC.2.1 d_Int_numberOfTrailingZeros_75 rfl (lv_at hl 0 rfl) ?_
            refine lv_iconst (v := nI 1) hC.1 hC.2.1 d_Int_numberOfTrailingZeros_76 (by decide) ?_
            refine nv_iushr hC (by omega) (by decide) d_Int_numberOfTrailingZeros_77 ?_
            refine nv_iadd hC d_Int_numberOfTrailingZeros_78 ?_
            refine pu_iret hC hr hM hlk ⟨t, ht32, hmod, hdiv, ?_⟩ d_Int_numberOfTrailingZeros_79
            exact congrArg nI (by rw [← hbl]; exact wm_ntz_fin hb (by omega) (by omega))
          · refine lv_iinc (v := nI (27)) (lv' := [(1, .int (nI (27))), (0, .int (nI ((v / 2 ^ 16) / 2 ^ 8)))]) hC.1 hC.2.1 d_Int_numberOfTrailingZeros_67 hl (k := 1) rfl (by decide) (by decide) rfl (fun ls hl => ?_)
            refine lv_iload_n hC.1 hC.2.1 d_Int_numberOfTrailingZeros_70 rfl (lv_at hl 1 rfl) ?_
            refine lv_iconst (v := nI 2) hC.1 hC.2.1 d_Int_numberOfTrailingZeros_71 (by decide) ?_
            refine nv_iushr hC (by omega) (by decide) d_Int_numberOfTrailingZeros_72 ?_
            refine lv_istore_n (lv' := [(0, .int (nI (((v / 2 ^ 16) / 2 ^ 8) / 2 ^ 2))), (1, .int (nI (27)))]) hC.1 hC.2.1 d_Int_numberOfTrailingZeros_73 rfl hl (by decide) rfl (fun ls hl => ?_)
            have hb : wm_bl v = wm_bl (((v / 2 ^ 16) / 2 ^ 8) / 2 ^ 2) + 26 := by rw [hb, wm_bl_div (k := 2) (by omega)]
            refine lv_iload_n hC.1 hC.2.1 d_Int_numberOfTrailingZeros_74 rfl (lv_at hl 1 rfl) ?_
            refine lv_iload_n hC.1 hC.2.1 d_Int_numberOfTrailingZeros_75 rfl (lv_at hl 0 rfl) ?_
            refine lv_iconst (v := nI 1) hC.1 hC.2.1 d_Int_numberOfTrailingZeros_76 (by decide) ?_
            refine nv_iushr hC (by omega) (by decide) d_Int_numberOfTrailingZeros_77 ?_
            refine nv_iadd hC d_Int_numberOfTrailingZeros_78 ?_
            refine pu_iret hC hr hM hlk ⟨t, ht32, hmod, hdiv, ?_⟩ d_Int_numberOfTrailingZeros_79
            exact congrArg nI (by rw [← hbl]; exact wm_ntz_fin hb (by omega) (by omega))
        · refine lv_iinc (v := nI (29)) (lv' := [(1, .int (nI (29))), (0, .int (nI ((v / 2 ^ 16) / 2 ^ 8)))]) hC.1 hC.2.1 d_Int_numberOfTrailingZeros_55 hl (k := 1) rfl (by decide) (by decide) rfl (fun ls hl => ?_)
          refine lv_iload_n hC.1 hC.2.1 d_Int_numberOfTrailingZeros_58 rfl (lv_at hl 1 rfl) ?_
          refine lv_iconst (v := nI 4) hC.1 hC.2.1 d_Int_numberOfTrailingZeros_59 (by decide) ?_
          refine nv_iushr hC (by omega) (by decide) d_Int_numberOfTrailingZeros_60 ?_
          refine lv_istore_n (lv' := [(0, .int (nI (((v / 2 ^ 16) / 2 ^ 8) / 2 ^ 4))), (1, .int (nI (29)))]) hC.1 hC.2.1 d_Int_numberOfTrailingZeros_61 rfl hl (by decide) rfl (fun ls hl => ?_)
          have hb : wm_bl v = wm_bl (((v / 2 ^ 16) / 2 ^ 8) / 2 ^ 4) + 28 := by rw [hb, wm_bl_div (k := 4) (by omega)]
          refine lv_iload_n hC.1 hC.2.1 d_Int_numberOfTrailingZeros_62 rfl (lv_at hl 0 rfl) ?_
          refine lv_iconst (v := nI 4) hC.1 hC.2.1 d_Int_numberOfTrailingZeros_63 (by decide) ?_
          refine nv_icmp_le (tgt := 74) hC (by omega) (by omega) d_Int_numberOfTrailingZeros_64 (by decide) (fun hc2 => ?_) (fun hc2 => ?_)
          · refine lv_iload_n hC.1 hC.2.1 d_Int_numberOfTrailingZeros_74 rfl (lv_at hl 1 rfl) ?_
            refine lv_iload_n hC.1 hC.2.1 d_Int_numberOfTrailingZeros_75 rfl (lv_at hl 0 rfl) ?_
            refine lv_iconst (v := nI 1) hC.1 hC.2.1 d_Int_numberOfTrailingZeros_76 (by decide) ?_
            refine nv_iushr hC (by omega) (by decide) d_Int_numberOfTrailingZeros_77 ?_
            refine nv_iadd hC d_Int_numberOfTrailingZeros_78 ?_
            refine pu_iret hC hr hM hlk ⟨t, ht32, hmod, hdiv, ?_⟩ d_Int_numberOfTrailingZeros_79
            exact congrArg nI (by rw [← hbl]; exact wm_ntz_fin hb (by omega) (by omega))
          · refine lv_iinc (v := nI (31)) (lv' := [(1, .int (nI (31))), (0, .int (nI (((v / 2 ^ 16) / 2 ^ 8) / 2 ^ 4)))]) hC.1 hC.2.1 d_Int_numberOfTrailingZeros_67 hl (k := 1) rfl (by decide) (by decide) rfl (fun ls hl => ?_)
            refine lv_iload_n hC.1 hC.2.1 d_Int_numberOfTrailingZeros_70 rfl (lv_at hl 1 rfl) ?_
            refine lv_iconst (v := nI 2) hC.1 hC.2.1 d_Int_numberOfTrailingZeros_71 (by decide) ?_
            refine nv_iushr hC (by omega) (by decide) d_Int_numberOfTrailingZeros_72 ?_
            refine lv_istore_n (lv' := [(0, .int (nI ((((v / 2 ^ 16) / 2 ^ 8) / 2 ^ 4) / 2 ^ 2))), (1, .int (nI (31)))]) hC.1 hC.2.1 d_Int_numberOfTrailingZeros_73 rfl hl (by decide) rfl (fun ls hl => ?_)
            have hb : wm_bl v = wm_bl ((((v / 2 ^ 16) / 2 ^ 8) / 2 ^ 4) / 2 ^ 2) + 30 := by rw [hb, wm_bl_div (k := 2) (by omega)]
            refine lv_iload_n hC.1 hC.2.1 d_Int_numberOfTrailingZeros_74 rfl (lv_at hl 1 rfl) ?_
            refine lv_iload_n hC.1 hC.2.1 d_Int_numberOfTrailingZeros_75 rfl (lv_at hl 0 rfl) ?_
            refine lv_iconst (v := nI 1) hC.1 hC.2.1 d_Int_numberOfTrailingZeros_76 (by decide) ?_
            refine nv_iushr hC (by omega) (by decide) d_Int_numberOfTrailingZeros_77 ?_
            refine nv_iadd hC d_Int_numberOfTrailingZeros_78 ?_
            refine pu_iret hC hr hM hlk ⟨t, ht32, hmod, hdiv, ?_⟩ d_Int_numberOfTrailingZeros_79
            exact congrArg nI (by rw [← hbl]; exact wm_ntz_fin hb (by omega) (by omega))
  · have hv0 : v = 0 := by
      rcases Nat.eq_zero_or_pos v with z | z
      · exact z
      · exact absurd ((nI_ltI (a := 0) (by decide) (by omega)).mpr z) h0
    have ht0 : t = 0 := by rw [← hbl, hv0]; rfl
    refine lv_iload_n hC.1 hC.2.1 d_Int_numberOfTrailingZeros_12 rfl (lv_at hl 0 rfl) ?_
    refine lv_bipush (v := nI 32) hC.1 hC.2.1 d_Int_numberOfTrailingZeros_13 (by decide) ?_
    refine nv_iandm hC d_Int_numberOfTrailingZeros_15 ?_
    refine pu_iret hC hr hM hlk ⟨t, ht32, hmod, hdiv, ?_⟩ d_Int_numberOfTrailingZeros_16
    rw [hv0, ht0]; decide
