set_option maxHeartbeats 4000000 in
set_option maxRecDepth 100000 in
theorem c_Mill_isRegister (l : Launch) (sz : Nat) (x : Int32) : Met l y_Mill_isRegister (Cond.code y_Mill_isRegister b_Mill_isRegister 1 (some .boolean) :: lw_T) ({ frames := 0, cells := 0, slots := 0, locals := 0 }) (pu_Pc [.int (x)] sz) (pu_Qi (fun r => (∃ j : Nat, j < 16 ∧ x = nI j ∧ r = nI 1) ∨ ((x < 0 ∨ nI 16 ≤ x) ∧ r = nI 0)) sz) 0 0 (fun q => sz ≤ q) := by
  refine pu_met l (by decide) (Nat.le_of_ble_eq_true rfl) ?_
  intro p e s m below meth c ls hsz hC hr hlk hl
  subst hsz
  have hM : pu_H s s.heap [] := va_S.rf
  have hC : CallFix p m c b_Mill_isRegister 1 s _ lw_T R_Mill := hC
  have hl : lv_has ls 1 [(0, .int (x))] := hl
  refine lv_iload_n hC.1 hC.2.1 d_Mill_isRegister_0 rfl (lv_at hl 0 rfl) ?_
  refine lv_if_lt (tgt := 14) hC.1 hC.2.1 d_Mill_isRegister_1 (by decide) (fun h1 => ?_) (fun h1 => ?_)
  · refine lv_iconst (v := nI 0) hC.1 hC.2.1 d_Mill_isRegister_14 (by decide) ?_
    exact pu_zret hC hr rfl hM hlk (Or.inr ⟨Or.inl h1, rfl⟩) d_Mill_isRegister_15
  · refine lv_iload_n hC.1 hC.2.1 d_Mill_isRegister_4 rfl (lv_at hl 0 rfl) ?_
    refine lv_bipush (v := nI 16) hC.1 hC.2.1 d_Mill_isRegister_5 (by decide) ?_
    refine lv_icmp_ge (tgt := 14) hC.1 hC.2.1 d_Mill_isRegister_7 (by decide) (fun h2 => ?_) (fun h2 => ?_)
    · refine lv_iconst (v := nI 0) hC.1 hC.2.1 d_Mill_isRegister_14 (by decide) ?_
      exact pu_zret hC hr rfl hM hlk (Or.inr ⟨Or.inr h2, rfl⟩) d_Mill_isRegister_15
    · refine lv_iconst (v := nI 1) hC.1 hC.2.1 d_Mill_isRegister_10 (by decide) ?_
      refine lv_goto (tgt := 15) hC.1 hC.2.1 d_Mill_isRegister_11 (by decide) ?_
      obtain ⟨j, hj, rfl⟩ := nI_of h1
      exact pu_zret hC hr rfl hM hlk (Or.inl ⟨j, (nI_ltI hj (by decide)).mp (Int32.not_le.mp h2), rfl, rfl⟩) d_Mill_isRegister_15
set_option maxHeartbeats 4000000 in
set_option maxRecDepth 100000 in
theorem c_Mod_isRegister (l : Launch) (sz : Nat) (x : Int32) : Met l y_Mod_isRegister (Cond.code y_Mod_isRegister b_Mod_isRegister 1 (some .boolean) :: lw_T) ({ frames := 0, cells := 0, slots := 0, locals := 0 }) (pu_Pc [.int (x)] sz) (pu_Qi (fun r => (∃ j : Nat, j < 16 ∧ x = nI j ∧ r = nI 1) ∨ ((x < 0 ∨ nI 16 ≤ x) ∧ r = nI 0)) sz) 0 0 (fun q => sz ≤ q) := by
  refine pu_met l (by decide) (Nat.le_of_ble_eq_true rfl) ?_
  intro p e s m below meth c ls hsz hC hr hlk hl
  subst hsz
  have hM : pu_H s s.heap [] := va_S.rf
  have hC : CallFix p m c b_Mod_isRegister 1 s _ lw_T R_Mod := hC
  have hl : lv_has ls 1 [(0, .int (x))] := hl
  refine lv_iload_n hC.1 hC.2.1 d_Mod_isRegister_0 rfl (lv_at hl 0 rfl) ?_
  refine lv_if_lt (tgt := 14) hC.1 hC.2.1 d_Mod_isRegister_1 (by decide) (fun h1 => ?_) (fun h1 => ?_)
  · refine lv_iconst (v := nI 0) hC.1 hC.2.1 d_Mod_isRegister_14 (by decide) ?_
    exact pu_zret hC hr rfl hM hlk (Or.inr ⟨Or.inl h1, rfl⟩) d_Mod_isRegister_15
  · refine lv_iload_n hC.1 hC.2.1 d_Mod_isRegister_4 rfl (lv_at hl 0 rfl) ?_
    refine lv_bipush (v := nI 16) hC.1 hC.2.1 d_Mod_isRegister_5 (by decide) ?_
    refine lv_icmp_ge (tgt := 14) hC.1 hC.2.1 d_Mod_isRegister_7 (by decide) (fun h2 => ?_) (fun h2 => ?_)
    · refine lv_iconst (v := nI 0) hC.1 hC.2.1 d_Mod_isRegister_14 (by decide) ?_
      exact pu_zret hC hr rfl hM hlk (Or.inr ⟨Or.inr h2, rfl⟩) d_Mod_isRegister_15
    · refine lv_iconst (v := nI 1) hC.1 hC.2.1 d_Mod_isRegister_10 (by decide) ?_
      refine lv_goto (tgt := 15) hC.1 hC.2.1 d_Mod_isRegister_11 (by decide) ?_
      obtain ⟨j, hj, rfl⟩ := nI_of h1
      exact pu_zret hC hr rfl hM hlk (Or.inl ⟨j, (nI_ltI hj (by decide)).mp (Int32.not_le.mp h2), rfl, rfl⟩) d_Mod_isRegister_15
set_option maxHeartbeats 4000000 in
set_option maxRecDepth 100000 in
theorem c_Rows_isAbove (l : Launch) (sz : Nat) (a b : Nat) (ha : a < 2 ^ 64) (hb : b < 2 ^ 64) : Met l y_Rows_isAbove (Cond.code y_Rows_isAbove b_Rows_isAbove 4 (some .boolean) :: lw_T) ({ frames := 0, cells := 0, slots := 0, locals := 0 }) (pu_Pc [.long (lN (a)), .long (lN (b))] sz) (pu_Qi (fun r => (b < a ∧ r = nI 1) ∨ (a ≤ b ∧ r = nI 0)) sz) 0 0 (fun q => sz ≤ q) := by
  refine pu_met l (by decide) (Nat.le_of_ble_eq_true rfl) ?_
  intro p e s m below meth c ls hsz hC hr hlk hl
  subst hsz
  have hM : pu_H s s.heap [] := va_S.rf
  have hC : CallFix p m c b_Rows_isAbove 4 s _ lw_T R_Rows := hC
  have hl : lv_has ls 4 [(0, .long (lN (a))), (2, .long (lN (b)))] := hl
  refine lv_lload_n hC.1 hC.2.1 d_Rows_isAbove_0 rfl (lv_at hl 0 rfl) ?_
  refine lv_ldc2 (v := -9223372036854775808) hC.1 hC.2.1 hC.2.2.2.1 (hC.2.2.2.2 _ kl_Rows_23) d_Rows_isAbove_1 ?_
  refine lv_lxor hC.1 hC.2.1 d_Rows_isAbove_4 ?_
  refine lv_lload_n hC.1 hC.2.1 d_Rows_isAbove_5 rfl (lv_at hl 1 rfl) ?_
  refine lv_ldc2 (v := -9223372036854775808) hC.1 hC.2.1 hC.2.2.2.1 (hC.2.2.2.2 _ kl_Rows_23) d_Rows_isAbove_6 ?_
  refine lv_lxor hC.1 hC.2.1 d_Rows_isAbove_9 ?_
  refine W.lcmp hC.1 hC.2.1 d_Rows_isAbove_10 ?_
  refine lv_if_le (tgt := 18) hC.1 hC.2.1 d_Rows_isAbove_11 (by decide) (fun h1 => ?_) (fun h1 => ?_)
  · refine lv_iconst (v := nI 0) hC.1 hC.2.1 d_Rows_isAbove_18 (by decide) ?_
    exact pu_zret hC hr rfl hM hlk (by rw [lg_cmp_le, ultL hb ha] at h1; exact Or.inr ⟨h1, rfl⟩) d_Rows_isAbove_19
  · refine lv_iconst (v := nI 1) hC.1 hC.2.1 d_Rows_isAbove_14 (by decide) ?_
    refine lv_goto (tgt := 19) hC.1 hC.2.1 d_Rows_isAbove_15 (by decide) ?_
    exact pu_zret hC hr rfl hM hlk (by rw [lg_cmp_le, ultL hb ha] at h1; exact Or.inl ⟨by omega, rfl⟩) d_Rows_isAbove_19
set_option maxHeartbeats 4000000 in
set_option maxRecDepth 100000 in
theorem c_Int_numberOfLeadingZeros (l : Launch) (sz : Nat) (x : Int32) : Met l y_Int_numberOfLeadingZeros (Cond.code y_Int_numberOfLeadingZeros b_Int_numberOfLeadingZeros 2 (some .int) :: lw_T) ({ frames := 0, cells := 0, slots := 0, locals := 0 }) (pu_Pc [.int (x)] sz) (pu_Qi (fun r => r = nI (32 - wm_bl (wm_u x))) sz) 0 0 (fun q => sz ≤ q) := by
  refine pu_met l (by decide) (Nat.le_of_ble_eq_true rfl) ?_
  intro p e s m below meth c ls hsz hC hr hlk hl
  subst hsz
  have hM : pu_H s s.heap [] := va_S.rf
  have hC : CallFix p m c b_Int_numberOfLeadingZeros 2 s _ lw_T R_Int := hC
  have hl : lv_has ls 2 [(0, .int (x))] := hl
  refine lv_iload_n hC.1 hC.2.1 d_Int_numberOfLeadingZeros_0 rfl (lv_at hl 0 rfl) ?_
  refine lv_if_gt (tgt := 15) hC.1 hC.2.1 d_Int_numberOfLeadingZeros_1 (by decide) (fun h0 => ?_) (fun h0 => ?_)
  · obtain ⟨v, hv, rfl⟩ := nI_of (x := x) (fun z => Int32.lt_irrefl (Int32.lt_trans h0 z))
    have hv0 : 0 < v := (nI_ltI (a := 0) (by decide) hv).mp h0
    rw [wm_un' (by omega)]
    have hb : wm_bl v = wm_bl v + 0 := rfl
    refine lv_bipush (v := nI 31) hC.1 hC.2.1 d_Int_numberOfLeadingZeros_15 (by decide) ?_
    refine lv_istore_n (lv' := [(1, .int (nI (31))), (0, .int (nI (v)))]) hC.1 hC.2.1 d_Int_numberOfLeadingZeros_17 rfl hl (by decide) rfl (fun ls hl => ?_)
    refine lv_iload_n hC.1 hC.2.1 d_Int_numberOfLeadingZeros_18 rfl (lv_at hl 1 rfl) ?_
    refine lv_ldcw (v := nI 65536) hC.1 hC.2.1 hC.2.2.2.1 (hC.2.2.2.2 _ kk_Int_264) d_Int_numberOfLeadingZeros_19 ?_
    refine nv_icmp_lt (tgt := 33) hC (by omega) (by omega) d_Int_numberOfLeadingZeros_22 (by decide) (fun hc16 => ?_) (fun hc16 => ?_)
    · refine lv_iload_n hC.1 hC.2.1 d_Int_numberOfLeadingZeros_33 rfl (lv_at hl 1 rfl) ?_
      refine lv_sipush (v := nI 256) hC.1 hC.2.1 d_Int_numberOfLeadingZeros_34 (by decide) ?_
      refine nv_icmp_lt (tgt := 48) hC (by omega) (by omega) d_Int_numberOfLeadingZeros_37 (by decide) (fun hc8 => ?_) (fun hc8 => ?_)
      · refine lv_iload_n hC.1 hC.2.1 d_Int_numberOfLeadingZeros_48 rfl (lv_at hl 1 rfl) ?_
        refine lv_bipush (v := nI 16) hC.1 hC.2.1 d_Int_numberOfLeadingZeros_49 (by decide) ?_
        refine nv_icmp_lt (tgt := 61) hC (by omega) (by omega) d_Int_numberOfLeadingZeros_51 (by decide) (fun hc4 => ?_) (fun hc4 => ?_)
        · refine lv_iload_n hC.1 hC.2.1 d_Int_numberOfLeadingZeros_61 rfl (lv_at hl 1 rfl) ?_
          refine lv_iconst (v := nI 4) hC.1 hC.2.1 d_Int_numberOfLeadingZeros_62 (by decide) ?_
          refine nv_icmp_lt (tgt := 73) hC (by omega) (by omega) d_Int_numberOfLeadingZeros_63 (by decide) (fun hc2 => ?_) (fun hc2 => ?_)
          · refine lv_iload_n hC.1 hC.2.1 d_Int_numberOfLeadingZeros_73 rfl (lv_at hl 0 rfl) ?_
            refine lv_iload_n hC.1 hC.2.1 d_Int_numberOfLeadingZeros_74 rfl (lv_at hl 1 rfl) ?_
            refine lv_iconst (v := nI 1) hC.1 hC.2.1 d_Int_numberOfLeadingZeros_75 (by decide) ?_
            refine nv_iushr hC (by omega) (by decide) d_Int_numberOfLeadingZeros_76 ?_
            refine nv_isub hC (by omega) d_Int_numberOfLeadingZeros_77 ?_
            refine pu_iret hC hr hM hlk ?_ d_Int_numberOfLeadingZeros_78
            exact congrArg nI (wm_nlz_fin hb (by omega) (by omega))
          · refine lv_iinc (v := nI (29)) (lv' := [(1, .int (nI (29))), (0, .int (nI (v)))]) hC.1 hC.2.1 d_Int_numberOfLeadingZeros_66 hl (k := 0) rfl (by decide) (by decide) rfl (fun ls hl => ?_)
            refine lv_iload_n hC.1 hC.2.1 d_Int_numberOfLeadingZeros_69 rfl (lv_at hl 1 rfl) ?_
            refine lv_iconst (v := nI 2) hC.1 hC.2.1 d_Int_numberOfLeadingZeros_70 (by decide) ?_
            refine nv_iushr hC (by omega) (by decide) d_Int_numberOfLeadingZeros_71 ?_
            refine lv_istore_n (lv' := [(0, .int (nI (v / 2 ^ 2))), (1, .int (nI (29)))]) hC.1 hC.2.1 d_Int_numberOfLeadingZeros_72 rfl hl (by decide) rfl (fun ls hl => ?_)
            have hb : wm_bl v = wm_bl (v / 2 ^ 2) + 2 := by rw [hb, wm_bl_div (k := 2) (by omega)]
            refine lv_iload_n hC.1 hC.2.1 d_Int_numberOfLeadingZeros_73 rfl (lv_at hl 1 rfl) ?_
            refine lv_iload_n hC.1 hC.2.1 d_Int_numberOfLeadingZeros_74 rfl (lv_at hl 0 rfl) ?_
            refine lv_iconst (v := nI 1) hC.1 hC.2.1 d_Int_numberOfLeadingZeros_75 (by decide) ?_
            refine nv_iushr hC (by omega) (by decide) d_Int_numberOfLeadingZeros_76 ?_
            refine nv_isub hC (by omega) d_Int_numberOfLeadingZeros_77 ?_
            refine pu_iret hC hr hM hlk ?_ d_Int_numberOfLeadingZeros_78
            exact congrArg nI (wm_nlz_fin hb (by omega) (by omega))
        · refine lv_iinc (v := nI (27)) (lv' := [(1, .int (nI (27))), (0, .int (nI (v)))]) hC.1 hC.2.1 d_Int_numberOfLeadingZeros_54 hl (k := 0) rfl (by decide) (by decide) rfl (fun ls hl => ?_)
          refine lv_iload_n hC.1 hC.2.1 d_Int_numberOfLeadingZeros_57 rfl (lv_at hl 1 rfl) ?_
          refine lv_iconst (v := nI 4) hC.1 hC.2.1 d_Int_numberOfLeadingZeros_58 (by decide) ?_
          refine nv_iushr hC (by omega) (by decide) d_Int_numberOfLeadingZeros_59 ?_
          refine lv_istore_n (lv' := [(0, .int (nI (v / 2 ^ 4))), (1, .int (nI (27)))]) hC.1 hC.2.1 d_Int_numberOfLeadingZeros_60 rfl hl (by decide) rfl (fun ls hl => ?_)
          have hb : wm_bl v = wm_bl (v / 2 ^ 4) + 4 := by rw [hb, wm_bl_div (k := 4) (by omega)]
          refine lv_iload_n hC.1 hC.2.1 d_Int_numberOfLeadingZeros_61 rfl (lv_at hl 0 rfl) ?_
          refine lv_iconst (v := nI 4) hC.1 hC.2.1 d_Int_numberOfLeadingZeros_62 (by decide) ?_
          refine nv_icmp_lt (tgt := 73) hC (by omega) (by omega) d_Int_numberOfLeadingZeros_63 (by decide) (fun hc2 => ?_) (fun hc2 => ?_)
          · refine lv_iload_n hC.1 hC.2.1 d_Int_numberOfLeadingZeros_73 rfl (lv_at hl 1 rfl) ?_
            refine lv_iload_n hC.1 hC.2.1 d_Int_numberOfLeadingZeros_74 rfl (lv_at hl 0 rfl) ?_
            refine lv_iconst (v := nI 1) hC.1 hC.2.1 d_Int_numberOfLeadingZeros_75 (by decide) ?_
            refine nv_iushr hC (by omega) (by decide) d_Int_numberOfLeadingZeros_76 ?_
            refine nv_isub hC (by omega) d_Int_numberOfLeadingZeros_77 ?_
            refine pu_iret hC hr hM hlk ?_ d_Int_numberOfLeadingZeros_78
            exact congrArg nI (wm_nlz_fin hb (by omega) (by omega))
          · refine lv_iinc (v := nI (25)) (lv' := [(1, .int (nI (25))), (0, .int (nI (v / 2 ^ 4)))]) hC.1 hC.2.1 d_Int_numberOfLeadingZeros_66 hl (k := 1) rfl (by decide) (by decide) rfl (fun ls hl => ?_)
            refine lv_iload_n hC.1 hC.2.1 d_Int_numberOfLeadingZeros_69 rfl (lv_at hl 1 rfl) ?_
            refine lv_iconst (v := nI 2) hC.1 hC.2.1 d_Int_numberOfLeadingZeros_70 (by decide) ?_
            refine nv_iushr hC (by omega) (by decide) d_Int_numberOfLeadingZeros_71 ?_
            refine lv_istore_n (lv' := [(0, .int (nI ((v / 2 ^ 4) / 2 ^ 2))), (1, .int (nI (25)))]) hC.1 hC.2.1 d_Int_numberOfLeadingZeros_72 rfl hl (by decide) rfl (fun ls hl => ?_)
            have hb : wm_bl v = wm_bl ((v / 2 ^ 4) / 2 ^ 2) + 6 := by rw [hb, wm_bl_div (k := 2) (by omega)]
            refine lv_iload_n hC.1 hC.2.1 d_Int_numberOfLeadingZeros_73 rfl (lv_at hl 1 rfl) ?_
            refine lv_iload_n hC.1 hC.2.1 d_Int_numberOfLeadingZeros_74 rfl (lv_at hl 0 rfl) ?_
            refine lv_iconst (v := nI 1) hC.1 hC.2.1 d_Int_numberOfLeadingZeros_75 (by decide) ?_
            refine nv_iushr hC (by omega) (by decide) d_Int_numberOfLeadingZeros_76 ?_
            refine nv_isub hC (by omega) d_Int_numberOfLeadingZeros_77 ?_
            refine pu_iret hC hr hM hlk ?_ d_Int_numberOfLeadingZeros_78
            exact congrArg nI (wm_nlz_fin hb (by omega) (by omega))
      · refine lv_iinc (v := nI (23)) (lv' := [(1, .int (nI (23))), (0, .int (nI (v)))]) hC.1 hC.2.1 d_Int_numberOfLeadingZeros_40 hl (k := 0) rfl (by decide) (by decide) rfl (fun ls hl => ?_)
        refine lv_iload_n hC.1 hC.2.1 d_Int_numberOfLeadingZeros_43 rfl (lv_at hl 1 rfl) ?_
        refine lv_bipush (v := nI 8) hC.1 hC.2.1 d_Int_numberOfLeadingZeros_44 (by decide) ?_
        refine nv_iushr hC (by omega) (by decide) d_Int_numberOfLeadingZeros_46 ?_
        refine lv_istore_n (lv' := [(0, .int (nI (v / 2 ^ 8))), (1, .int (nI (23)))]) hC.1 hC.2.1 d_Int_numberOfLeadingZeros_47 rfl hl (by decide) rfl (fun ls hl => ?_)
        have hb : wm_bl v = wm_bl (v / 2 ^ 8) + 8 := by rw [hb, wm_bl_div (k := 8) (by omega)]
        refine lv_iload_n hC.1 hC.2.1 d_Int_numberOfLeadingZeros_48 rfl (lv_at hl 0 rfl) ?_
        refine lv_bipush (v := nI 16) hC.1 hC.2.1 d_Int_numberOfLeadingZeros_49 (by decide) ?_
        refine nv_icmp_lt (tgt := 61) hC (by omega) (by omega) d_Int_numberOfLeadingZeros_51 (by decide) (fun hc4 => ?_) (fun hc4 => ?_)
        · refine lv_iload_n hC.1 hC.2.1 d_Int_numberOfLeadingZeros_61 rfl (lv_at hl 0 rfl) ?_
          refine lv_iconst (v := nI 4) hC.1 hC.2.1 d_Int_numberOfLeadingZeros_62 (by decide) ?_
          refine nv_icmp_lt (tgt := 73) hC (by omega) (by omega) d_Int_numberOfLeadingZeros_63 (by decide) (fun hc2 => ?_) (fun hc2 => ?_)
          · refine lv_iload_n hC.1 hC.2.1 d_Int_numberOfLeadingZeros_73 rfl (lv_at hl 1 rfl) ?_
            refine lv_iload_n hC.1 hC.2.1 d_Int_numberOfLeadingZeros_74 rfl (lv_at hl 0 rfl) ?_
            refine lv_iconst (v := nI 1) hC.1 hC.2.1 d_Int_numberOfLeadingZeros_75 (by decide) ?_
            refine nv_iushr hC (by omega) (by decide) d_Int_numberOfLeadingZeros_76 ?_
            refine nv_isub hC (by omega) d_Int_numberOfLeadingZeros_77 ?_
            refine pu_iret hC hr hM hlk ?_ d_Int_numberOfLeadingZeros_78
            exact congrArg nI (wm_nlz_fin hb (by omega) (by omega))
          · refine lv_iinc (v := nI (21)) (lv' := [(1, .int (nI (21))), (0, .int (nI (v / 2 ^ 8)))]) hC.1 hC.2.1 d_Int_numberOfLeadingZeros_66 hl (k := 1) rfl (by decide) (by decide) rfl (fun ls hl => ?_)
            refine lv_iload_n hC.1 hC.2.1 d_Int_numberOfLeadingZeros_69 rfl (lv_at hl 1 rfl) ?_
            refine lv_iconst (v := nI 2) hC.1 hC.2.1 d_Int_numberOfLeadingZeros_70 (by decide) ?_
            refine nv_iushr hC (by omega) (by decide) d_Int_numberOfLeadingZeros_71 ?_
            refine lv_istore_n (lv' := [(0, .int (nI ((v / 2 ^ 8) / 2 ^ 2))), (1, .int (nI (21)))]) hC.1 hC.2.1 d_Int_numberOfLeadingZeros_72 rfl hl (by decide) rfl (fun ls hl => ?_)
            have hb : wm_bl v = wm_bl ((v / 2 ^ 8) / 2 ^ 2) + 10 := by rw [hb, wm_bl_div (k := 2) (by omega)]
            refine lv_iload_n hC.1 hC.2.1 d_Int_numberOfLeadingZeros_73 rfl (lv_at hl 1 rfl) ?_
            refine lv_iload_n hC.1 hC.2.1 d_Int_numberOfLeadingZeros_74 rfl (lv_at hl 0 rfl) ?_
            refine lv_iconst (v := nI 1) hC.1 hC.2.1 d_Int_numberOfLeadingZeros_75 (by decide) ?_
            refine nv_iushr hC (by omega) (by decide) d_Int_numberOfLeadingZeros_76 ?_
            refine nv_isub hC (by omega) d_Int_numberOfLeadingZeros_77 ?_
            refine pu_iret hC hr hM hlk ?_ d_Int_numberOfLeadingZeros_78
            exact congrArg nI (wm_nlz_fin hb (by omega) (by omega))
        · refine lv_iinc (v := nI (19)) (lv' := [(1, .int (nI (19))), (0, .int (nI (v / 2 ^ 8)))]) hC.1 hC.2.1 d_Int_numberOfLeadingZeros_54 hl (k := 1) rfl (by decide) (by decide) rfl (fun ls hl => ?_)
          refine lv_iload_n hC.1 hC.2.1 d_Int_numberOfLeadingZeros_57 rfl (lv_at hl 1 rfl) ?_
          refine lv_iconst (v := nI 4) hC.1 hC.2.1 d_Int_numberOfLeadingZeros_58 (by decide) ?_
          refine nv_iushr hC (by omega) (by decide) d_Int_numberOfLeadingZeros_59 ?_
          refine lv_istore_n (lv' := [(0, .int (nI ((v / 2 ^ 8) / 2 ^ 4))), (1, .int (nI (19)))]) hC.1 hC.2.1 d_Int_numberOfLeadingZeros_60 rfl hl (by decide) rfl (fun ls hl => ?_)
          have hb : wm_bl v = wm_bl ((v / 2 ^ 8) / 2 ^ 4) + 12 := by rw [hb, wm_bl_div (k := 4) (by omega)]
          refine lv_iload_n hC.1 hC.2.1 d_Int_numberOfLeadingZeros_61 rfl (lv_at hl 0 rfl) ?_
          refine lv_iconst (v := nI 4) hC.1 hC.2.1 d_Int_numberOfLeadingZeros_62 (by decide) ?_
          refine nv_icmp_lt (tgt := 73) hC (by omega) (by omega) d_Int_numberOfLeadingZeros_63 (by decide) (fun hc2 => ?_) (fun hc2 => ?_)
          · refine lv_iload_n hC.1 hC.2.1 d_Int_numberOfLeadingZeros_73 rfl (lv_at hl 1 rfl) ?_
            refine lv_iload_n hC.1 hC.2.1 d_Int_numberOfLeadingZeros_74 rfl (lv_at hl 0 rfl) ?_
            refine lv_iconst (v := nI 1) hC.1 hC.2.1 d_Int_numberOfLeadingZeros_75 (by decide) ?_
            refine nv_iushr hC (by omega) (by decide) d_Int_numberOfLeadingZeros_76 ?_
            refine nv_isub hC (by omega) d_Int_numberOfLeadingZeros_77 ?_
            refine pu_iret hC hr hM hlk ?_ d_Int_numberOfLeadingZeros_78
            exact congrArg nI (wm_nlz_fin hb (by omega) (by omega))
          · refine lv_iinc (v := nI (17)) (lv' := [(1, .int (nI (17))), (0, .int (nI ((v / 2 ^ 8) / 2 ^ 4)))]) hC.1 hC.2.1 d_Int_numberOfLeadingZeros_66 hl (k := 1) rfl (by decide) (by decide) rfl (fun ls hl => ?_)
            refine lv_iload_n hC.1 hC.2.1 d_Int_numberOfLeadingZeros_69 rfl (lv_at hl 1 rfl) ?_
            refine lv_iconst (v := nI 2) hC.1 hC.2.1 d_Int_numberOfLeadingZeros_70 (by decide) ?_
            refine nv_iushr hC (by omega) (by decide) d_Int_numberOfLeadingZeros_71 ?_
            refine lv_istore_n (lv' := [(0, .int (nI (((v / 2 ^ 8) / 2 ^ 4) / 2 ^ 2))), (1, .int (nI (17)))]) hC.1 hC.2.1 d_Int_numberOfLeadingZeros_72 rfl hl (by decide) rfl (fun ls hl => ?_)
            have hb : wm_bl v = wm_bl (((v / 2 ^ 8) / 2 ^ 4) / 2 ^ 2) + 14 := by rw [hb, wm_bl_div (k := 2) (by omega)]
            refine lv_iload_n hC.1 hC.2.1 d_Int_numberOfLeadingZeros_73 rfl (lv_at hl 1 rfl) ?_
            refine lv_iload_n hC.1 hC.2.1 d_Int_numberOfLeadingZeros_74 rfl (lv_at hl 0 rfl) ?_
            refine lv_iconst (v := nI 1) hC.1 hC.2.1 d_Int_numberOfLeadingZeros_75 (by decide) ?_
            refine nv_iushr hC (by omega) (by decide) d_Int_numberOfLeadingZeros_76 ?_
            refine nv_isub hC (by omega) d_Int_numberOfLeadingZeros_77 ?_
            refine pu_iret hC hr hM hlk ?_ d_Int_numberOfLeadingZeros_78
            exact congrArg nI (wm_nlz_fin hb (by omega) (by omega))
    · refine lv_iinc (v := nI (15)) (lv' := [(1, .int (nI (15))), (0, .int (nI (v)))]) hC.1 hC.2.1 d_Int_numberOfLeadingZeros_25 hl (k := 0) rfl (by decide) (by decide) rfl (fun ls hl => ?_)
      refine lv_iload_n hC.1 hC.2.1 d_Int_numberOfLeadingZeros_28 rfl (lv_at hl 1 rfl) ?_
      refine lv_bipush (v := nI 16) hC.1 hC.2.1 d_Int_numberOfLeadingZeros_29 (by decide) ?_
      refine nv_iushr hC (by omega) (by decide) d_Int_numberOfLeadingZeros_31 ?_
      refine lv_istore_n (lv' := [(0, .int (nI (v / 2 ^ 16))), (1, .int (nI (15)))]) hC.1 hC.2.1 d_Int_numberOfLeadingZeros_32 rfl hl (by decide) rfl (fun ls hl => ?_)
      have hb : wm_bl v = wm_bl (v / 2 ^ 16) + 16 := by rw [hb, wm_bl_div (k := 16) (by omega)]
      refine lv_iload_n hC.1 hC.2.1 d_Int_numberOfLeadingZeros_33 rfl (lv_at hl 0 rfl) ?_
      refine lv_sipush (v := nI 256) hC.1 hC.2.1 d_Int_numberOfLeadingZeros_34 (by decide) ?_
      refine nv_icmp_lt (tgt := 48) hC (by omega) (by omega) d_Int_numberOfLeadingZeros_37 (by decide) (fun hc8 => ?_) (fun hc8 => ?_)
      · refine lv_iload_n hC.1 hC.2.1 d_Int_numberOfLeadingZeros_48 rfl (lv_at hl 0 rfl) ?_
        refine lv_bipush (v := nI 16) hC.1 hC.2.1 d_Int_numberOfLeadingZeros_49 (by decide) ?_
        refine nv_icmp_lt (tgt := 61) hC (by omega) (by omega) d_Int_numberOfLeadingZeros_51 (by decide) (fun hc4 => ?_) (fun hc4 => ?_)
        · refine lv_iload_n hC.1 hC.2.1 d_Int_numberOfLeadingZeros_61 rfl (lv_at hl 0 rfl) ?_
          refine lv_iconst (v := nI 4) hC.1 hC.2.1 d_Int_numberOfLeadingZeros_62 (by decide) ?_
          refine nv_icmp_lt (tgt := 73) hC (by omega) (by omega) d_Int_numberOfLeadingZeros_63 (by decide) (fun hc2 => ?_) (fun hc2 => ?_)
          · refine lv_iload_n hC.1 hC.2.1 d_Int_numberOfLeadingZeros_73 rfl (lv_at hl 1 rfl) ?_
            refine lv_iload_n hC.1 hC.2.1 d_Int_numberOfLeadingZeros_74 rfl (lv_at hl 0 rfl) ?_
            refine lv_iconst (v := nI 1) hC.1 hC.2.1 d_Int_numberOfLeadingZeros_75 (by decide) ?_
            refine nv_iushr hC (by omega) (by decide) d_Int_numberOfLeadingZeros_76 ?_
            refine nv_isub hC (by omega) d_Int_numberOfLeadingZeros_77 ?_
            refine pu_iret hC hr hM hlk ?_ d_Int_numberOfLeadingZeros_78
            exact congrArg nI (wm_nlz_fin hb (by omega) (by omega))
          · refine lv_iinc (v := nI (13)) (lv' := [(1, .int (nI (13))), (0, .int (nI (v / 2 ^ 16)))]) hC.1 hC.2.1 d_Int_numberOfLeadingZeros_66 hl (k := 1) rfl (by decide) (by decide) rfl (fun ls hl => ?_)
            refine lv_iload_n hC.1 hC.2.1 d_Int_numberOfLeadingZeros_69 rfl (lv_at hl 1 rfl) ?_
            refine lv_iconst (v := nI 2) hC.1 hC.2.1 d_Int_numberOfLeadingZeros_70 (by decide) ?_
            refine nv_iushr hC (by omega) (by decide) d_Int_numberOfLeadingZeros_71 ?_
            refine lv_istore_n (lv' := [(0, .int (nI ((v / 2 ^ 16) / 2 ^ 2))), (1, .int (nI (13)))]) hC.1 hC.2.1 d_Int_numberOfLeadingZeros_72 rfl hl (by decide) rfl (fun ls hl => ?_)
            have hb : wm_bl v = wm_bl ((v / 2 ^ 16) / 2 ^ 2) + 18 := by rw [hb, wm_bl_div (k := 2) (by omega)]
            refine lv_iload_n hC.1 hC.2.1 d_Int_numberOfLeadingZeros_73 rfl (lv_at hl 1 rfl) ?_
            refine lv_iload_n hC.1 hC.2.1 d_Int_numberOfLeadingZeros_74 rfl (lv_at hl 0 rfl) ?_
            refine lv_iconst (v := nI 1) hC.1 hC.2.1 d_Int_numberOfLeadingZeros_75 (by decide) ?_
            refine nv_iushr hC (by omega) (by decide) d_Int_numberOfLeadingZeros_76 ?_
            refine nv_isub hC (by omega) d_Int_numberOfLeadingZeros_77 ?_
            refine pu_iret hC hr hM hlk ?_ d_Int_numberOfLeadingZeros_78
            exact congrArg nI (wm_nlz_fin hb (by omega) (by omega))
        · refine lv_iinc (v := nI (11)) (lv' := [(1, .int (nI (11))), (0, .int (nI (v / 2 ^ 16)))]) hC.1 hC.2.1 d_Int_numberOfLeadingZeros_54 hl (k := 1) rfl (by decide) (by decide) rfl (fun ls hl => ?_)
          refine lv_iload_n hC.1 hC.2.1 d_Int_numberOfLeadingZeros_57 rfl (lv_at hl 1 rfl) ?_
          refine lv_iconst (v := nI 4) hC.1 hC.2.1 d_Int_numberOfLeadingZeros_58 (by decide) ?_
          refine nv_iushr hC (by omega) (by decide) d_Int_numberOfLeadingZeros_59 ?_
          refine lv_istore_n (lv' := [(0, .int (nI ((v / 2 ^ 16) / 2 ^ 4))), (1, .int (nI (11)))]) hC.1 hC.2.1 d_Int_numberOfLeadingZeros_60 rfl hl (by decide) rfl (fun ls hl => ?_)
          have hb : wm_bl v = wm_bl ((v / 2 ^ 16) / 2 ^ 4) + 20 := by rw [hb, wm_bl_div (k := 4) (by omega)]
          refine lv_iload_n hC.1 hC.2.1 d_Int_numberOfLeadingZeros_61 rfl (lv_at hl 0 rfl) ?_
          refine lv_iconst (v := nI 4) hC.1 hC.2.1 d_Int_numberOfLeadingZeros_62 (by decide) ?_
          refine nv_icmp_lt (tgt := 73) hC (by omega) (by omega) d_Int_numberOfLeadingZeros_63 (by decide) (fun hc2 => ?_) (fun hc2 => ?_)
          · refine lv_iload_n hC.1 hC.2.1 d_Int_numberOfLeadingZeros_73 rfl (lv_at hl 1 rfl) ?_
            refine lv_iload_n hC.1 hC.2.1 d_Int_numberOfLeadingZeros_74 rfl (lv_at hl 0 rfl) ?_
            refine lv_iconst (v := nI 1) hC.1 hC.2.1 d_Int_numberOfLeadingZeros_75 (by decide) ?_
            refine nv_iushr hC (by omega) (by decide) d_Int_numberOfLeadingZeros_76 ?_
            refine nv_isub hC (by omega) d_Int_numberOfLeadingZeros_77 ?_
            refine pu_iret hC hr hM hlk ?_ d_Int_numberOfLeadingZeros_78
            exact congrArg nI (wm_nlz_fin hb (by omega) (by omega))
          · refine lv_iinc (v := nI (9)) (lv' := [(1, .int (nI (9))), (0, .int (nI ((v / 2 ^ 16) / 2 ^ 4)))]) hC.1 hC.2.1 d_Int_numberOfLeadingZeros_66 hl (k := 1) rfl (by decide) (by decide) rfl (fun ls hl => ?_)
            refine lv_iload_n hC.1 hC.2.1 d_Int_numberOfLeadingZeros_69 rfl (lv_at hl 1 rfl) ?_
            refine lv_iconst (v := nI 2) hC.1 hC.2.1 d_Int_numberOfLeadingZeros_70 (by decide) ?_
            refine nv_iushr hC (by omega) (by decide) d_Int_numberOfLeadingZeros_71 ?_
            refine lv_istore_n (lv' := [(0, .int (nI (((v / 2 ^ 16) / 2 ^ 4) / 2 ^ 2))), (1, .int (nI (9)))]) hC.1 hC.2.1 d_Int_numberOfLeadingZeros_72 rfl hl (by decide) rfl (fun ls hl => ?_)
            have hb : wm_bl v = wm_bl (((v / 2 ^ 16) / 2 ^ 4) / 2 ^ 2) + 22 := by rw [hb, wm_bl_div (k := 2) (by omega)]
            refine lv_iload_n hC.1 hC.2.1 d_Int_numberOfLeadingZeros_73 rfl (lv_at hl 1 rfl) ?_
            refine lv_iload_n hC.1 hC.2.1 d_Int_numberOfLeadingZeros_74 rfl (lv_at hl 0 rfl) ?_
            refine lv_iconst (v := nI 1) hC.1 hC.2.1 d_Int_numberOfLeadingZeros_75 (by decide) ?_
            refine nv_iushr hC (by omega) (by decide) d_Int_numberOfLeadingZeros_76 ?_
            refine nv_isub hC (by omega) d_Int_numberOfLeadingZeros_77 ?_
            refine pu_iret hC hr hM hlk ?_ d_Int_numberOfLeadingZeros_78
            exact congrArg nI (wm_nlz_fin hb (by omega) (by omega))
      · refine lv_iinc (v := nI (7)) (lv' := [(1, .int (nI (7))), (0, .int (nI (v / 2 ^ 16)))]) hC.1 hC.2.1 d_Int_numberOfLeadingZeros_40 hl (k := 1) rfl (by decide) (by decide) rfl (fun ls hl => ?_)
        refine lv_iload_n hC.1 hC.2.1 d_Int_numberOfLeadingZeros_43 rfl (lv_at hl 1 rfl) ?_
        refine lv_bipush (v := nI 8) hC.1 hC.2.1 d_Int_numberOfLeadingZeros_44 (by decide) ?_
        refine nv_iushr hC (by omega) (by decide) d_Int_numberOfLeadingZeros_46 ?_
        refine lv_istore_n (lv' := [(0, .int (nI ((v / 2 ^ 16) / 2 ^ 8))), (1, .int (nI (7)))]) hC.1 hC.2.1 d_Int_numberOfLeadingZeros_47 rfl hl (by decide) rfl (fun ls hl => ?_)
        have hb : wm_bl v = wm_bl ((v / 2 ^ 16) / 2 ^ 8) + 24 := by rw [hb, wm_bl_div (k := 8) (by omega)]
        refine lv_iload_n hC.1 hC.2.1 d_Int_numberOfLeadingZeros_48 rfl (lv_at hl 0 rfl) ?_
        refine lv_bipush (v := nI 16) hC.1 hC.2.1 d_Int_numberOfLeadingZeros_49 (by decide) ?_
        refine nv_icmp_lt (tgt := 61) hC (by omega) (by omega) d_Int_numberOfLeadingZeros_51 (by decide) (fun hc4 => ?_) (fun hc4 => ?_)
        · refine lv_iload_n hC.1 hC.2.1 d_Int_numberOfLeadingZeros_61 rfl (lv_at hl 0 rfl) ?_
          refine lv_iconst (v := nI 4) hC.1 hC.2.1 d_Int_numberOfLeadingZeros_62 (by decide) ?_
          refine nv_icmp_lt (tgt := 73) hC (by omega) (by omega) d_Int_numberOfLeadingZeros_63 (by decide) (fun hc2 => ?_) (fun hc2 => ?_)
          · refine lv_iload_n hC.1 hC.2.1 d_Int_numberOfLeadingZeros_73 rfl (lv_at hl 1 rfl) ?_
            refine lv_iload_n hC.1 hC.2.1 d_Int_numberOfLeadingZeros_74 rfl (lv_at hl 0 rfl) ?_
            refine lv_iconst (v := nI 1) hC.1 hC.2.1 d_Int_numberOfLeadingZeros_75 (by decide) ?_
            refine nv_iushr hC (by omega) (by decide) d_Int_numberOfLeadingZeros_76 ?_
            refine nv_isub hC (by omega) d_Int_numberOfLeadingZeros_77 ?_
            refine pu_iret hC hr hM hlk ?_ d_Int_numberOfLeadingZeros_78
            exact congrArg nI (wm_nlz_fin hb (by omega) (by omega))
          · refine lv_iinc (v := nI (5)) (lv' := [(1, .int (nI (5))), (0, .int (nI ((v / 2 ^ 16) / 2 ^ 8)))]) hC.1 hC.2.1 d_Int_numberOfLeadingZeros_66 hl (k := 1) rfl (by decide) (by decide) rfl (fun ls hl => ?_)
            refine lv_iload_n hC.1 hC.2.1 d_Int_numberOfLeadingZeros_69 rfl (lv_at hl 1 rfl) ?_
            refine lv_iconst (v := nI 2) hC.1 hC.2.1 d_Int_numberOfLeadingZeros_70 (by decide) ?_
            refine nv_iushr hC (by omega) (by decide) d_Int_numberOfLeadingZeros_71 ?_
            refine lv_istore_n (lv' := [(0, .int (nI (((v / 2 ^ 16) / 2 ^ 8) / 2 ^ 2))), (1, .int (nI (5)))]) hC.1 hC.2.1 d_Int_numberOfLeadingZeros_72 rfl hl (by decide) rfl (fun ls hl => ?_)
            have hb : wm_bl v = wm_bl (((v / 2 ^ 16) / 2 ^ 8) / 2 ^ 2) + 26 := by rw [hb, wm_bl_div (k := 2) (by omega)]
            refine lv_iload_n hC.1 hC.2.1 d_Int_numberOfLeadingZeros_73 rfl (lv_at hl 1 rfl) ?_
            refine lv_iload_n hC.1 hC.2.1 d_Int_numberOfLeadingZeros_74 rfl (lv_at hl 0 rfl) ?_
            refine lv_iconst (v := nI 1) hC.1 hC.2.1 d_Int_numberOfLeadingZeros_75 (by decide) ?_
            refine nv_iushr hC (by omega) (by decide) d_Int_numberOfLeadingZeros_76 ?_
            refine nv_isub hC (by omega) d_Int_numberOfLeadingZeros_77 ?_
            refine pu_iret hC hr hM hlk ?_ d_Int_numberOfLeadingZeros_78
            exact congrArg nI (wm_nlz_fin hb (by omega) (by omega))
        · refine lv_iinc (v := nI (3)) (lv' := [(1, .int (nI (3))), (0, .int (nI ((v / 2 ^ 16) / 2 ^ 8)))]) hC.1 hC.2.1 d_Int_numberOfLeadingZeros_54 hl (k := 1) rfl (by decide) (by decide) rfl (fun ls hl => ?_)
          refine lv_iload_n hC.1 hC.2.1 d_Int_numberOfLeadingZeros_57 rfl (lv_at hl 1 rfl) ?_
          refine lv_iconst (v := nI 4) hC.1 hC.2.1 d_Int_numberOfLeadingZeros_58 (by decide) ?_
          refine nv_iushr hC (by omega) (by decide) d_Int_numberOfLeadingZeros_59 ?_
          refine lv_istore_n (lv' := [(0, .int (nI (((v / 2 ^ 16) / 2 ^ 8) / 2 ^ 4))), (1, .int (nI (3)))]) hC.1 hC.2.1 d_Int_numberOfLeadingZeros_60 rfl hl (by decide) rfl (fun ls hl => ?_)
          have hb : wm_bl v = wm_bl (((v / 2 ^ 16) / 2 ^ 8) / 2 ^ 4) + 28 := by rw [hb, wm_bl_div (k := 4) (by omega)]
          refine lv_iload_n hC.1 hC.2.1 d_Int_numberOfLeadingZeros_61 rfl (lv_at hl 0 rfl) ?_
          refine lv_iconst (v := nI 4) hC.1 hC.2.1 d_Int_numberOfLeadingZeros_62 (by decide) ?_
          refine nv_icmp_lt (tgt := 73) hC (by omega) (by omega) d_Int_numberOfLeadingZeros_63 (by decide) (fun hc2 => ?_) (fun hc2 => ?_)
          · refine lv_iload_n hC.1 hC.2.1 d_Int_numberOfLeadingZeros_73 rfl (lv_at hl 1 rfl) ?_
            refine lv_iload_n hC.1 hC.2.1 d_Int_numberOfLeadingZeros_74 rfl (lv_at hl 0 rfl) ?_
            refine lv_iconst (v := nI 1) hC.1 hC.2.1 d_Int_numberOfLeadingZeros_75 (by decide) ?_
            refine nv_iushr hC (by omega) (by decide) d_Int_numberOfLeadingZeros_76 ?_
            refine nv_isub hC (by omega) d_Int_numberOfLeadingZeros_77 ?_
            refine pu_iret hC hr hM hlk ?_ d_Int_numberOfLeadingZeros_78
            exact congrArg nI (wm_nlz_fin hb (by omega) (by omega))
          · refine lv_iinc (v := nI (1)) (lv' := [(1, .int (nI (1))), (0, .int (nI (((v / 2 ^ 16) / 2 ^ 8) / 2 ^ 4)))]) hC.1 hC.2.1 d_Int_numberOfLeadingZeros_66 hl (k := 1) rfl (by decide) (by decide) rfl (fun ls hl => ?_)
            refine lv_iload_n hC.1 hC.2.1 d_Int_numberOfLeadingZeros_69 rfl (lv_at hl 1 rfl) ?_
            refine lv_iconst (v := nI 2) hC.1 hC.2.1 d_Int_numberOfLeadingZeros_70 (by decide) ?_
            refine nv_iushr hC (by omega) (by decide) d_Int_numberOfLeadingZeros_71 ?_
            refine lv_istore_n (lv' := [(0, .int (nI ((((v / 2 ^ 16) / 2 ^ 8) / 2 ^ 4) / 2 ^ 2))), (1, .int (nI (1)))]) hC.1 hC.2.1 d_Int_numberOfLeadingZeros_72 rfl hl (by decide) rfl (fun ls hl => ?_)
            have hb : wm_bl v = wm_bl ((((v / 2 ^ 16) / 2 ^ 8) / 2 ^ 4) / 2 ^ 2) + 30 := by rw [hb, wm_bl_div (k := 2) (by omega)]
            refine lv_iload_n hC.1 hC.2.1 d_Int_numberOfLeadingZeros_73 rfl (lv_at hl 1 rfl) ?_
            refine lv_iload_n hC.1 hC.2.1 d_Int_numberOfLeadingZeros_74 rfl (lv_at hl 0 rfl) ?_
            refine lv_iconst (v := nI 1) hC.1 hC.2.1 d_Int_numberOfLeadingZeros_75 (by decide) ?_
            refine nv_iushr hC (by omega) (by decide) d_Int_numberOfLeadingZeros_76 ?_
            refine nv_isub hC (by omega) d_Int_numberOfLeadingZeros_77 ?_
            refine pu_iret hC hr hM hlk ?_ d_Int_numberOfLeadingZeros_78
            exact congrArg nI (wm_nlz_fin hb (by omega) (by omega))
  · refine lv_iload_n hC.1 hC.2.1 d_Int_numberOfLeadingZeros_4 rfl (lv_at hl 0 rfl) ?_
    refine lv_if_ne (tgt := 13) hC.1 hC.2.1 d_Int_numberOfLeadingZeros_5 (by decide) (fun hz => ?_) (fun hz => ?_)
    · refine lv_iconst (v := nI 0) hC.1 hC.2.1 d_Int_numberOfLeadingZeros_13 (by decide) ?_
      refine pu_iret hC hr hM hlk ?_ d_Int_numberOfLeadingZeros_14
      have h1 : x < 0 := Int32.lt_of_le_of_ne (Int32.not_lt.mp h0) hz
      have h2 := (wm_i0 x).mp h1
      have h3 := wm_u_lt x
      rw [wm_bl_of (b := 32) (by omega) (Or.inr (by omega))]
    · refine lv_bipush (v := nI 32) hC.1 hC.2.1 d_Int_numberOfLeadingZeros_8 (by decide) ?_
      refine lv_goto (tgt := 14) hC.1 hC.2.1 d_Int_numberOfLeadingZeros_10 (by decide) ?_
      exact pu_iret hC hr hM hlk (by subst hz; rfl) d_Int_numberOfLeadingZeros_14
