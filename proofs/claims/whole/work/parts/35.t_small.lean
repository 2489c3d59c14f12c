set_option maxHeartbeats 4000000 in
set_option maxRecDepth 100000 in
theorem c_Rows_halved (l : Launch) (sz : Nat) (x y : Int32) : Met l y_Rows_halved (Cond.code y_Rows_halved b_Rows_halved 2 (some .int) :: lw_T) ({ frames := 0, cells := 0, slots := 0, locals := 0 }) (pu_Pc [.int (x), .int (y)] sz) (pu_Qi (fun r => r = nI (wm_hv (wm_u x) (wm_u y))) sz) 0 0 (fun q => sz ≤ q) := by
  refine pu_met l (by decide) (Nat.le_of_ble_eq_true rfl) ?_
  intro p e s m below meth c ls hsz hC hr hlk hl
  subst hsz
  have hM : pu_H s s.heap [] := va_S.rf
  have hC : CallFix p m c b_Rows_halved 2 s _ lw_T R_Rows := hC
  have hl : lv_has ls 2 [(0, .int (x)), (1, .int (y))] := hl
  refine lv_iload_n hC.1 hC.2.1 d_Rows_halved_0 rfl (lv_at hl 0 rfl) ?_
  refine lv_bipush (v := nI 31) hC.1 hC.2.1 d_Rows_halved_1 (by decide) ?_
  refine lv_ishl hC.1 hC.2.1 d_Rows_halved_3 ?_
  refine lv_iload_n hC.1 hC.2.1 d_Rows_halved_4 rfl (lv_at hl 1 rfl) ?_
  refine nv_top (y := nI (wm_u y)) (wm_nu y).symm ?_
  refine lv_iconst (v := nI 1) hC.1 hC.2.1 d_Rows_halved_5 (by decide) ?_
  refine nv_iushr hC (wm_u_lt y) (by decide) d_Rows_halved_6 ?_
  refine lv_ior hC.1 hC.2.1 d_Rows_halved_7 ?_
  exact pu_iret hC hr hM hlk (wm_halv x y) d_Rows_halved_8
set_option maxHeartbeats 4000000 in
set_option maxRecDepth 100000 in
theorem lp_Root_rootOfPair {p : Program} {l : Launch} {e : Env} {s : State} {m : MethodId} {args : Array Value} {below : List Frame} {meth : Method} {c : Code} {Q : State → Prop} (hC : CallFix p m c b_Root_rootOfPair 7 s args lw_T R_Root) (p0 : Nat) (hp64 : p0 < 2 ^ 64)
    (hex : ∀ (w : Nat), (w * w ≤ p0) → (p0 < (w + 1) * (w + 1)) → (w < 4294967296) → ∀ (H : Heap) (locs : List Loc) (ls : Array Slot), pu_H s H locs → lv_has ls 7 [(2, .long (lN (w)))] → W p l e ({ frames := 1, cells := 0, slots := 0, locals := 23 }) s m args below meth c H locs 0 0 Q (F0 m 40 ls [])) :
    ∀ (n : Nat) (x : Nat) (w : Nat), (x ≤ 32) → (w * w ≤ p0) → (p0 < (w + 2 ^ x) * (w + 2 ^ x)) → (∃ t, w = t * 2 ^ x) → (w + 2 ^ x ≤ 4294967296) → x + 1 ≤ n → ∀ (H : Heap) (locs : List Loc) (ls : Array Slot), pu_H s H locs → lv_has ls 7 [(0, .long (lN (p0))), (2, .long (lN (w))), (4, .int (nI (x) + (-1)))] → W p l e ({ frames := 1, cells := 0, slots := 0, locals := 23 }) s m args below meth c H locs 0 0 Q (F0 m 6 ls []) := by
  intro n
  induction n with
  | zero =>
    intro x w hx h1 h2 h3 h4 hn
    exact absurd hn (by omega)
  | succ n ih =>
    intro x w hx h1 h2 h3 h4 hn H locs ls hM hl
    refine lv_iload hC.1 hC.2.1 d_Root_rootOfPair_6 (lv_at hl 2 rfl) ?_
    refine nv_down_lt (tgt := 40) hC (by omega) d_Root_rootOfPair_8 (by decide) (fun hz => ?_) (fun y hy => ?_)
    · subst hz
      rw [Nat.pow_zero] at h2 h4
      exact hex w h1 h2 (by omega) H locs ls hM (lv_sub hl [1] rfl)
    · subst hy
      have hl : lv_has ls 7 [(0, .long (lN (p0))), (2, .long (lN (w))), (4, .int (nI (y)))] := by rw [pk_m1] at hl; exact hl
      have hpy : 2 ^ (y + 1) = 2 * 2 ^ y := by rw [Nat.pow_succ, Nat.mul_comm]
      have hp0 : 0 < 2 ^ y := Nat.pow_pos (by decide)
      rw [hpy] at h2 h4
      obtain ⟨t, ht⟩ := h3
      have hm : (w + 2 ^ y) * (w + 2 ^ y) ≤ 4294967295 * 4294967295 := Nat.mul_le_mul (by omega) (by omega)
      refine lv_lload_n hC.1 hC.2.1 d_Root_rootOfPair_11 rfl (lv_at hl 1 rfl) ?_
      refine lv_lconst (v := lN 1) hC.1 hC.2.1 d_Root_rootOfPair_12 (by decide) ?_
      refine lv_iload hC.1 hC.2.1 d_Root_rootOfPair_13 (lv_at hl 2 rfl) ?_
      refine nv_lshl hC (by omega) d_Root_rootOfPair_15 ?_
      refine nv_topl (y := lN (2 ^ y)) (by rw [Nat.one_mul]) ?_
      refine lv_lor hC.1 hC.2.1 d_Root_rootOfPair_16 ?_
      refine nv_topl (y := lN (w + 2 ^ y)) (by rw [ht]; exact g_or (k := y + 1) rfl (by omega) (by rw [← ht]; omega)) ?_
      refine lv_lstore (lv' := [(5, .long (lN (w + 2 ^ y))), (0, .long (lN (p0))), (2, .long (lN (w))), (4, .int (nI (y)))]) hC.1 hC.2.1 d_Root_rootOfPair_17 hl (by decide) rfl (fun ls hl => ?_)
      refine lv_lload hC.1 hC.2.1 d_Root_rootOfPair_19 (lv_at hl 0 rfl) ?_
      refine lv_lload hC.1 hC.2.1 d_Root_rootOfPair_21 (lv_at hl 0 rfl) ?_
      refine nv_lmul hC d_Root_rootOfPair_23 ?_
      refine lv_lload_n hC.1 hC.2.1 d_Root_rootOfPair_24 rfl (lv_at hl 1 rfl) ?_
      refine pu_calli hC hM (As := [.long (lN ((w + 2 ^ y) * (w + 2 ^ y))), .long (lN (p0))]) (rest := []) (c_Rows_isAbove l _ ((w + 2 ^ y) * (w + 2 ^ y)) p0 (by omega) hp64) kc_Rows_isAbove km_Root_54 ki_Rows ks_Rows_isAbove kd_Rows_isAbove ⟨rfl, rfl⟩ ⟨Nat.le_of_ble_eq_true rfl, Nat.le_of_ble_eq_true rfl⟩ rfl hl.1 (Nat.le_of_ble_eq_true rfl) d_Root_rootOfPair_25 (fun r H locs hp hM => ?_)
      rcases hp with ⟨ha, rfl⟩ | ⟨ha, rfl⟩
      · refine nv_if_ne (tgt := 34) hC (by omega) d_Root_rootOfPair_28 (by decide) (fun hz => ?_) (fun hz => ?_)
        · refine lv_iinc (v := nI (y) + (-1)) (lv' := [(4, .int (nI (y) + (-1))), (5, .long (lN (w + 2 ^ y))), (0, .long (lN (p0))), (2, .long (lN (w)))]) hC.1 hC.2.1 d_Root_rootOfPair_34 hl (k := 3) rfl (rfl) (by decide) rfl (fun ls hl => ?_)
          refine lv_goto (tgt := 6) hC.1 hC.2.1 d_Root_rootOfPair_37 (by decide) ?_
          exact ih y w (by omega) h1 ha ⟨2 * t, by rw [ht, hpy, Nat.mul_left_comm, Nat.mul_assoc]⟩ (by omega) (by omega) H locs ls hM (lv_sub hl [2, 3, 0] rfl)
        · exact absurd hz (by decide)
      · refine nv_if_ne (tgt := 34) hC (by omega) d_Root_rootOfPair_28 (by decide) (fun hz => ?_) (fun hz => ?_)
        · exact absurd rfl hz
        · refine lv_lload hC.1 hC.2.1 d_Root_rootOfPair_31 (lv_at hl 0 rfl) ?_
          refine lv_lstore_n (lv' := [(2, .long (lN (w + 2 ^ y))), (5, .long (lN (w + 2 ^ y))), (0, .long (lN (p0))), (4, .int (nI (y)))]) hC.1 hC.2.1 d_Root_rootOfPair_33 rfl hl (by decide) rfl (fun ls hl => ?_)
          refine lv_iinc (v := nI (y) + (-1)) (lv' := [(4, .int (nI (y) + (-1))), (2, .long (lN (w + 2 ^ y))), (5, .long (lN (w + 2 ^ y))), (0, .long (lN (p0)))]) hC.1 hC.2.1 d_Root_rootOfPair_34 hl (k := 3) rfl (rfl) (by decide) rfl (fun ls hl => ?_)
          refine lv_goto (tgt := 6) hC.1 hC.2.1 d_Root_rootOfPair_37 (by decide) ?_
          exact ih y (w + 2 ^ y) (by omega) ha (by rw [show w + 2 ^ y + 2 ^ y = w + 2 * 2 ^ y by omega]; exact h2) ⟨2 * t + 1, by rw [ht, hpy, Nat.add_mul, Nat.one_mul, Nat.mul_left_comm, Nat.mul_assoc]⟩ (by omega) (by omega) H locs ls hM (lv_sub hl [3, 1, 0] rfl)
set_option maxHeartbeats 4000000 in
set_option maxRecDepth 100000 in
theorem c_Root_rootOfPair (l : Launch) (sz : Nat) (p0 : Nat) (hp64 : p0 < 2 ^ 64) : Met l y_Root_rootOfPair (Cond.code y_Root_rootOfPair b_Root_rootOfPair 7 (some .long) :: lw_T) ({ frames := 1, cells := 0, slots := 0, locals := 23 }) (pu_Pc [.long (lN (p0))] sz) (pu_Ql (fun r => ∃ w : Nat, r = lN w ∧ w * w ≤ p0 ∧ p0 < (w + 1) * (w + 1) ∧ w < 4294967296) sz) 0 0 (fun q => sz ≤ q) := by
  refine pu_met l (by decide) (Nat.le_of_ble_eq_true rfl) ?_
  intro p e s m below meth c ls hsz hC hr hlk hl
  subst hsz
  have hM : pu_H s s.heap [] := va_S.rf
  have hC : CallFix p m c b_Root_rootOfPair 7 s _ lw_T R_Root := hC
  have hl : lv_has ls 7 [(0, .long (lN (p0)))] := hl
  refine lv_lconst (v := lN 0) hC.1 hC.2.1 d_Root_rootOfPair_0 (by decide) ?_
  refine lv_lstore_n (lv' := [(2, .long (lN (0))), (0, .long (lN (p0)))]) hC.1 hC.2.1 d_Root_rootOfPair_1 rfl hl (by decide) rfl (fun ls hl => ?_)
  refine lv_bipush (v := nI 31) hC.1 hC.2.1 d_Root_rootOfPair_2 (by decide) ?_
  refine lv_istore (lv' := [(4, .int (nI (31))), (2, .long (lN (0))), (0, .long (lN (p0)))]) hC.1 hC.2.1 d_Root_rootOfPair_4 hl (by decide) rfl (fun ls hl => ?_)
  refine lp_Root_rootOfPair hC p0 hp64 (fun w h1 h2 h3 H locs ls hM hl => ?_) 33 32 0 (Nat.le_refl _) (by omega) (by
    show p0 < (0 + 2 ^ 32) * (0 + 2 ^ 32)
    omega) ⟨0, by omega⟩ (by decide) (Nat.le_refl _) _ _ _ hM (by
    have hl := lv_sub hl (l' := [(0, .long (lN p0)), (2, .long (lN 0)), (4, .int (nI 31))]) [2, 1, 0] rfl
    rw [show nI 31 = nI 32 + (-1) by decide] at hl
    exact hl)
  refine lv_lload_n hC.1 hC.2.1 d_Root_rootOfPair_40 rfl (lv_at hl 0 rfl) ?_
  exact pu_lret hC hr hM hlk ⟨w, rfl, h1, h2, h3⟩ d_Root_rootOfPair_41
set_option maxHeartbeats 4000000 in
set_option maxRecDepth 100000 in
theorem c_Root_putWord (l : Launch) (D : va_G) (ad : Nat → Nat) (cA cR : ClassId) (sz : Nat) (ln : Nat → Nat) (wd : Nat → Nat → Int32) (j a0 w0 : Nat) (hj : j < 19) (ha : a0 + 1 < 2050) (hw : w0 < 4294967296) (he : wm_u (wd j (a0 + 1)) % 2 = 0) : Met l y_Root_putWord (Cond.code y_Root_putWord b_Root_putWord 4 none :: lw_T) ({ frames := 0, cells := 0, slots := 0, locals := 0 }) (va_Pc [.ref (ad (19 + j)), .int (nI (a0)), .long (lN (w0))] (wm_B D ad cA cR sz ln wd)) (va_Qv (fun u : wm_St => u = (ln, va_up wd j (upd (upd (wd j) a0 (nI (w0 * 2 ^ 1))) (a0 + 1) (nI (wm_u (wd j (a0 + 1)) + w0 / 2 ^ 31))))) (wm_E D ad cA cR sz) (wm_A ad sz)) 0 0 (wm_A ad sz) := by
  refine wm_met l (by decide) (Nat.le_of_ble_eq_true rfl) ?_
  intro p e s m below meth c ls hsz hC hK hr hlk hM hl
  subst hsz
  have hC : CallFix p m c b_Root_putWord 4 s _ lw_T R_Root := hC
  have hl : lv_has ls 4 [(0, .ref (ad (19 + j))), (1, .int (nI (a0))), (2, .long (lN (w0)))] := hl
  have hM : wm_M D ad cA cR s (ln) (va_up wd j (wd j)) s.heap [] := by
    rw [wm_eta]; exact hM
  refine lv_aload_n hC.1 hC.2.1 d_Root_putWord_0 rfl (lv_at hl 0 rfl) ?_
  refine lv_iload_n hC.1 hC.2.1 d_Root_putWord_1 rfl (lv_at hl 1 rfl) ?_
  refine lv_lload_n hC.1 hC.2.1 d_Root_putWord_2 rfl (lv_at hl 2 rfl) ?_
  refine lv_iconst (v := nI 1) hC.1 hC.2.1 d_Root_putWord_3 (by decide) ?_
  refine nv_lshl hC (by omega) d_Root_putWord_4 ?_
  refine nv_l2i hC d_Root_putWord_5 ?_
  refine wm_ast_s hC hK hM (k := a0) hj (by omega) d_Root_putWord_6 (fun H locs hM => ?_)
  refine lv_aload_n hC.1 hC.2.1 d_Root_putWord_7 rfl (lv_at hl 0 rfl) ?_
  refine lv_iload_n hC.1 hC.2.1 d_Root_putWord_8 rfl (lv_at hl 1 rfl) ?_
  refine lv_iconst (v := nI 1) hC.1 hC.2.1 d_Root_putWord_9 (by decide) ?_
  refine nv_iadd hC d_Root_putWord_10 ?_
  refine lv_dup2_11 hC.1 hC.2.1 d_Root_putWord_11 rfl rfl ?_
  refine wm_ald_s hC hK hM (k := a0 + 1) hj (by omega) d_Root_putWord_12 ?_
  refine nv_top (y := wd j (a0 + 1)) (pk_un (by omega)) ?_
  refine lv_lload_n hC.1 hC.2.1 d_Root_putWord_13 rfl (lv_at hl 2 rfl) ?_
  refine lv_bipush (v := nI 31) hC.1 hC.2.1 d_Root_putWord_14 (by decide) ?_
  refine nv_lushr hC (by omega) (by decide) d_Root_putWord_16 ?_
  refine nv_l2i hC d_Root_putWord_17 ?_
  refine lv_ior hC.1 hC.2.1 d_Root_putWord_18 ?_
  refine nv_top (y := nI (wm_u (wd j (a0 + 1)) + w0 / 2 ^ 31)) (wm_orbit he (by omega)) ?_
  refine wm_ast_s hC hK hM (k := a0 + 1) hj (by omega) d_Root_putWord_19 (fun H locs hM => ?_)
  exact wm_vret hC hK hM hr hlk rfl d_Root_putWord_20
set_option maxHeartbeats 4000000 in
set_option maxRecDepth 100000 in
theorem c_Root_guessWord (l : Launch) (D : va_G) (ad : Nat → Nat) (cA cR : ClassId) (sz : Nat) (ln : Nat → Nat) (wd : Nat → Nat → Int32) (i j en cnt : Nat) (hi : i < 19) (hj : j < 19) (hen : 3 ≤ en) (hen2 : en < 2050) (hcn : 2 ≤ cnt) (hcn2 : cnt < 2050) (ht : 2147483648 ≤ wm_hv (wm_u (wd j cnt)) (wm_u (wd j (cnt - 1)))) (hh : wm_hv (wm_u (wd i en)) (wm_u (wd i (en - 1))) ≤ wm_hv (wm_u (wd j cnt)) (wm_u (wd j (cnt - 1)))) : Met l y_Root_guessWord (Cond.code y_Root_guessWord b_Root_guessWord 9 (some .long) :: lw_T) ({ frames := 2, cells := 0, slots := 0, locals := 56 }) (va_Pc [.ref (ad (19 + i)), .ref (ad (19 + j)), .int (nI (en)), .int (nI (cnt))] (wm_B D ad cA cR sz ln wd)) (va_Ql (fun (r : Int64) (u : wm_St) => r = lN (wm_gs ((wm_hv (wm_u (wd i en)) (wm_u (wd i (en - 1))) * 2 ^ 32 + wm_hv (wm_u (wd i (en - 1))) (wm_u (wd i (en - 2)))) * 4294967296 + wm_hv (wm_u (wd i (en - 2))) (wm_u (wd i (en - 3)))) (wm_hv (wm_u (wd j cnt)) (wm_u (wd j (cnt - 1))) * 4294967296 + wm_hv (wm_u (wd j (cnt - 1))) (wm_u (wd j (cnt - 2))))) ∧ u = (ln, wd)) (wm_E D ad cA cR sz) (wm_A ad sz)) 0 0 (wm_A ad sz) := by
  refine wm_met l (by decide) (Nat.le_of_ble_eq_true rfl) ?_
  intro p e s m below meth c ls hsz hC hK hr hlk hM hl
  subst hsz
  have hC : CallFix p m c b_Root_guessWord 9 s _ lw_T R_Root := hC
  have hl : lv_has ls 9 [(0, .ref (ad (19 + i))), (1, .ref (ad (19 + j))), (2, .int (nI (en))), (3, .int (nI (cnt)))] := hl
  refine lv_aload_n hC.1 hC.2.1 d_Root_guessWord_0 rfl (lv_at hl 0 rfl) ?_
  refine lv_iload_n hC.1 hC.2.1 d_Root_guessWord_1 rfl (lv_at hl 2 rfl) ?_
  refine wm_ald hC hK hM (j := i) (k := en) hi (by omega) d_Root_guessWord_2 ?_
  refine lv_aload_n hC.1 hC.2.1 d_Root_guessWord_3 rfl (lv_at hl 0 rfl) ?_
  refine lv_iload_n hC.1 hC.2.1 d_Root_guessWord_4 rfl (lv_at hl 2 rfl) ?_
  refine lv_iconst (v := nI 1) hC.1 hC.2.1 d_Root_guessWord_5 (by decide) ?_
  refine nv_isub hC (by omega) d_Root_guessWord_6 ?_
  refine wm_ald hC hK hM (j := i) (k := en - 1) hi (by omega) d_Root_guessWord_7 ?_
  refine wm_callPi hC hK hM (As := [.int (wd i en), .int (wd i (en - 1))]) (rest := []) (c_Rows_halved l _ (wd i en) (wd i (en - 1))) kc_Rows_halved km_Root_73 ki_Rows ks_Rows_halved kd_Rows_halved ⟨rfl, rfl⟩ ⟨Nat.le_of_ble_eq_true rfl, Nat.le_of_ble_eq_true rfl⟩ rfl hl.1 (Nat.le_of_ble_eq_true rfl) d_Root_guessWord_8 (fun r H locs hp hM => ?_)
  subst hp
  refine lv_istore (lv' := [(4, .int (nI (wm_hv (wm_u (wd i en)) (wm_u (wd i (en - 1)))))), (0, .ref (ad (19 + i))), (1, .ref (ad (19 + j))), (2, .int (nI (en))), (3, .int (nI (cnt)))]) hC.1 hC.2.1 d_Root_guessWord_11 hl (by decide) rfl (fun ls hl => ?_)
  refine lv_aload_n hC.1 hC.2.1 d_Root_guessWord_13 rfl (lv_at hl 1 rfl) ?_
  refine lv_iload_n hC.1 hC.2.1 d_Root_guessWord_14 rfl (lv_at hl 3 rfl) ?_
  refine lv_iconst (v := nI 1) hC.1 hC.2.1 d_Root_guessWord_15 (by decide) ?_
  refine nv_isub hC (by omega) d_Root_guessWord_16 ?_
  refine wm_ald hC hK hM (j := i) (k := en - 1) hi (by omega) d_Root_guessWord_17 ?_
  refine lv_aload_n hC.1 hC.2.1 d_Root_guessWord_18 rfl (lv_at hl 1 rfl) ?_
  refine lv_iload_n hC.1 hC.2.1 d_Root_guessWord_19 rfl (lv_at hl 3 rfl) ?_
  refine lv_iconst (v := nI 2) hC.1 hC.2.1 d_Root_guessWord_20 (by decide) ?_
  refine nv_isub hC (by omega) d_Root_guessWord_21 ?_
  refine wm_ald hC hK hM (j := i) (k := en - 2) hi (by omega) d_Root_guessWord_22 ?_
  refine wm_callPi hC hK hM (As := [.int (wd i (en - 1)), .int (wd i (en - 2))]) (rest := []) (c_Rows_halved l _ (wd i (en - 1)) (wd i (en - 2))) kc_Rows_halved km_Root_73 ki_Rows ks_Rows_halved kd_Rows_halved ⟨rfl, rfl⟩ ⟨Nat.le_of_ble_eq_true rfl, Nat.le_of_ble_eq_true rfl⟩ rfl hl.1 (Nat.le_of_ble_eq_true rfl) d_Root_guessWord_23 (fun r H locs hp hM => ?_)
  subst hp
  refine lv_istore (lv' := [(5, .int (nI (wm_hv (wm_u (wd i (en - 1))) (wm_u (wd i (en - 2)))))), (4, .int (nI (wm_hv (wm_u (wd i en)) (wm_u (wd i (en - 1)))))), (0, .ref (ad (19 + i))), (1, .ref (ad (19 + j))), (2, .int (nI (en))), (3, .int (nI (cnt)))]) hC.1 hC.2.1 d_Root_guessWord_26 hl (by decide) rfl (fun ls hl => ?_)
  refine lv_aload_n hC.1 hC.2.1 d_Root_guessWord_28 rfl (lv_at hl 2 rfl) ?_
  refine lv_iload_n hC.1 hC.2.1 d_Root_guessWord_29 rfl (lv_at hl 4 rfl) ?_
  refine lv_iconst (v := nI 2) hC.1 hC.2.1 d_Root_guessWord_30 (by decide) ?_
  refine nv_isub hC (by omega) d_Root_guessWord_31 ?_
  refine wm_ald hC hK hM (j := i) (k := en - 2) hi (by omega) d_Root_guessWord_32 ?_
  refine lv_aload_n hC.1 hC.2.1 d_Root_guessWord_33 rfl (lv_at hl 2 rfl) ?_
  refine lv_iload_n hC.1 hC.2.1 d_Root_guessWord_34 rfl (lv_at hl 4 rfl) ?_
  refine lv_iconst (v := nI 3) hC.1 hC.2.1 d_Root_guessWord_35 (by decide) ?_
  refine nv_isub hC (by omega) d_Root_guessWord_36 ?_
  refine wm_ald hC hK hM (j := i) (k := en - 3) hi (by omega) d_Root_guessWord_37 ?_
  refine wm_callPi hC hK hM (As := [.int (wd i (en - 2)), .int (wd i (en - 3))]) (rest := []) (c_Rows_halved l _ (wd i (en - 2)) (wd i (en - 3))) kc_Rows_halved km_Root_73 ki_Rows ks_Rows_halved kd_Rows_halved ⟨rfl, rfl⟩ ⟨Nat.le_of_ble_eq_true rfl, Nat.le_of_ble_eq_true rfl⟩ rfl hl.1 (Nat.le_of_ble_eq_true rfl) d_Root_guessWord_38 (fun r H locs hp hM => ?_)
  subst hp
  refine lv_istore (lv' := [(6, .int (nI (wm_hv (wm_u (wd i (en - 2))) (wm_u (wd i (en - 3)))))), (5, .int (nI (wm_hv (wm_u (wd i (en - 1))) (wm_u (wd i (en - 2)))))), (4, .int (nI (wm_hv (wm_u (wd i en)) (wm_u (wd i (en - 1)))))), (0, .ref (ad (19 + i))), (1, .ref (ad (19 + j))), (2, .int (nI (en))), (3, .int (nI (cnt)))]) hC.1 hC.2.1 d_Root_guessWord_41 hl (by decide) rfl (fun ls hl => ?_)
  refine lv_aload_n hC.1 hC.2.1 d_Root_guessWord_43 rfl (lv_at hl 4 rfl) ?_
  refine lv_iload_n hC.1 hC.2.1 d_Root_guessWord_44 rfl (lv_at hl 6 rfl) ?_
  refine wm_ald hC hK hM (j := j) (k := cnt) hj (by omega) d_Root_guessWord_45 ?_
  refine lv_aload_n hC.1 hC.2.1 d_Root_guessWord_46 rfl (lv_at hl 4 rfl) ?_
  refine lv_iload_n hC.1 hC.2.1 d_Root_guessWord_47 rfl (lv_at hl 6 rfl) ?_
  refine lv_iconst (v := nI 1) hC.1 hC.2.1 d_Root_guessWord_48 (by decide) ?_
  refine nv_isub hC (by omega) d_Root_guessWord_49 ?_
  refine wm_ald hC hK hM (j := j) (k := cnt - 1) hj (by omega) d_Root_guessWord_50 ?_
  refine wm_callPi hC hK hM (As := [.int (wd j cnt), .int (wd j (cnt - 1))]) (rest := []) (c_Rows_halved l _ (wd j cnt) (wd j (cnt - 1))) kc_Rows_halved km_Root_73 ki_Rows ks_Rows_halved kd_Rows_halved ⟨rfl, rfl⟩ ⟨Nat.le_of_ble_eq_true rfl, Nat.le_of_ble_eq_true rfl⟩ rfl hl.1 (Nat.le_of_ble_eq_true rfl) d_Root_guessWord_51 (fun r H locs hp hM => ?_)
  subst hp
  refine lv_istore (lv' := [(7, .int (nI (wm_hv (wm_u (wd j cnt)) (wm_u (wd j (cnt - 1)))))), (6, .int (nI (wm_hv (wm_u (wd i (en - 2))) (wm_u (wd i (en - 3)))))), (5, .int (nI (wm_hv (wm_u (wd i (en - 1))) (wm_u (wd i (en - 2)))))), (4, .int (nI (wm_hv (wm_u (wd i en)) (wm_u (wd i (en - 1)))))), (0, .ref (ad (19 + i))), (1, .ref (ad (19 + j))), (2, .int (nI (en))), (3, .int (nI (cnt)))]) hC.1 hC.2.1 d_Root_guessWord_54 hl (by decide) rfl (fun ls hl => ?_)
  refine lv_aload_n hC.1 hC.2.1 d_Root_guessWord_56 rfl (lv_at hl 5 rfl) ?_
  refine lv_iload_n hC.1 hC.2.1 d_Root_guessWord_57 rfl (lv_at hl 7 rfl) ?_
  refine lv_iconst (v := nI 1) hC.1 hC.2.1 d_Root_guessWord_58 (by decide) ?_
  refine nv_isub hC (by omega) d_Root_guessWord_59 ?_
  refine wm_ald hC hK hM (j := j) (k := cnt - 1) hj (by omega) d_Root_guessWord_60 ?_
  refine lv_aload_n hC.1 hC.2.1 d_Root_guessWord_61 rfl (lv_at hl 5 rfl) ?_
  refine lv_iload_n hC.1 hC.2.1 d_Root_guessWord_62 rfl (lv_at hl 7 rfl) ?_
  refine lv_iconst (v := nI 2) hC.1 hC.2.1 d_Root_guessWord_63 (by decide) ?_
  refine nv_isub hC (by omega) d_Root_guessWord_64 ?_
  refine wm_ald hC hK hM (j := j) (k := cnt - 2) hj (by omega) d_Root_guessWord_65 ?_
  refine wm_callPi hC hK hM (As := [.int (wd j (cnt - 1)), .int (wd j (cnt - 2))]) (rest := []) (c_Rows_halved l _ (wd j (cnt - 1)) (wd j (cnt - 2))) kc_Rows_halved km_Root_73 ki_Rows ks_Rows_halved kd_Rows_halved ⟨rfl, rfl⟩ ⟨Nat.le_of_ble_eq_true rfl, Nat.le_of_ble_eq_true rfl⟩ rfl hl.1 (Nat.le_of_ble_eq_true rfl) d_Root_guessWord_66 (fun r H locs hp hM => ?_)
  subst hp
  refine lv_istore (lv' := [(8, .int (nI (wm_hv (wm_u (wd j (cnt - 1))) (wm_u (wd j (cnt - 2)))))), (7, .int (nI (wm_hv (wm_u (wd j cnt)) (wm_u (wd j (cnt - 1)))))), (6, .int (nI (wm_hv (wm_u (wd i (en - 2))) (wm_u (wd i (en - 3)))))), (5, .int (nI (wm_hv (wm_u (wd i (en - 1))) (wm_u (wd i (en - 2)))))), (4, .int (nI (wm_hv (wm_u (wd i en)) (wm_u (wd i (en - 1)))))), (0, .ref (ad (19 + i))), (1, .ref (ad (19 + j))), (2, .int (nI (en))), (3, .int (nI (cnt)))]) hC.1 hC.2.1 d_Root_guessWord_69 hl (by decide) rfl (fun ls hl => ?_)
  refine lv_iload hC.1 hC.2.1 d_Root_guessWord_71 (lv_at hl 4 rfl) ?_
  refine lv_iload hC.1 hC.2.1 d_Root_guessWord_73 (lv_at hl 3 rfl) ?_
  refine lv_iload hC.1 hC.2.1 d_Root_guessWord_75 (lv_at hl 2 rfl) ?_
  refine lv_iload hC.1 hC.2.1 d_Root_guessWord_77 (lv_at hl 1 rfl) ?_
  refine lv_iload hC.1 hC.2.1 d_Root_guessWord_79 (lv_at hl 0 rfl) ?_
  have q0 := wm_un' (wm_hv_lt (a := wm_u (wd i en)) (wm_u_lt (wd i (en - 1))))
  have q1 := wm_un' (wm_hv_lt (a := wm_u (wd i (en - 1))) (wm_u_lt (wd i (en - 2))))
  have q2 := wm_un' (wm_hv_lt (a := wm_u (wd i (en - 2))) (wm_u_lt (wd i (en - 3))))
  have q3 := wm_un' (wm_hv_lt (a := wm_u (wd j cnt)) (wm_u_lt (wd j (cnt - 1))))
  have q4 := wm_un' (wm_hv_lt (a := wm_u (wd j (cnt - 1))) (wm_u_lt (wd j (cnt - 2))))
  refine wm_callPl hC hK hM (As := [.int (nI (wm_hv (wm_u (wd i en)) (wm_u (wd i (en - 1))))), .int (nI (wm_hv (wm_u (wd i (en - 1))) (wm_u (wd i (en - 2))))), .int (nI (wm_hv (wm_u (wd i (en - 2))) (wm_u (wd i (en - 3))))), .int (nI (wm_hv (wm_u (wd j cnt)) (wm_u (wd j (cnt - 1))))), .int (nI (wm_hv (wm_u (wd j (cnt - 1))) (wm_u (wd j (cnt - 2)))))]) (rest := []) (c_Rows_guess l _ (nI (wm_hv (wm_u (wd i en)) (wm_u (wd i (en - 1))))) (nI (wm_hv (wm_u (wd i (en - 1))) (wm_u (wd i (en - 2))))) (nI (wm_hv (wm_u (wd i (en - 2))) (wm_u (wd i (en - 3))))) (nI (wm_hv (wm_u (wd j cnt)) (wm_u (wd j (cnt - 1))))) (nI (wm_hv (wm_u (wd j (cnt - 1))) (wm_u (wd j (cnt - 2))))) (by rw [q3]; exact ht) (by rw [q0, q3]; exact hh)) kc_Rows_guess km_Root_77 ki_Rows ks_Rows_guess kd_Rows_guess ⟨rfl, rfl⟩ ⟨Nat.le_of_ble_eq_true rfl, Nat.le_of_ble_eq_true rfl⟩ rfl hl.1 (Nat.le_of_ble_eq_true rfl) d_Root_guessWord_81 (fun r H locs hp hM => ?_)
  rw [q0, q1, q2, q3, q4] at hp
  exact wm_lret hC hK hM hr hlk ⟨hp, rfl⟩ d_Root_guessWord_84
