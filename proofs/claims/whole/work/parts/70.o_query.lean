set_option maxHeartbeats 4000000 in
set_option maxRecDepth 100000 in
theorem lp_Mod_bitsOf {p : Program} {l : Launch} {e : Env} {R : Room} {s : State} {m : MethodId} {args : Array Value} {below : List Frame} {meth : Method} {c : Code} {Q : State → Prop} {D : va_G} {ad : Nat → Nat} {cA : ClassId} (hC : CallFix p m c b_Mod_bitsOf 4 s args lw_T R_Mod) (hK : va_K D classes (md_ty cA) s) (ln : Nat → Nat) (wd : Nat → Nat → Nat) (T : Nat)
    (hex : ∀ (H : Heap) (locs : List Loc) (ls : Array Slot), md_M D ad cA s (ln) (wd) H locs → lv_has ls 4 [(2, .int (nI (T)))] → W p l e R s m args below meth c H locs 0 0 Q (F0 m 57 ls [])) :
    ∀ (n : Nat) (n0 : Nat) (d : Nat), (d < 65536) → (n0 + wm_bl d = T) → d + 1 ≤ n → ∀ (H : Heap) (locs : List Loc) (ls : Array Slot), md_M D ad cA s (ln) (wd) H locs → lv_has ls 4 [(2, .int (nI (n0))), (3, .int (nI (d)))] → W p l e R s m args below meth c H locs 0 0 Q (F0 m 43 ls []) := by
  intro n
  induction n with
  | zero =>
    intro n0 d hd hS hn
    exact absurd hn (by omega)
  | succ n ih =>
    intro n0 d hd hS hn H locs ls hM hl
    refine lv_iload_n hC.1 hC.2.1 d_Mod_bitsOf_43 rfl (lv_at hl 1 rfl) ?_
    refine nv_if_le (tgt := 57) hC (by omega) d_Mod_bitsOf_44 (by decide) (fun hz => ?_) (fun hz => ?_)
    · subst hz
      exact hex H locs ls hM (by rw [show T = n0 from by rw [← hS, wm_bl_0, Nat.add_zero]]; exact lv_sub hl [0] rfl)
    · refine lv_iinc (v := nI (n0 + 1)) (lv' := [(2, .int (nI (n0 + 1))), (3, .int (nI (d)))]) hC.1 hC.2.1 d_Mod_bitsOf_47 hl (k := 0) rfl (nv_inc _) (by decide) rfl (fun ls hl => ?_)
      refine lv_iload_n hC.1 hC.2.1 d_Mod_bitsOf_50 rfl (lv_at hl 1 rfl) ?_
      refine lv_iconst (v := nI 1) hC.1 hC.2.1 d_Mod_bitsOf_51 (by decide) ?_
      refine nv_ishrp (q := 2) hC (by decide) (by omega) (by decide) d_Mod_bitsOf_52 ?_
      refine lv_istore_n (lv' := [(3, .int (nI (d / 2))), (2, .int (nI (n0 + 1)))]) hC.1 hC.2.1 d_Mod_bitsOf_53 rfl hl (by decide) rfl (fun ls hl => ?_)
      refine lv_goto (tgt := 43) hC.1 hC.2.1 d_Mod_bitsOf_54 (by decide) ?_
      exact ih (n0 + 1) (d / 2) (by omega) (by rw [← hS, wm_bl_half (d := d) (by omega)]; omega) (by omega) H locs ls hM (lv_sub hl [1, 0] rfl)
set_option maxHeartbeats 4000000 in
set_option maxRecDepth 100000 in
theorem c_Mod_bitsOf (l : Launch) (D : va_G) (ad : Nat → Nat) (cA : ClassId) (sz : Nat) (ln : Nat → Nat) (wd : Nat → Nat → Nat) (a A : Nat) (ha : a < 16) (h : mr_r 4096 (fun i => wd 0 (4096 * a + i)) (wd 1 a) A) : Met l y_Mod_bitsOf (Cond.code y_Mod_bitsOf b_Mod_bitsOf 4 (some .int) :: lw_T) ({ frames := 0, cells := 0, slots := 0, locals := 0 }) (va_Pc [.ref (ad 5), .int (nI (a))] (md_B D ad cA sz ln wd)) (va_Qi (fun (r : Int32) (u : md_St) => r = nI (wm_bl A) ∧ u = (ln, wd)) (md_E D ad cA sz) (md_A ad sz)) 0 0 (md_A ad sz) := by
  refine md_met l (by decide) (Nat.le_of_ble_eq_true rfl) ?_
  intro p e s m below meth c ls hsz hC hK hr hlk hM hl
  subst hsz
  have hC : CallFix p m c b_Mod_bitsOf 4 s _ lw_T R_Mod := hC
  have hl : lv_has ls 4 [(0, .ref (ad 5)), (1, .int (nI (a)))] := hl
  have h1 := h.1
  refine lv_aload_n hC.1 hC.2.1 d_Mod_bitsOf_0 rfl (lv_at hl 0 rfl) ?_
  refine md_f1 hC hK hM kf_Mod_14 d_Mod_bitsOf_1 ?_
  refine lv_iload_n hC.1 hC.2.1 d_Mod_bitsOf_4 rfl (lv_at hl 1 rfl) ?_
  refine md_ald hC hK hM (j := 1) (k := a) (by decide) (md_lt1 (by omega)) d_Mod_bitsOf_5 ?_
  refine nv_if_ne (tgt := 11) hC (by omega) d_Mod_bitsOf_6 (by decide) (fun hz => ?_) (fun hz => ?_)
  · obtain ⟨k, hk⟩ : ∃ k, wd 1 a = k + 1 := ⟨wd 1 a - 1, by omega⟩
    have h9 : mr_r 4096 (fun i => wd 0 (4096 * a + i)) (k + 1) A := by rw [← hk]; exact h
    have hB := mv_bl h9
    have hd := h9.2.1 k (by omega)
    refine lv_bipush (v := nI 16) hC.1 hC.2.1 d_Mod_bitsOf_11 (by decide) ?_
    refine lv_aload_n hC.1 hC.2.1 d_Mod_bitsOf_13 rfl (lv_at hl 0 rfl) ?_
    refine md_f1 hC hK hM kf_Mod_14 d_Mod_bitsOf_14 ?_
    refine lv_iload_n hC.1 hC.2.1 d_Mod_bitsOf_17 rfl (lv_at hl 1 rfl) ?_
    refine md_ald hC hK hM (j := 1) (k := a) (by decide) (md_lt1 (by omega)) d_Mod_bitsOf_18 ?_
    refine nv_top (y := nI (k + 1)) (by rw [hk]) ?_
    refine lv_iconst (v := nI 1) hC.1 hC.2.1 d_Mod_bitsOf_19 (by decide) ?_
    refine nv_isub hC (by omega) d_Mod_bitsOf_20 ?_
    refine nv_imul hC d_Mod_bitsOf_21 ?_
    refine lv_istore_n (lv' := [(2, .int (nI (16 * k))), (0, .ref (ad 5)), (1, .int (nI (a)))]) hC.1 hC.2.1 d_Mod_bitsOf_22 rfl hl (by decide) rfl (fun ls hl => ?_)
    refine lv_aload_n hC.1 hC.2.1 d_Mod_bitsOf_23 rfl (lv_at hl 1 rfl) ?_
    refine md_f0 hC hK hM kf_Mod_8 d_Mod_bitsOf_24 ?_
    refine lv_sipush (v := nI 4096) hC.1 hC.2.1 d_Mod_bitsOf_27 (by decide) ?_
    refine lv_iload_n hC.1 hC.2.1 d_Mod_bitsOf_30 rfl (lv_at hl 2 rfl) ?_
    refine nv_imul hC d_Mod_bitsOf_31 ?_
    refine lv_aload_n hC.1 hC.2.1 d_Mod_bitsOf_32 rfl (lv_at hl 1 rfl) ?_
    refine md_f1 hC hK hM kf_Mod_14 d_Mod_bitsOf_33 ?_
    refine lv_iload_n hC.1 hC.2.1 d_Mod_bitsOf_36 rfl (lv_at hl 2 rfl) ?_
    refine md_ald hC hK hM (j := 1) (k := a) (by decide) (md_lt1 (by omega)) d_Mod_bitsOf_37 ?_
    refine nv_top (y := nI (k + 1)) (by rw [hk]) ?_
    refine nv_iadd hC d_Mod_bitsOf_38 ?_
    refine lv_iconst (v := nI 1) hC.1 hC.2.1 d_Mod_bitsOf_39 (by decide) ?_
    refine nv_isub hC (by omega) d_Mod_bitsOf_40 ?_
    refine nv_top (y := nI (4096 * a + k)) (congrArg nI (by omega)) ?_
    refine md_ald hC hK hM (j := 0) (k := 4096 * a + k) (by decide) (md_lt0 (by omega)) d_Mod_bitsOf_41 ?_
    refine lv_istore_n (lv' := [(3, .int (nI (wd 0 (4096 * a + k)))), (2, .int (nI (16 * k))), (0, .ref (ad 5)), (1, .int (nI (a)))]) hC.1 hC.2.1 d_Mod_bitsOf_42 rfl hl (by decide) rfl (fun ls hl => ?_)
    refine lp_Mod_bitsOf hC hK ln wd (wm_bl A) (fun H locs ls hM hl => ?_) (wd 0 (4096 * a + k) + 1) (16 * k) _ hd hB.symm (Nat.le_refl _) _ _ _ hM (lv_sub hl [1, 0] rfl)
    refine lv_iload_n hC.1 hC.2.1 d_Mod_bitsOf_57 rfl (lv_at hl 0 rfl) ?_
    exact md_iret hC hK hM hr hlk ⟨rfl, rfl⟩ d_Mod_bitsOf_58
  · refine lv_iconst (v := nI 0) hC.1 hC.2.1 d_Mod_bitsOf_9 (by decide) ?_
    exact md_iret hC hK hM hr hlk ⟨by rw [(mr_0 h).mp hz]; rfl, rfl⟩ d_Mod_bitsOf_10
set_option maxHeartbeats 4000000 in
set_option maxRecDepth 100000 in
theorem c_Mod_bits (l : Launch) (D : va_G) (ad : Nat → Nat) (cA : ClassId) (sz : Nat) (ln : Nat → Nat) (wd : Nat → Nat → Nat) (N : Nat → Nat) (hR : md_R N wd) (x : Int32) : Met l y_Mod_bits (Cond.code y_Mod_bits b_Mod_bits 2 (some .int) :: lw_T) ({ frames := 1, cells := 0, slots := 0, locals := 23 }) (va_Pc [.ref (ad 5), .int (x)] (md_B D ad cA sz ln wd)) (va_Qi (fun (r : Int32) (u : md_St) => r = sp_bits N x ∧ md_R N u.2) (md_E D ad cA sz) (md_A ad sz)) 0 0 (md_A ad sz) := by
  refine md_met l (by decide) (Nat.le_of_ble_eq_true rfl) ?_
  intro p e s m below meth c ls hsz hC hK hr hlk hM hl
  subst hsz
  have hC : CallFix p m c b_Mod_bits 2 s _ lw_T R_Mod := hC
  have hl : lv_has ls 2 [(0, .ref (ad 5)), (1, .int (x))] := hl
  have hR0 := hR
  refine lv_iload_n hC.1 hC.2.1 d_Mod_bits_0 rfl (lv_at hl 1 rfl) ?_
  refine md_callPi hC hK hM (As := [.int (x)]) (rest := []) (c_Mod_isRegister l _ x) kc_Mod_isRegister km_Mod_41 ki_Mod ks_Mod_isRegister kd_Mod_isRegister ⟨rfl, rfl⟩ ⟨Nat.le_of_ble_eq_true rfl, Nat.le_of_ble_eq_true rfl⟩ rfl hl.1 (Nat.le_of_ble_eq_true rfl) d_Mod_bits_1 (fun r H locs hp hM => ?_)
  rcases hp with ⟨a, ha, rfl, rfl⟩ | ⟨hno, rfl⟩
  · refine nv_if_eq (tgt := 15) hC (by omega) d_Mod_bits_4 (by decide) (fun hz => ?_) (fun hz => ?_)
    · exact absurd hz (by decide)
    · refine lv_aload_n hC.1 hC.2.1 d_Mod_bits_7 rfl (lv_at hl 0 rfl) ?_
      refine lv_iload_n hC.1 hC.2.1 d_Mod_bits_8 rfl (lv_at hl 1 rfl) ?_
      refine md_callVi hC hK hM (As := [.int (nI (a))]) (rest := []) md_at_m rfl (c_Mod_bitsOf l D ad cA _ ln wd a _ ha (hR a ha)) kc_Mod_bitsOf km_Mod_87 ki_Mod kn_Mod_bitsOf ke_Mod_bitsOf kd_Mod_bitsOf ⟨rfl, rfl⟩ ⟨Nat.le_of_ble_eq_true rfl, Nat.le_of_ble_eq_true rfl⟩ rfl hl.1 (Nat.le_of_ble_eq_true rfl) d_Mod_bits_9 (fun r u H locs hp hM => ?_)
      obtain ⟨hr0, rfl⟩ := hp
      have hM : md_M D ad cA s (ln) (wd) H locs := by
        exact hM
      refine lv_goto (tgt := 16) hC.1 hC.2.1 d_Mod_bits_12 (by decide) ?_
      exact md_iret hC hK hM hr hlk ⟨by simp only [sp_bits, sp_ix_ok ha]; exact hr0, hR⟩ d_Mod_bits_16
  · refine nv_if_eq (tgt := 15) hC (by omega) d_Mod_bits_4 (by decide) (fun hz => ?_) (fun hz => ?_)
    · refine lv_iconst (v := -1) hC.1 hC.2.1 d_Mod_bits_15 (by decide) ?_
      exact md_iret hC hK hM hr hlk ⟨by simp only [sp_bits, sp_ix_no hno] <;> rfl, hR⟩ d_Mod_bits_16
    · exact absurd rfl hz
set_option maxHeartbeats 4000000 in
set_option maxRecDepth 100000 in
theorem c_Mod_word (l : Launch) (D : va_G) (ad : Nat → Nat) (cA : ClassId) (sz : Nat) (ln : Nat → Nat) (wd : Nat → Nat → Nat) (N : Nat → Nat) (hR : md_R N wd) (x k0 : Int32) : Met l y_Mod_word (Cond.code y_Mod_word b_Mod_word 3 (some .int) :: lw_T) ({ frames := 1, cells := 0, slots := 0, locals := 20 }) (va_Pc [.ref (ad 5), .int (x), .int (k0)] (md_B D ad cA sz ln wd)) (va_Qi (fun (r : Int32) (u : md_St) => r = sp_word N x k0 ∧ md_R N u.2) (md_E D ad cA sz) (md_A ad sz)) 0 0 (md_A ad sz) := by
  refine md_met l (by decide) (Nat.le_of_ble_eq_true rfl) ?_
  intro p e s m below meth c ls hsz hC hK hr hlk hM hl
  subst hsz
  have hC : CallFix p m c b_Mod_word 3 s _ lw_T R_Mod := hC
  have hl : lv_has ls 3 [(0, .ref (ad 5)), (1, .int (x)), (2, .int (k0))] := hl
  have hR0 := hR
  refine lv_iload_n hC.1 hC.2.1 d_Mod_word_0 rfl (lv_at hl 1 rfl) ?_
  refine md_callPi hC hK hM (As := [.int (x)]) (rest := []) (c_Mod_isRegister l _ x) kc_Mod_isRegister km_Mod_41 ki_Mod ks_Mod_isRegister kd_Mod_isRegister ⟨rfl, rfl⟩ ⟨Nat.le_of_ble_eq_true rfl, Nat.le_of_ble_eq_true rfl⟩ rfl hl.1 (Nat.le_of_ble_eq_true rfl) d_Mod_word_1 (fun r H locs hp hM => ?_)
  rcases hp with ⟨a, ha, rfl, rfl⟩ | ⟨hno, rfl⟩
  · refine nv_if_eq (tgt := 18) hC (by omega) d_Mod_word_4 (by decide) (fun hz => ?_) (fun hz => ?_)
    · exact absurd hz (by decide)
    · refine lv_iload_n hC.1 hC.2.1 d_Mod_word_7 rfl (lv_at hl 2 rfl) ?_
      refine lv_if_lt (tgt := 18) hC.1 hC.2.1 d_Mod_word_8 (by decide) (fun hn => ?_) (fun hn => ?_)
      · refine lv_iconst (v := nI 0) hC.1 hC.2.1 d_Mod_word_18 (by decide) ?_
        exact md_iret hC hK hM hr hlk ⟨by simp only [sp_word, sp_ix_ok ha]; rw [if_pos hn]; rfl, hR⟩ d_Mod_word_19
      · obtain ⟨k, hk, rfl⟩ := nI_of hn
        refine lv_iload_n hC.1 hC.2.1 d_Mod_word_11 rfl (lv_at hl 2 rfl) ?_
        refine lv_sipush (v := nI 2048) hC.1 hC.2.1 d_Mod_word_12 (by decide) ?_
        refine nv_icmp_lt (tgt := 20) hC (by omega) (by omega) d_Mod_word_15 (by decide) (fun hk2 => ?_) (fun hk2 => ?_)
        · have h9 := hR a ha
          have hd1 : wd 0 (4096 * a + 2 * k) < 65536 := h9.2.1 (2 * k) (by omega)
          have hd2 : wd 0 (4096 * a + 2 * k + 1) < 65536 := h9.2.1 (2 * k + 1) (by omega)
          have hW := mv_word h9 hk2
          refine lv_aload_n hC.1 hC.2.1 d_Mod_word_20 rfl (lv_at hl 0 rfl) ?_
          refine md_f0 hC hK hM kf_Mod_8 d_Mod_word_21 ?_
          refine lv_sipush (v := nI 4096) hC.1 hC.2.1 d_Mod_word_24 (by decide) ?_
          refine lv_iload_n hC.1 hC.2.1 d_Mod_word_27 rfl (lv_at hl 1 rfl) ?_
          refine nv_imul hC d_Mod_word_28 ?_
          refine lv_iconst (v := nI 2) hC.1 hC.2.1 d_Mod_word_29 (by decide) ?_
          refine lv_iload_n hC.1 hC.2.1 d_Mod_word_30 rfl (lv_at hl 2 rfl) ?_
          refine nv_imul hC d_Mod_word_31 ?_
          refine nv_iadd hC d_Mod_word_32 ?_
          refine md_ald hC hK hM (j := 0) (k := (4096 * a) + (2 * k)) (by decide) (md_lt0 (by omega)) d_Mod_word_33 ?_
          refine lv_aload_n hC.1 hC.2.1 d_Mod_word_34 rfl (lv_at hl 0 rfl) ?_
          refine md_f0 hC hK hM kf_Mod_8 d_Mod_word_35 ?_
          refine lv_sipush (v := nI 4096) hC.1 hC.2.1 d_Mod_word_38 (by decide) ?_
          refine lv_iload_n hC.1 hC.2.1 d_Mod_word_41 rfl (lv_at hl 1 rfl) ?_
          refine nv_imul hC d_Mod_word_42 ?_
          refine lv_iconst (v := nI 2) hC.1 hC.2.1 d_Mod_word_43 (by decide) ?_
          refine lv_iload_n hC.1 hC.2.1 d_Mod_word_44 rfl (lv_at hl 2 rfl) ?_
          refine nv_imul hC d_Mod_word_45 ?_
          refine nv_iadd hC d_Mod_word_46 ?_
          refine lv_iconst (v := nI 1) hC.1 hC.2.1 d_Mod_word_47 (by decide) ?_
          refine nv_iadd hC d_Mod_word_48 ?_
          refine md_ald hC hK hM (j := 0) (k := ((4096 * a) + (2 * k)) + 1) (by decide) (md_lt0 (by omega)) d_Mod_word_49 ?_
          refine lv_bipush (v := nI 16) hC.1 hC.2.1 d_Mod_word_50 (by decide) ?_
          refine nv_ishl hC (by omega) (by omega) d_Mod_word_52 ?_
          refine nv_ior hC (by omega) (by omega) d_Mod_word_53 ?_
          exact md_iret hC hK hM hr hlk ⟨by simp only [sp_word, sp_ix_ok ha]; rw [if_neg hn, nI_clamp hk, hW]; rfl, hR⟩ d_Mod_word_54
        · refine lv_iconst (v := nI 0) hC.1 hC.2.1 d_Mod_word_18 (by decide) ?_
          exact md_iret hC hK hM hr hlk ⟨by simp only [sp_word, sp_ix_ok ha]; rw [if_neg hn, nI_clamp hk, mv_word0 (md_R_L hR ha) hk2], hR⟩ d_Mod_word_19
  · refine nv_if_eq (tgt := 18) hC (by omega) d_Mod_word_4 (by decide) (fun hz => ?_) (fun hz => ?_)
    · refine lv_iconst (v := nI 0) hC.1 hC.2.1 d_Mod_word_18 (by decide) ?_
      exact md_iret hC hK hM hr hlk ⟨by simp only [sp_word, sp_ix_no hno] <;> rfl, hR⟩ d_Mod_word_19
    · exact absurd rfl hz
set_option maxHeartbeats 4000000 in
set_option maxRecDepth 100000 in
theorem lp_Mod_ones_b {p : Program} {l : Launch} {e : Env} {R : Room} {s : State} {m : MethodId} {args : Array Value} {below : List Frame} {meth : Method} {c : Code} {Q : State → Prop} {D : va_G} {ad : Nat → Nat} {cA : ClassId} (hC : CallFix p m c b_Mod_ones 5 s args lw_T R_Mod) (hK : va_K D classes (md_ty cA) s) (ln : Nat → Nat) (wd : Nat → Nat → Nat) (a k T : Nat)
    (hex : ∀ (H : Heap) (locs : List Loc) (ls : Array Slot), md_M D ad cA s (ln) (wd) H locs → lv_has ls 5 [(0, .ref (ad 5)), (1, .int (nI (a))), (2, .int (nI (T))), (3, .int (nI (k)))] → W p l e R s m args below meth c H locs 0 0 Q (F0 m 58 ls [])) :
    ∀ (n : Nat) (c0 : Nat) (d : Nat), (d < 65536) → (c0 + wm_on d 16 = T) → d + 1 ≤ n → ∀ (H : Heap) (locs : List Loc) (ls : Array Slot), md_M D ad cA s (ln) (wd) H locs → lv_has ls 5 [(0, .ref (ad 5)), (1, .int (nI (a))), (2, .int (nI (c0))), (3, .int (nI (k))), (4, .int (nI (d)))] → W p l e R s m args below meth c H locs 0 0 Q (F0 m 37 ls []) := by
  intro n
  induction n with
  | zero =>
    intro c0 d hd hS hn
    exact absurd hn (by omega)
  | succ n ih =>
    intro c0 d hd hS hn H locs ls hM hl
    refine lv_iload hC.1 hC.2.1 d_Mod_ones_37 (lv_at hl 4 rfl) ?_
    refine nv_if_le (tgt := 58) hC (by omega) d_Mod_ones_39 (by decide) (fun hz => ?_) (fun hz => ?_)
    · subst hz
      exact hex H locs ls hM (by rw [show T = c0 from by rw [← hS, wm_on_0, Nat.add_zero]]; exact lv_sub hl [0, 1, 2, 3] rfl)
    · refine lv_iload_n hC.1 hC.2.1 d_Mod_ones_42 rfl (lv_at hl 2 rfl) ?_
      refine lv_iload hC.1 hC.2.1 d_Mod_ones_43 (lv_at hl 4 rfl) ?_
      refine lv_iconst (v := nI 1) hC.1 hC.2.1 d_Mod_ones_45 (by decide) ?_
      refine nv_iandp (k := 1) (q := 2) hC (by decide) (by decide) (by omega) (by decide) d_Mod_ones_46 ?_
      refine nv_iadd hC d_Mod_ones_47 ?_
      refine lv_istore_n (lv' := [(2, .int (nI (c0 + (d % 2)))), (0, .ref (ad 5)), (1, .int (nI (a))), (3, .int (nI (k))), (4, .int (nI (d)))]) hC.1 hC.2.1 d_Mod_ones_48 rfl hl (by decide) rfl (fun ls hl => ?_)
      refine lv_iload hC.1 hC.2.1 d_Mod_ones_49 (lv_at hl 4 rfl) ?_
      refine lv_iconst (v := nI 1) hC.1 hC.2.1 d_Mod_ones_51 (by decide) ?_
      refine nv_ishrp (q := 2) hC (by decide) (by omega) (by decide) d_Mod_ones_52 ?_
      refine lv_istore (lv' := [(4, .int (nI (d / 2))), (2, .int (nI (c0 + (d % 2)))), (0, .ref (ad 5)), (1, .int (nI (a))), (3, .int (nI (k)))]) hC.1 hC.2.1 d_Mod_ones_53 hl (by decide) rfl (fun ls hl => ?_)
      refine lv_goto (tgt := 37) hC.1 hC.2.1 d_Mod_ones_55 (by decide) ?_
      exact ih (c0 + d % 2) (d / 2) (by omega) (by rw [← hS, wm_on_step hd]; omega) (by omega) H locs ls hM (lv_sub hl [2, 3, 1, 4, 0] rfl)
set_option maxHeartbeats 4000000 in
set_option maxRecDepth 100000 in
theorem lp_Mod_ones_a {p : Program} {l : Launch} {e : Env} {R : Room} {s : State} {m : MethodId} {args : Array Value} {below : List Frame} {meth : Method} {c : Code} {Q : State → Prop} {D : va_G} {ad : Nat → Nat} {cA : ClassId} (hC : CallFix p m c b_Mod_ones 5 s args lw_T R_Mod) (hK : va_K D classes (md_ty cA) s) (ln : Nat → Nat) (wd : Nat → Nat → Nat) (a A : Nat) (ha : a < 16) (h : mr_r 4096 (fun i => wd 0 (4096 * a + i)) (wd 1 a) A)
    (hex : ∀ (H : Heap) (locs : List Loc) (ls : Array Slot), md_M D ad cA s (ln) (wd) H locs → lv_has ls 5 [(2, .int (nI (wm_on (mv_v (fun i => wd 0 (4096 * a + i)) (wd 1 a)) (16 * (wd 1 a)))))] → W p l e R s m args below meth c H locs 0 0 Q (F0 m 64 ls [])) :
    ∀ (n : Nat) (k : Nat), (k ≤ wd 1 a) → wd 1 a + 1 ≤ k + n → ∀ (H : Heap) (locs : List Loc) (ls : Array Slot), md_M D ad cA s (ln) (wd) H locs → lv_has ls 5 [(0, .ref (ad 5)), (1, .int (nI (a))), (2, .int (nI (wm_on (mv_v (fun i => wd 0 (4096 * a + i)) (k)) (16 * k)))), (3, .int (nI (k)))] → W p l e R s m args below meth c H locs 0 0 Q (F0 m 13 ls []) := by
  intro n
  induction n with
  | zero =>
    intro k hk hn
    exact absurd hn (by omega)
  | succ n ih =>
    intro k hk hn H locs ls hM hl
    have hn1 := h.1
    refine lv_iload_n hC.1 hC.2.1 d_Mod_ones_13 rfl (lv_at hl 3 rfl) ?_
    refine lv_aload_n hC.1 hC.2.1 d_Mod_ones_14 rfl (lv_at hl 0 rfl) ?_
    refine md_f1 hC hK hM kf_Mod_14 d_Mod_ones_15 ?_
    refine lv_iload_n hC.1 hC.2.1 d_Mod_ones_18 rfl (lv_at hl 1 rfl) ?_
    refine md_ald hC hK hM (j := 1) (k := a) (by decide) (md_lt1 (by omega)) d_Mod_ones_19 ?_
    refine nv_icmp_ge (tgt := 64) hC (by omega) (by omega) d_Mod_ones_20 (by decide) (fun hk2 => ?_) (fun hk2 => ?_)
    · obtain rfl : k = wd 1 a := by omega
      exact hex H locs ls hM (lv_sub hl [2] rfl)
    · have d1 := h.2.1 k (by omega)
      refine lv_aload_n hC.1 hC.2.1 d_Mod_ones_23 rfl (lv_at hl 0 rfl) ?_
      refine md_f0 hC hK hM kf_Mod_8 d_Mod_ones_24 ?_
      refine lv_sipush (v := nI 4096) hC.1 hC.2.1 d_Mod_ones_27 (by decide) ?_
      refine lv_iload_n hC.1 hC.2.1 d_Mod_ones_30 rfl (lv_at hl 1 rfl) ?_
      refine nv_imul hC d_Mod_ones_31 ?_
      refine lv_iload_n hC.1 hC.2.1 d_Mod_ones_32 rfl (lv_at hl 3 rfl) ?_
      refine nv_iadd hC d_Mod_ones_33 ?_
      refine md_ald hC hK hM (j := 0) (k := (4096 * a) + k) (by decide) (md_lt0 (by omega)) d_Mod_ones_34 ?_
      refine lv_istore (lv' := [(4, .int (nI (wd 0 ((4096 * a) + k)))), (0, .ref (ad 5)), (1, .int (nI (a))), (2, .int (nI (wm_on (mv_v (fun i => wd 0 (4096 * a + i)) (k)) (16 * k)))), (3, .int (nI (k)))]) hC.1 hC.2.1 d_Mod_ones_35 hl (by decide) rfl (fun ls hl => ?_)
      refine lp_Mod_ones_b hC hK ln wd a k (wm_on (mv_v (fun i => wd 0 (4096 * a + i)) (k + 1)) (16 * (k + 1))) (fun H locs ls hM hl => ?_) (wd 0 (4096 * a + k) + 1) _ _ d1 (mv_on (fun i hi => h.2.1 i (by omega))).symm (Nat.le_refl _) _ _ _ hM (lv_sub hl [1, 2, 3, 4, 0] rfl)
      refine lv_iinc (v := nI (k + 1)) (lv' := [(3, .int (nI (k + 1))), (0, .ref (ad 5)), (1, .int (nI (a))), (2, .int (nI (wm_on (mv_v (fun i => wd 0 (4096 * a + i)) (k + 1)) (16 * (k + 1)))))]) hC.1 hC.2.1 d_Mod_ones_58 hl (k := 3) rfl (nv_inc _) (by decide) rfl (fun ls hl => ?_)
      refine lv_goto (tgt := 13) hC.1 hC.2.1 d_Mod_ones_61 (by decide) ?_
      exact ih (k + 1) (by omega) (by omega) H locs ls hM (lv_sub hl [1, 2, 3, 0] rfl)
set_option maxHeartbeats 4000000 in
set_option maxRecDepth 100000 in
theorem c_Mod_ones (l : Launch) (D : va_G) (ad : Nat → Nat) (cA : ClassId) (sz : Nat) (ln : Nat → Nat) (wd : Nat → Nat → Nat) (N : Nat → Nat) (hR : md_R N wd) (x : Int32) : Met l y_Mod_ones (Cond.code y_Mod_ones b_Mod_ones 5 (some .int) :: lw_T) ({ frames := 1, cells := 0, slots := 0, locals := 20 }) (va_Pc [.ref (ad 5), .int (x)] (md_B D ad cA sz ln wd)) (va_Qi (fun (r : Int32) (u : md_St) => r = sp_ones N x ∧ md_R N u.2) (md_E D ad cA sz) (md_A ad sz)) 0 0 (md_A ad sz) := by
  refine md_met l (by decide) (Nat.le_of_ble_eq_true rfl) ?_
  intro p e s m below meth c ls hsz hC hK hr hlk hM hl
  subst hsz
  have hC : CallFix p m c b_Mod_ones 5 s _ lw_T R_Mod := hC
  have hl : lv_has ls 5 [(0, .ref (ad 5)), (1, .int (x))] := hl
  have hR0 := hR
  refine lv_iload_n hC.1 hC.2.1 d_Mod_ones_0 rfl (lv_at hl 1 rfl) ?_
  refine md_callPi hC hK hM (As := [.int (x)]) (rest := []) (c_Mod_isRegister l _ x) kc_Mod_isRegister km_Mod_41 ki_Mod ks_Mod_isRegister kd_Mod_isRegister ⟨rfl, rfl⟩ ⟨Nat.le_of_ble_eq_true rfl, Nat.le_of_ble_eq_true rfl⟩ rfl hl.1 (Nat.le_of_ble_eq_true rfl) d_Mod_ones_1 (fun r H locs hp hM => ?_)
  rcases hp with ⟨a, ha, rfl, rfl⟩ | ⟨hno, rfl⟩
  · refine nv_if_ne (tgt := 9) hC (by omega) d_Mod_ones_4 (by decide) (fun hz => ?_) (fun hz => ?_)
    · have h9 := hR a ha
      refine lv_iconst (v := nI 0) hC.1 hC.2.1 d_Mod_ones_9 (by decide) ?_
      refine lv_istore_n (lv' := [(2, .int (nI (0))), (0, .ref (ad 5)), (1, .int (nI (a)))]) hC.1 hC.2.1 d_Mod_ones_10 rfl hl (by decide) rfl (fun ls hl => ?_)
      refine lv_iconst (v := nI 0) hC.1 hC.2.1 d_Mod_ones_11 (by decide) ?_
      refine lv_istore_n (lv' := [(3, .int (nI (0))), (2, .int (nI (0))), (0, .ref (ad 5)), (1, .int (nI (a)))]) hC.1 hC.2.1 d_Mod_ones_12 rfl hl (by decide) rfl (fun ls hl => ?_)
      refine lp_Mod_ones_a hC hK ln wd a _ ha h9 (fun H locs ls hM hl => ?_) (wd 1 a + 1) 0 (Nat.zero_le _) (by omega) _ _ _ hM (lv_sub hl [2, 3, 1, 0] rfl)
      refine lv_iload_n hC.1 hC.2.1 d_Mod_ones_64 rfl (lv_at hl 0 rfl) ?_
      exact md_iret hC hK hM hr hlk ⟨by simp only [sp_ones, sp_ix_ok ha]; rw [h9.2.2.2.2, mv_on_end (by rw [Nat.pow_mul]; exact mr_lt h9) h9.1], hR⟩ d_Mod_ones_65
    · exact absurd hz (by decide)
  · refine nv_if_ne (tgt := 9) hC (by omega) d_Mod_ones_4 (by decide) (fun hz => ?_) (fun hz => ?_)
    · exact absurd rfl hz
    · refine lv_iconst (v := -1) hC.1 hC.2.1 d_Mod_ones_7 (by decide) ?_
      exact md_iret hC hK hM hr hlk ⟨by simp only [sp_ones, sp_ix_no hno] <;> rfl, hR⟩ d_Mod_ones_8
set_option maxHeartbeats 4000000 in
set_option maxRecDepth 100000 in
theorem lp_Mod_lowest {p : Program} {l : Launch} {e : Env} {R : Room} {s : State} {m : MethodId} {args : Array Value} {below : List Frame} {meth : Method} {c : Code} {Q : State → Prop} {D : va_G} {ad : Nat → Nat} {cA : ClassId} (hC : CallFix p m c b_Mod_lowest 3 s args lw_T R_Mod) (hK : va_K D classes (md_ty cA) s) (ln : Nat → Nat) (wd : Nat → Nat → Nat) (a A : Nat) (ha : a < 16) (h : mr_r 4096 (fun i => wd 0 (4096 * a + i)) (wd 1 a) A) (h0 : A ≠ 0) (hX : A < sp_L)
    (hex : ∀ (i : Nat), (A % 2 ^ i = 0) → (A / 2 ^ i % 2 = 1) → ∀ (H : Heap) (locs : List Loc) (ls : Array Slot), md_M D ad cA s (ln) (wd) H locs → lv_has ls 3 [(2, .int (nI (i)))] → W p l e R s m args below meth c H locs 0 0 Q (F0 m 50 ls [])) :
    ∀ (n : Nat) (i : Nat), (A % 2 ^ i = 0) → 65536 + 1 ≤ i + n → ∀ (H : Heap) (locs : List Loc) (ls : Array Slot), md_M D ad cA s (ln) (wd) H locs → lv_has ls 3 [(0, .ref (ad 5)), (1, .int (nI (a))), (2, .int (nI (i)))] → W p l e R s m args below meth c H locs 0 0 Q (F0 m 20 ls []) := by
  intro n
  induction n with
  | zero =>
    intro i hA hn
    exact absurd (mv_low_lt (n := 65536) hA h0 hX) (by omega)
  | succ n ih =>
    intro i hA hn H locs ls hM hl
    have hi2 : i < 65536 := mv_low_lt (n := 65536) hA h0 hX
    have d1 : wd 0 (4096 * a + i / 16) < 65536 := h.2.1 (i / 16) (by omega)
    have hs : i % 16 < 16 := Nat.mod_lt _ (by decide)
    have hq2 : wd 0 (4096 * a + i / 16) / 2 ^ (i % 16) ≤ wd 0 (4096 * a + i / 16) := Nat.div_le_self _ _
    have hb := mv_bit (n := 4096) (q := i) h.2.1 (by omega)
    rw [mr_v h h.1 (Nat.le_refl _)] at hb
    refine lv_aload_n hC.1 hC.2.1 d_Mod_lowest_20 rfl (lv_at hl 0 rfl) ?_
    refine md_f0 hC hK hM kf_Mod_8 d_Mod_lowest_21 ?_
    refine lv_sipush (v := nI 4096) hC.1 hC.2.1 d_Mod_lowest_24 (by decide) ?_
    refine lv_iload_n hC.1 hC.2.1 d_Mod_lowest_27 rfl (lv_at hl 1 rfl) ?_
    refine nv_imul hC d_Mod_lowest_28 ?_
    refine lv_iload_n hC.1 hC.2.1 d_Mod_lowest_29 rfl (lv_at hl 2 rfl) ?_
    refine lv_iconst (v := nI 4) hC.1 hC.2.1 d_Mod_lowest_30 (by decide) ?_
    refine nv_ishrp (q := 16) hC (by decide) (by omega) (by decide) d_Mod_lowest_31 ?_
    refine nv_iadd hC d_Mod_lowest_32 ?_
    refine md_ald hC hK hM (j := 0) (k := (4096 * a) + (i / 16)) (by decide) (md_lt0 (by omega)) d_Mod_lowest_33 ?_
    refine lv_iload_n hC.1 hC.2.1 d_Mod_lowest_34 rfl (lv_at hl 2 rfl) ?_
    refine lv_bipush (v := nI 15) hC.1 hC.2.1 d_Mod_lowest_35 (by decide) ?_
    refine nv_iandp (k := 4) (q := 16) hC (by decide) (by decide) (by omega) (by decide) d_Mod_lowest_37 ?_
    refine nv_ishr hC (by omega) (by omega) d_Mod_lowest_38 ?_
    refine lv_iconst (v := nI 1) hC.1 hC.2.1 d_Mod_lowest_39 (by decide) ?_
    refine nv_iandp (k := 1) (q := 2) hC (by decide) (by decide) (by omega) (by decide) d_Mod_lowest_40 ?_
    refine nv_if_ne (tgt := 50) hC (by omega) d_Mod_lowest_41 (by decide) (fun hz => ?_) (fun hz => ?_)
    · exact hex i hA (by rw [hb]; show wd 0 (4096 * a + i / 16) / 2 ^ (i % 16) % 2 = 1; omega) H locs ls hM (lv_sub hl [2] rfl)
    · refine lv_iinc (v := nI (i + 1)) (lv' := [(2, .int (nI (i + 1))), (0, .ref (ad 5)), (1, .int (nI (a)))]) hC.1 hC.2.1 d_Mod_lowest_44 hl (k := 2) rfl (nv_inc _) (by decide) rfl (fun ls hl => ?_)
      refine lv_goto (tgt := 20) hC.1 hC.2.1 d_Mod_lowest_47 (by decide) ?_
      exact ih (i + 1) (mv_low hA (by rw [hb]; exact hz)) (by omega) H locs ls hM (lv_sub hl [1, 2, 0] rfl)
set_option maxHeartbeats 4000000 in
set_option maxRecDepth 100000 in
theorem c_Mod_lowest (l : Launch) (D : va_G) (ad : Nat → Nat) (cA : ClassId) (sz : Nat) (ln : Nat → Nat) (wd : Nat → Nat → Nat) (N : Nat → Nat) (hR : md_R N wd) (x : Int32) : Met l y_Mod_lowest (Cond.code y_Mod_lowest b_Mod_lowest 3 (some .int) :: lw_T) ({ frames := 1, cells := 0, slots := 0, locals := 20 }) (va_Pc [.ref (ad 5), .int (x)] (md_B D ad cA sz ln wd)) (va_Qi (fun (r : Int32) (u : md_St) => r = sp_lowest N x ∧ md_R N u.2) (md_E D ad cA sz) (md_A ad sz)) 0 0 (md_A ad sz) := by
  refine md_met l (by decide) (Nat.le_of_ble_eq_true rfl) ?_
  intro p e s m below meth c ls hsz hC hK hr hlk hM hl
  subst hsz
  have hC : CallFix p m c b_Mod_lowest 3 s _ lw_T R_Mod := hC
  have hl : lv_has ls 3 [(0, .ref (ad 5)), (1, .int (x))] := hl
  have hR0 := hR
  refine lv_iload_n hC.1 hC.2.1 d_Mod_lowest_0 rfl (lv_at hl 1 rfl) ?_
  refine md_callPi hC hK hM (As := [.int (x)]) (rest := []) (c_Mod_isRegister l _ x) kc_Mod_isRegister km_Mod_41 ki_Mod ks_Mod_isRegister kd_Mod_isRegister ⟨rfl, rfl⟩ ⟨Nat.le_of_ble_eq_true rfl, Nat.le_of_ble_eq_true rfl⟩ rfl hl.1 (Nat.le_of_ble_eq_true rfl) d_Mod_lowest_1 (fun r H locs hp hM => ?_)
  rcases hp with ⟨a, ha, rfl, rfl⟩ | ⟨hno, rfl⟩
  · refine nv_if_eq (tgt := 16) hC (by omega) d_Mod_lowest_4 (by decide) (fun hz => ?_) (fun hz => ?_)
    · exact absurd hz (by decide)
    · have h9 := hR a ha
      have h1 := h9.1
      refine lv_aload_n hC.1 hC.2.1 d_Mod_lowest_7 rfl (lv_at hl 0 rfl) ?_
      refine md_f1 hC hK hM kf_Mod_14 d_Mod_lowest_8 ?_
      refine lv_iload_n hC.1 hC.2.1 d_Mod_lowest_11 rfl (lv_at hl 1 rfl) ?_
      refine md_ald hC hK hM (j := 1) (k := a) (by decide) (md_lt1 (by omega)) d_Mod_lowest_12 ?_
      refine nv_if_ne (tgt := 18) hC (by omega) d_Mod_lowest_13 (by decide) (fun hz => ?_) (fun hz => ?_)
      · have h0 : N a ≠ 0 := fun z => hz ((mr_0 h9).mpr z)
        refine lv_iconst (v := nI 0) hC.1 hC.2.1 d_Mod_lowest_18 (by decide) ?_
        refine lv_istore_n (lv' := [(2, .int (nI (0))), (0, .ref (ad 5)), (1, .int (nI (a)))]) hC.1 hC.2.1 d_Mod_lowest_19 rfl hl (by decide) rfl (fun ls hl => ?_)
        refine lp_Mod_lowest hC hK ln wd a _ ha h9 h0 (md_R_L hR ha) (fun i hi1 hi2 H locs ls hM hl => ?_) 65537 0 (Nat.mod_one _) (by omega) _ _ _ hM (lv_sub hl [1, 2, 0] rfl)
        refine lv_iload_n hC.1 hC.2.1 d_Mod_lowest_50 rfl (lv_at hl 0 rfl) ?_
        exact md_iret hC hK hM hr hlk ⟨by simp only [sp_lowest, sp_ix_ok ha]; rw [if_neg h0, sp_ct_of hi1 hi2], hR⟩ d_Mod_lowest_51
      · refine lv_iconst (v := -1) hC.1 hC.2.1 d_Mod_lowest_16 (by decide) ?_
        exact md_iret hC hK hM hr hlk ⟨by simp only [sp_lowest, sp_ix_ok ha]; rw [if_pos ((mr_0 h9).mp hz)], hR⟩ d_Mod_lowest_17
  · refine nv_if_eq (tgt := 16) hC (by omega) d_Mod_lowest_4 (by decide) (fun hz => ?_) (fun hz => ?_)
    · refine lv_iconst (v := -1) hC.1 hC.2.1 d_Mod_lowest_16 (by decide) ?_
      exact md_iret hC hK hM hr hlk ⟨by simp only [sp_lowest, sp_ix_no hno] <;> rfl, hR⟩ d_Mod_lowest_17
    · exact absurd rfl hz
set_option maxHeartbeats 4000000 in
set_option maxRecDepth 100000 in
theorem lp_Mod_rest {p : Program} {l : Launch} {e : Env} {R : Room} {s : State} {m : MethodId} {args : Array Value} {below : List Frame} {meth : Method} {c : Code} {Q : State → Prop} {D : va_G} {ad : Nat → Nat} {cA : ClassId} (hC : CallFix p m c b_Mod_rest 6 s args lw_T R_Mod) (hK : va_K D classes (md_ty cA) s) (ln : Nat → Nat) (wd : Nat → Nat → Nat) (a A k : Nat) (ha : a < 16) (hk0 : 0 < k) (hk : k < 2 ^ 31) (h : mr_r 4096 (fun i => wd 0 (4096 * a + i)) (wd 1 a) A)
    (hex : ∀ (v : Nat), (v = A % k) → ∀ (H : Heap) (locs : List Loc) (ls : Array Slot), md_M D ad cA s (ln) (wd) H locs → lv_has ls 6 [(3, .long (lN (v)))] → W p l e R s m args below meth c H locs 0 0 Q (F0 m 61 ls [])) :
    ∀ (n : Nat) (x : Nat) (v : Nat), (x ≤ wd 1 a) → (v = A / 65536 ^ x % k) → (v < k) → x + 1 ≤ n → ∀ (H : Heap) (locs : List Loc) (ls : Array Slot), md_M D ad cA s (ln) (wd) H locs → lv_has ls 6 [(0, .ref (ad 5)), (1, .int (nI (a))), (2, .int (nI (k))), (3, .long (lN (v))), (5, .int (nI (x) + (-1)))] → W p l e R s m args below meth c H locs 0 0 Q (F0 m 26 ls []) := by
  intro n
  induction n with
  | zero =>
    intro x v hx hv hv2 hn
    exact absurd hn (by omega)
  | succ n ih =>
    intro x v hx hv hv2 hn H locs ls hM hl
    have hn1 := h.1
    refine lv_iload hC.1 hC.2.1 d_Mod_rest_26 (lv_at hl 4 rfl) ?_
    refine nv_down_lt (tgt := 61) hC (by omega) d_Mod_rest_28 (by decide) (fun hz => ?_) (fun y hy => ?_)
    · subst hz
      exact hex v (by rw [hv, Nat.pow_zero, Nat.div_one]) H locs ls hM (lv_sub hl [3] rfl)
    · subst hy
      have hl : lv_has ls 6 [(0, .ref (ad 5)), (1, .int (nI (a))), (2, .int (nI (k))), (3, .long (lN (v))), (5, .int (nI (y)))] := by rw [pk_m1] at hl; exact hl
      have d1 : wd 0 (4096 * a + y) < 65536 := h.2.1 y (by omega)
      refine lv_lload_n hC.1 hC.2.1 d_Mod_rest_31 rfl (lv_at hl 3 rfl) ?_
      refine lv_ldc2 (v := lN 65536) hC.1 hC.2.1 hC.2.2.2.1 (hC.2.2.2.2 _ kl_Mod_81) d_Mod_rest_32 ?_
      refine nv_lmul hC d_Mod_rest_35 ?_
      refine lv_aload_n hC.1 hC.2.1 d_Mod_rest_36 rfl (lv_at hl 0 rfl) ?_
      refine md_f0 hC hK hM kf_Mod_8 d_Mod_rest_37 ?_
      refine lv_sipush (v := nI 4096) hC.1 hC.2.1 d_Mod_rest_40 (by decide) ?_
      refine lv_iload_n hC.1 hC.2.1 d_Mod_rest_43 rfl (lv_at hl 1 rfl) ?_
      refine nv_imul hC d_Mod_rest_44 ?_
      refine lv_iload hC.1 hC.2.1 d_Mod_rest_45 (lv_at hl 4 rfl) ?_
      refine nv_iadd hC d_Mod_rest_47 ?_
      refine md_ald hC hK hM (j := 0) (k := (4096 * a) + y) (by decide) (md_lt0 (by omega)) d_Mod_rest_48 ?_
      refine nv_i2l hC (by omega) d_Mod_rest_49 ?_
      refine nv_ladd hC d_Mod_rest_50 ?_
      refine lv_iload_n hC.1 hC.2.1 d_Mod_rest_51 rfl (lv_at hl 2 rfl) ?_
      refine nv_i2l hC (by omega) d_Mod_rest_52 ?_
      refine nv_lrem hC (md_small hv2 hk d1) hk0 (by omega) d_Mod_rest_53 ?_
      refine lv_lstore_n (lv' := [(3, .long (lN (((v * 65536) + (wd 0 ((4096 * a) + y))) % k))), (0, .ref (ad 5)), (1, .int (nI (a))), (2, .int (nI (k))), (5, .int (nI (y)))]) hC.1 hC.2.1 d_Mod_rest_54 rfl hl (by decide) rfl (fun ls hl => ?_)
      refine lv_iinc (v := nI (y) + (-1)) (lv' := [(5, .int (nI (y) + (-1))), (3, .long (lN (((v * 65536) + (wd 0 ((4096 * a) + y))) % k))), (0, .ref (ad 5)), (1, .int (nI (a))), (2, .int (nI (k)))]) hC.1 hC.2.1 d_Mod_rest_55 hl (k := 4) rfl (rfl) (by decide) rfl (fun ls hl => ?_)
      refine lv_goto (tgt := 26) hC.1 hC.2.1 d_Mod_rest_58 (by decide) ?_
      exact ih y _ (by omega) (by
        have hdg := mv_dig (n := 4096) h.2.1 (show y < 4096 by omega)
        rw [mr_v h h.1 (Nat.le_refl _)] at hdg
        have hst := mv_rest (m := k) hdg
        rw [← hv] at hst
        exact hst) (Nat.mod_lt _ hk0) (by omega) H locs ls hM (lv_sub hl [2, 3, 4, 1, 0] rfl)
set_option maxHeartbeats 4000000 in
set_option maxRecDepth 100000 in
theorem c_Mod_rest (l : Launch) (D : va_G) (ad : Nat → Nat) (cA : ClassId) (sz : Nat) (ln : Nat → Nat) (wd : Nat → Nat → Nat) (N : Nat → Nat) (hR : md_R N wd) (x m0 : Int32) : Met l y_Mod_rest (Cond.code y_Mod_rest b_Mod_rest 6 (some .int) :: lw_T) ({ frames := 1, cells := 0, slots := 0, locals := 20 }) (va_Pc [.ref (ad 5), .int (x), .int (m0)] (md_B D ad cA sz ln wd)) (va_Qi (fun (r : Int32) (u : md_St) => r = sp_rest N x m0 ∧ md_R N u.2) (md_E D ad cA sz) (md_A ad sz)) 0 0 (md_A ad sz) := by
  refine md_met l (by decide) (Nat.le_of_ble_eq_true rfl) ?_
  intro p e s m below meth c ls hsz hC hK hr hlk hM hl
  subst hsz
  have hC : CallFix p m c b_Mod_rest 6 s _ lw_T R_Mod := hC
  have hl : lv_has ls 6 [(0, .ref (ad 5)), (1, .int (x)), (2, .int (m0))] := hl
  have hR0 := hR
  refine lv_iload_n hC.1 hC.2.1 d_Mod_rest_0 rfl (lv_at hl 1 rfl) ?_
  refine md_callPi hC hK hM (As := [.int (x)]) (rest := []) (c_Mod_isRegister l _ x) kc_Mod_isRegister km_Mod_41 ki_Mod ks_Mod_isRegister kd_Mod_isRegister ⟨rfl, rfl⟩ ⟨Nat.le_of_ble_eq_true rfl, Nat.le_of_ble_eq_true rfl⟩ rfl hl.1 (Nat.le_of_ble_eq_true rfl) d_Mod_rest_1 (fun r H locs hp hM => ?_)
  rcases hp with ⟨a, ha, rfl, rfl⟩ | ⟨hno, rfl⟩
  · refine nv_if_eq (tgt := 12) hC (by omega) d_Mod_rest_4 (by decide) (fun hz => ?_) (fun hz => ?_)
    · exact absurd hz (by decide)
    · have h9 := hR a ha
      have h1 := h9.1
      refine lv_iload_n hC.1 hC.2.1 d_Mod_rest_7 rfl (lv_at hl 2 rfl) ?_
      refine lv_iconst (v := nI 1) hC.1 hC.2.1 d_Mod_rest_8 (by decide) ?_
      refine lv_icmp_ge (tgt := 14) hC.1 hC.2.1 d_Mod_rest_9 (by decide) (fun hm => ?_) (fun hm => ?_)
      · obtain ⟨k, hk, rfl⟩ := nI_of (x := m0) (fun z => absurd (Int32.lt_of_le_of_lt hm z) (by decide))
        have hk0 : 0 < k := by
          have := (nI_leI (by decide) hk).mp hm
          omega
        have h00 : (0 : Nat) = N a / 65536 ^ (wd 1 a) % k := by rw [Nat.div_eq_of_lt (mr_lt h9), Nat.zero_mod]
        refine lv_lconst (v := lN 0) hC.1 hC.2.1 d_Mod_rest_14 (by decide) ?_
        refine lv_lstore_n (lv' := [(3, .long (lN (0))), (0, .ref (ad 5)), (1, .int (nI (a))), (2, .int (nI (k)))]) hC.1 hC.2.1 d_Mod_rest_15 rfl hl (by decide) rfl (fun ls hl => ?_)
        refine lv_aload_n hC.1 hC.2.1 d_Mod_rest_16 rfl (lv_at hl 1 rfl) ?_
        refine md_f1 hC hK hM kf_Mod_14 d_Mod_rest_17 ?_
        refine lv_iload_n hC.1 hC.2.1 d_Mod_rest_20 rfl (lv_at hl 2 rfl) ?_
        refine md_ald hC hK hM (j := 1) (k := a) (by decide) (md_lt1 (by omega)) d_Mod_rest_21 ?_
        refine lv_iconst (v := nI 1) hC.1 hC.2.1 d_Mod_rest_22 (by decide) ?_
        refine nv_isub1 hC d_Mod_rest_23 ?_
        refine lv_istore (lv' := [(5, .int (nI (wd 1 a) + (-1))), (3, .long (lN (0))), (0, .ref (ad 5)), (1, .int (nI (a))), (2, .int (nI (k)))]) hC.1 hC.2.1 d_Mod_rest_24 hl (by decide) rfl (fun ls hl => ?_)
        refine lp_Mod_rest hC hK ln wd a _ k ha hk0 hk h9 (fun v hv H locs ls hM hl => ?_) (wd 1 a + 1) (wd 1 a) 0 (Nat.le_refl _) h00 hk0 (Nat.le_refl _) _ _ _ hM (lv_sub hl [2, 3, 4, 1, 0] rfl)
        refine lv_lload_n hC.1 hC.2.1 d_Mod_rest_61 rfl (lv_at hl 0 rfl) ?_
        refine nv_l2i hC d_Mod_rest_62 ?_
        exact md_iret hC hK hM hr hlk ⟨by simp only [sp_rest, sp_ix_ok ha]; rw [if_neg (Int32.not_lt.mpr hm), nI_clamp hk, hv], hR⟩ d_Mod_rest_63
      · refine lv_iconst (v := -1) hC.1 hC.2.1 d_Mod_rest_12 (by decide) ?_
        exact md_iret hC hK hM hr hlk ⟨by simp only [sp_rest, sp_ix_ok ha]; rw [if_pos (Int32.not_le.mp hm)], hR⟩ d_Mod_rest_13
  · refine nv_if_eq (tgt := 12) hC (by omega) d_Mod_rest_4 (by decide) (fun hz => ?_) (fun hz => ?_)
    · refine lv_iconst (v := -1) hC.1 hC.2.1 d_Mod_rest_12 (by decide) ?_
      exact md_iret hC hK hM hr hlk ⟨by simp only [sp_rest, sp_ix_no hno] <;> rfl, hR⟩ d_Mod_rest_13
    · exact absurd rfl hz
