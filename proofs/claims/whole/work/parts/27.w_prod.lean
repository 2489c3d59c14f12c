set_option maxHeartbeats 4000000 in
set_option maxRecDepth 100000 in
theorem lp_Rows_addMultiple {p : Program} {l : Launch} {e : Env} {R : Room} {s : State} {m : MethodId} {args : Array Value} {below : List Frame} {meth : Method} {c : Code} {Q : State → Prop} {D : va_G} {ad : Nat → Nat} {cA cR : ClassId} (hC : CallFix p m c b_Rows_addMultiple 9 s args lw_T R_Rows) (hK : va_K D classes (wm_ty cA cR) s) (ln : Nat → Nat) (wd : Nat → Nat → Int32) (i j a0 cnt F : Nat) (hi : i < 19) (hj : j < 19) (hji : j ≠ i) (hF : F < 4294967296) (hfit : a0 + cnt ≤ 2050)
    (hex : ∀ (cy : Nat) (f : Nat → Int32), (wm_v (wm_off f a0) cnt + cy * 4294967296 ^ cnt = wm_v (wm_off (wd i) a0) cnt + F * wm_v (wd j) cnt) → (cy < 4294967296) → (∀ q, (q < a0 ∨ a0 + cnt ≤ q) → f q = wd i q) → ∀ (H : Heap) (locs : List Loc) (ls : Array Slot), wm_M D ad cA cR s (ln) (va_up wd i f) H locs → lv_has ls 9 [(0, .ref (ad (19 + i))), (1, .int (nI (a0))), (2, .ref (ad (19 + j))), (3, .int (nI (cnt))), (4, .long (lN (F))), (6, .long (lN (cy))), (8, .int (nI (cnt)))] → W p l e R s m args below meth c H locs 0 0 Q (F0 m 63 ls [])) :
    ∀ (n : Nat) (k : Nat) (cy : Nat) (f : Nat → Int32), (k ≤ cnt) → (wm_v (wm_off f a0) k + cy * 4294967296 ^ k = wm_v (wm_off (wd i) a0) k + F * wm_v (wd j) k) → (cy < 4294967296) → (∀ q, (q < a0 ∨ a0 + k ≤ q) → f q = wd i q) → cnt + 1 ≤ k + n → ∀ (H : Heap) (locs : List Loc) (ls : Array Slot), wm_M D ad cA cR s (ln) (va_up wd i f) H locs → lv_has ls 9 [(0, .ref (ad (19 + i))), (1, .int (nI (a0))), (2, .ref (ad (19 + j))), (3, .int (nI (cnt))), (4, .long (lN (F))), (6, .long (lN (cy))), (8, .int (nI (k)))] → W p l e R s m args below meth c H locs 0 0 Q (F0 m 6 ls []) := by
  intro n
  induction n with
  | zero =>
    intro k cy f hk hS hc hf hn
    exact absurd hn (by omega)
  | succ n ih =>
    intro k cy f hk hS hc hf hn H locs ls hM hl
    have hu1 := wm_u_lt (wd j k)
    have hu2 := wm_u_lt (f (a0 + k))
    have hq : F * wm_u (wd j k) ≤ 4294967295 * 4294967295 := Nat.mul_le_mul (by omega) (by omega)
    refine lv_iload hC.1 hC.2.1 d_Rows_addMultiple_6 (lv_at hl 6 rfl) ?_
    refine lv_iload_n hC.1 hC.2.1 d_Rows_addMultiple_8 rfl (lv_at hl 3 rfl) ?_
    refine nv_icmp_ge (tgt := 63) hC (by omega) (by omega) d_Rows_addMultiple_9 (by decide) (fun hc2 => ?_) (fun hc2 => ?_)
    · have ek : k = cnt := by omega
      subst ek
      exact hex cy f hS hc hf H locs ls hM (lv_sub hl [0, 1, 2, 3, 4, 5, 6] rfl)
    · refine lv_lload hC.1 hC.2.1 d_Rows_addMultiple_12 (lv_at hl 5 rfl) ?_
      refine lv_lload hC.1 hC.2.1 d_Rows_addMultiple_14 (lv_at hl 4 rfl) ?_
      refine lv_aload_n hC.1 hC.2.1 d_Rows_addMultiple_16 rfl (lv_at hl 2 rfl) ?_
      refine lv_iload hC.1 hC.2.1 d_Rows_addMultiple_17 (lv_at hl 6 rfl) ?_
      refine wm_ald_o hC hK hM (j := j) (k := k) hj hji (by omega) d_Rows_addMultiple_19 ?_
      refine nv_low hC kl_Rows_9 d_Rows_addMultiple_20 d_Rows_addMultiple_21 d_Rows_addMultiple_24 ?_
      refine nv_lmul hC d_Rows_addMultiple_25 ?_
      refine lv_aload_n hC.1 hC.2.1 d_Rows_addMultiple_26 rfl (lv_at hl 0 rfl) ?_
      refine lv_iload_n hC.1 hC.2.1 d_Rows_addMultiple_27 rfl (lv_at hl 1 rfl) ?_
      refine lv_iload hC.1 hC.2.1 d_Rows_addMultiple_28 (lv_at hl 6 rfl) ?_
      refine nv_iadd hC d_Rows_addMultiple_30 ?_
      refine wm_ald_s hC hK hM (k := a0 + k) hi (by omega) d_Rows_addMultiple_31 ?_
      refine nv_low hC kl_Rows_9 d_Rows_addMultiple_32 d_Rows_addMultiple_33 d_Rows_addMultiple_36 ?_
      refine nv_ladd hC d_Rows_addMultiple_37 ?_
      refine nv_ladd hC d_Rows_addMultiple_38 ?_
      refine lv_lstore (lv' := [(6, .long (lN (cy + ((F * (wm_u (wd j k))) + (wm_u (f (a0 + k))))))), (0, .ref (ad (19 + i))), (1, .int (nI (a0))), (2, .ref (ad (19 + j))), (3, .int (nI (cnt))), (4, .long (lN (F))), (8, .int (nI (k)))]) hC.1 hC.2.1 d_Rows_addMultiple_39 hl (by decide) rfl (fun ls hl => ?_)
      refine lv_aload_n hC.1 hC.2.1 d_Rows_addMultiple_41 rfl (lv_at hl 1 rfl) ?_
      refine lv_iload_n hC.1 hC.2.1 d_Rows_addMultiple_42 rfl (lv_at hl 2 rfl) ?_
      refine lv_iload hC.1 hC.2.1 d_Rows_addMultiple_43 (lv_at hl 6 rfl) ?_
      refine nv_iadd hC d_Rows_addMultiple_45 ?_
      refine lv_lload hC.1 hC.2.1 d_Rows_addMultiple_46 (lv_at hl 0 rfl) ?_
      refine nv_l2i hC d_Rows_addMultiple_48 ?_
      refine wm_ast_s hC hK hM (k := a0 + k) hi (by omega) d_Rows_addMultiple_49 (fun H locs hM => ?_)
      refine lv_lload hC.1 hC.2.1 d_Rows_addMultiple_50 (lv_at hl 0 rfl) ?_
      refine lv_bipush (v := nI 32) hC.1 hC.2.1 d_Rows_addMultiple_52 (by decide) ?_
      refine nv_lushr32 hC (by omega) d_Rows_addMultiple_54 ?_
      refine lv_lstore (lv' := [(6, .long (lN ((cy + ((F * (wm_u (wd j k))) + (wm_u (f (a0 + k))))) / 4294967296))), (0, .ref (ad (19 + i))), (1, .int (nI (a0))), (2, .ref (ad (19 + j))), (3, .int (nI (cnt))), (4, .long (lN (F))), (8, .int (nI (k)))]) hC.1 hC.2.1 d_Rows_addMultiple_55 hl (by decide) rfl (fun ls hl => ?_)
      refine lv_iinc (v := nI (k + 1)) (lv' := [(8, .int (nI (k + 1))), (6, .long (lN ((cy + ((F * (wm_u (wd j k))) + (wm_u (f (a0 + k))))) / 4294967296))), (0, .ref (ad (19 + i))), (1, .int (nI (a0))), (2, .ref (ad (19 + j))), (3, .int (nI (cnt))), (4, .long (lN (F)))]) hC.1 hC.2.1 d_Rows_addMultiple_57 hl (k := 6) rfl (nv_inc _) (by decide) rfl (fun ls hl => ?_)
      refine lv_goto (tgt := 6) hC.1 hC.2.1 d_Rows_addMultiple_60 (by decide) ?_
      exact ih (k + 1) ((cy + (F * wm_u (wd j k) + wm_u (f (a0 + k)))) / 4294967296) (upd f (a0 + k) (nI (cy + (F * wm_u (wd j k) + wm_u (f (a0 + k)))))) (by omega) (by
        have h := wm_chain (d := F * wm_u (wd j k) + wm_u (f (a0 + k))) hS
        rw [wm_off_upd, h, wm_v_s, wm_v_s, Nat.add_mul, Nat.mul_add, Nat.mul_assoc, show wm_off (wd i) a0 k = f (a0 + k) from (hf (a0 + k) (Or.inr (Nat.le_refl _))).symm]
        omega) (by omega) (fun j hj => by rw [pk_un (by omega)]; exact hf j (by omega)) (by omega) H locs ls hM (lv_sub hl [2, 3, 4, 5, 6, 1, 0] rfl)
set_option maxHeartbeats 4000000 in
set_option maxRecDepth 100000 in
theorem c_Rows_addMultiple (l : Launch) (D : va_G) (ad : Nat → Nat) (cA cR : ClassId) (sz : Nat) (ln : Nat → Nat) (wd : Nat → Nat → Int32) (i j a0 cnt F : Nat) (hi : i < 19) (hj : j < 19) (hji : j ≠ i) (hF : F < 4294967296) (hfit : a0 + cnt ≤ 2050) : Met l y_Rows_addMultiple (Cond.code y_Rows_addMultiple b_Rows_addMultiple 9 (some .long) :: lw_T) ({ frames := 0, cells := 0, slots := 0, locals := 0 }) (va_Pc [.ref (ad (19 + i)), .int (nI (a0)), .ref (ad (19 + j)), .int (nI (cnt)), .long (lN (F))] (wm_B D ad cA cR sz ln wd)) (va_Ql (fun (r : Int64) (u : wm_St) => ∃ (cy : Nat) (f : Nat → Int32), r = lN cy ∧ u = (ln, va_up wd i f) ∧ wm_v (wm_off f a0) cnt + cy * 4294967296 ^ cnt = wm_v (wm_off (wd i) a0) cnt + F * wm_v (wd j) cnt ∧ cy < 4294967296 ∧ ∀ q, (q < a0 ∨ a0 + cnt ≤ q) → f q = wd i q) (wm_E D ad cA cR sz) (wm_A ad sz)) 0 0 (wm_A ad sz) := by
  refine wm_met l (by decide) (Nat.le_of_ble_eq_true rfl) ?_
  intro p e s m below meth c ls hsz hC hK hr hlk hM hl
  subst hsz
  have hC : CallFix p m c b_Rows_addMultiple 9 s _ lw_T R_Rows := hC
  have hl : lv_has ls 9 [(0, .ref (ad (19 + i))), (1, .int (nI (a0))), (2, .ref (ad (19 + j))), (3, .int (nI (cnt))), (4, .long (lN (F)))] := hl
  refine lv_lconst (v := lN 0) hC.1 hC.2.1 d_Rows_addMultiple_0 (by decide) ?_
  refine lv_lstore (lv' := [(6, .long (lN (0))), (0, .ref (ad (19 + i))), (1, .int (nI (a0))), (2, .ref (ad (19 + j))), (3, .int (nI (cnt))), (4, .long (lN (F)))]) hC.1 hC.2.1 d_Rows_addMultiple_1 hl (by decide) rfl (fun ls hl => ?_)
  refine lv_iconst (v := nI 0) hC.1 hC.2.1 d_Rows_addMultiple_3 (by decide) ?_
  refine lv_istore (lv' := [(8, .int (nI (0))), (6, .long (lN (0))), (0, .ref (ad (19 + i))), (1, .int (nI (a0))), (2, .ref (ad (19 + j))), (3, .int (nI (cnt))), (4, .long (lN (F)))]) hC.1 hC.2.1 d_Rows_addMultiple_4 hl (by decide) rfl (fun ls hl => ?_)
  have hM : wm_M D ad cA cR s (ln) (va_up wd i (wd i)) s.heap [] := by
    rw [wm_eta]; exact hM
  refine lp_Rows_addMultiple hC hK ln wd i j a0 cnt F hi hj hji hF hfit (fun cy f hS hc hf H locs ls hM hl => ?_) (cnt + 1) 0 0 (wd i) (Nat.zero_le _) rfl (by decide) (fun _ _ => rfl) (by omega) _ _ _ hM (lv_sub hl [2, 3, 4, 5, 6, 1, 0] rfl)
  refine lv_lload hC.1 hC.2.1 d_Rows_addMultiple_63 (lv_at hl 5 rfl) ?_
  exact wm_lret hC hK hM hr hlk ⟨cy, f, rfl, rfl, hS, hc, hf⟩ d_Rows_addMultiple_65
set_option maxHeartbeats 4000000 in
set_option maxRecDepth 100000 in
theorem lp_Whole_becomeProduct {p : Program} {l : Launch} {e : Env} {s : State} {m : MethodId} {args : Array Value} {below : List Frame} {meth : Method} {c : Code} {Q : State → Prop} {D : va_G} {ad : Nat → Nat} {cA cR : ClassId} (hC : CallFix p m c b_Whole_becomeProduct 6 s args lw_T R_Whole) (hK : va_K D classes (wm_ty cA cR) s) (ln : Nat → Nat) (wd : Nat → Nat → Int32) (i a b Nb : Nat) (hi : i < 19) (ha : a < 19) (hb : b < 19) (hai : a ≠ i) (hbi : b ≠ i) (hrb : wm_rep (wd b) (ln b) Nb) (hfit : ln a + ln b ≤ 2049)
    (hex : ∀ (f : Nat → Int32), (wm_v f (ln a + ln b) = wm_v (wd a) (ln a) * Nb) → (∀ q, ln a + ln b ≤ q → q < 2050 → f q = 0) → ∀ (H : Heap) (locs : List Loc) (ls : Array Slot), wm_M D ad cA cR s (va_up ln i 0) (va_up wd i f) H locs → lv_has ls 6 [(0, .ref (ad i)), (1, .ref (ad a)), (2, .ref (ad b))] → W p l e ({ frames := 2, cells := 0, slots := 0, locals := 42 }) s m args below meth c H locs 0 0 Q (F0 m 72 ls [])) :
    ∀ (n : Nat) (k : Nat) (f : Nat → Int32), (k ≤ ln a) → (wm_v f (k + ln b) = wm_v (wd a) k * Nb) → (∀ q, k + ln b ≤ q → q < 2050 → f q = 0) → ln a + 1 ≤ k + n → ∀ (H : Heap) (locs : List Loc) (ls : Array Slot), wm_M D ad cA cR s (va_up ln i 0) (va_up wd i f) H locs → lv_has ls 6 [(0, .ref (ad i)), (1, .ref (ad a)), (2, .ref (ad b)), (3, .int (nI (k)))] → W p l e ({ frames := 2, cells := 0, slots := 0, locals := 42 }) s m args below meth c H locs 0 0 Q (F0 m 6 ls []) := by
  intro n
  induction n with
  | zero =>
    intro k f hk hS hf hn
    exact absurd hn (by omega)
  | succ n ih =>
    intro k f hk hS hf hn H locs ls hM hl
    refine lv_iload_n hC.1 hC.2.1 d_Whole_becomeProduct_6 rfl (lv_at hl 3 rfl) ?_
    refine lv_aload_n hC.1 hC.2.1 d_Whole_becomeProduct_7 rfl (lv_at hl 1 rfl) ?_
    refine wm_len hC hK hM (j := a) ha kf_Whole_15 d_Whole_becomeProduct_8 ?_
    refine nv_top (y := nI (ln a)) (by rw [va_up_ne _ _ hai]) ?_
    refine nv_icmp_ge (tgt := 72) hC (by omega) (by omega) d_Whole_becomeProduct_11 (by decide) (fun hc2 => ?_) (fun hc2 => ?_)
    · have ek : k = ln a := by omega
      subst ek
      exact hex f hS hf H locs ls hM (lv_sub hl [0, 1, 2] rfl)
    · refine lv_aload_n hC.1 hC.2.1 d_Whole_becomeProduct_14 rfl (lv_at hl 1 rfl) ?_
      refine wm_wds hC hK hM (j := a) ha kf_Whole_9 d_Whole_becomeProduct_15 ?_
      refine lv_iload_n hC.1 hC.2.1 d_Whole_becomeProduct_18 rfl (lv_at hl 3 rfl) ?_
      refine wm_ald_o hC hK hM (j := a) (k := k) ha hai (by omega) d_Whole_becomeProduct_19 ?_
      refine lv_if_eq (tgt := 66) hC.1 hC.2.1 d_Whole_becomeProduct_20 (by decide) (fun hz => ?_) (fun hz => ?_)
      · refine lv_iinc (v := nI (k + 1)) (lv' := [(3, .int (nI (k + 1))), (0, .ref (ad i)), (1, .ref (ad a)), (2, .ref (ad b))]) hC.1 hC.2.1 d_Whole_becomeProduct_66 hl (k := 3) rfl (nv_inc _) (by decide) rfl (fun ls hl => ?_)
        refine lv_goto (tgt := 6) hC.1 hC.2.1 d_Whole_becomeProduct_69 (by decide) ?_
        exact ih (k + 1) f (by omega) (by
        have e := wm_v_z (f := f) (m := k + ln b) 1 (fun q h1 h2 => hf q h1 (by omega))
        rw [show k + 1 + ln b = k + ln b + 1 by omega, e, hS, wm_v_s, hz, wm_u_0, Nat.zero_mul, Nat.add_zero]) (fun q h1 h2 => hf q (by omega) h2) (by omega) H locs ls hM (lv_sub hl [1, 2, 3, 0] rfl)
      · refine lv_aload_n hC.1 hC.2.1 d_Whole_becomeProduct_23 rfl (lv_at hl 0 rfl) ?_
        refine wm_wds hC hK hM (j := i) hi kf_Whole_9 d_Whole_becomeProduct_24 ?_
        refine lv_iload_n hC.1 hC.2.1 d_Whole_becomeProduct_27 rfl (lv_at hl 3 rfl) ?_
        refine lv_aload_n hC.1 hC.2.1 d_Whole_becomeProduct_28 rfl (lv_at hl 2 rfl) ?_
        refine wm_wds hC hK hM (j := b) hb kf_Whole_9 d_Whole_becomeProduct_29 ?_
        refine lv_aload_n hC.1 hC.2.1 d_Whole_becomeProduct_32 rfl (lv_at hl 2 rfl) ?_
        refine wm_len hC hK hM (j := b) hb kf_Whole_15 d_Whole_becomeProduct_33 ?_
        refine nv_top (y := nI (ln b)) (by rw [va_up_ne _ _ hbi]) ?_
        refine lv_aload_n hC.1 hC.2.1 d_Whole_becomeProduct_36 rfl (lv_at hl 1 rfl) ?_
        refine wm_wds hC hK hM (j := a) ha kf_Whole_9 d_Whole_becomeProduct_37 ?_
        refine lv_iload_n hC.1 hC.2.1 d_Whole_becomeProduct_40 rfl (lv_at hl 3 rfl) ?_
        refine wm_ald_o hC hK hM (j := a) (k := k) ha hai (by omega) d_Whole_becomeProduct_41 ?_
        refine nv_low hC kl_Whole_35 d_Whole_becomeProduct_42 d_Whole_becomeProduct_43 d_Whole_becomeProduct_46 ?_
        refine wm_callSl hC hK hM (As := [.ref (ad (19 + i)), .int (nI (k)), .ref (ad (19 + b)), .int (nI (ln b)), .long (lN (wm_u (wd a k)))]) (rest := []) (c_Rows_addMultiple l D ad cA cR _ (va_up ln i 0) (va_up wd i f) i b k (ln b) (wm_u (wd a k)) hi hb hbi (wm_u_lt _) (by omega)) kc_Rows_addMultiple km_Whole_40 ki_Rows ks_Rows_addMultiple kd_Rows_addMultiple ⟨rfl, rfl⟩ ⟨Nat.le_of_ble_eq_true rfl, Nat.le_of_ble_eq_true rfl⟩ rfl hl.1 (Nat.le_of_ble_eq_true rfl) d_Whole_becomeProduct_47 (fun r u H locs hp hM => ?_)
        obtain ⟨cy, f2, rfl, rfl, hS2, hc2, hf2⟩ := hp
        rw [va_up_self] at hS2 hf2
        have hM : wm_M D ad cA cR s (va_up ln i 0) (va_up wd i f2) H locs := by rw [wm_uu] at hM; exact hM
        rw [va_up_ne _ _ hbi] at hS2
        refine lv_lstore (lv' := [(4, .long (lN (cy))), (0, .ref (ad i)), (1, .ref (ad a)), (2, .ref (ad b)), (3, .int (nI (k)))]) hC.1 hC.2.1 d_Whole_becomeProduct_50 hl (by decide) rfl (fun ls hl => ?_)
        refine lv_aload_n hC.1 hC.2.1 d_Whole_becomeProduct_52 rfl (lv_at hl 1 rfl) ?_
        refine wm_wds hC hK hM (j := i) hi kf_Whole_9 d_Whole_becomeProduct_53 ?_
        refine lv_iload_n hC.1 hC.2.1 d_Whole_becomeProduct_56 rfl (lv_at hl 4 rfl) ?_
        refine lv_aload_n hC.1 hC.2.1 d_Whole_becomeProduct_57 rfl (lv_at hl 3 rfl) ?_
        refine wm_len hC hK hM (j := b) hb kf_Whole_15 d_Whole_becomeProduct_58 ?_
        refine nv_top (y := nI (ln b)) (by rw [va_up_ne _ _ hbi]) ?_
        refine nv_iadd hC d_Whole_becomeProduct_61 ?_
        refine lv_lload hC.1 hC.2.1 d_Whole_becomeProduct_62 (lv_at hl 0 rfl) ?_
        refine nv_l2i hC d_Whole_becomeProduct_64 ?_
        refine wm_ast_s hC hK hM (k := k + (ln b)) hi (by omega) d_Whole_becomeProduct_65 (fun H locs hM => ?_)
        refine lv_iinc (v := nI (k + 1)) (lv' := [(3, .int (nI (k + 1))), (4, .long (lN (cy))), (0, .ref (ad i)), (1, .ref (ad a)), (2, .ref (ad b))]) hC.1 hC.2.1 d_Whole_becomeProduct_66 hl (k := 4) rfl (nv_inc _) (by decide) rfl (fun ls hl => ?_)
        refine lv_goto (tgt := 6) hC.1 hC.2.1 d_Whole_becomeProduct_69 (by decide) ?_
        exact ih (k + 1) (upd f2 (k + ln b) (nI (cy))) (by omega) (by
        rw [show k + 1 + ln b = k + (ln b + 1) by omega, wm_v_off, wm_off_upd, wm_v_upds, wm_un' hc2, hS2, wm_v_upd (by omega), wm_v_congr (f := f2) (g := f) (fun q hq => hf2 q (Or.inl hq)), Nat.mul_add, ← Nat.add_assoc, ← wm_v_off, hS, wm_v_s, Nat.add_mul, hrb.2.2.2, Nat.mul_left_comm, Nat.mul_assoc]) (fun q h1 h2 => by rw [pk_un (by omega), hf2 q (Or.inr (by omega))]; exact hf q (by omega) h2) (by omega) H locs ls hM (lv_sub hl [2, 3, 4, 0] rfl)
set_option maxHeartbeats 4000000 in
set_option maxRecDepth 100000 in
theorem c_Whole_becomeProduct (l : Launch) (D : va_G) (ad : Nat → Nat) (cA cR : ClassId) (sz : Nat) (ln : Nat → Nat) (wd : Nat → Nat → Int32) (i a b Na Nb : Nat) (hi : i < 19) (ha : a < 19) (hb : b < 19) (hai : a ≠ i) (hbi : b ≠ i) (hz : wm_ze (wd i) (ln i)) (hra : wm_rep (wd a) (ln a) Na) (hrb : wm_rep (wd b) (ln b) Nb) (hfit : ln a + ln b ≤ 2049) : Met l y_Whole_becomeProduct (Cond.code y_Whole_becomeProduct b_Whole_becomeProduct 6 none :: lw_T) ({ frames := 2, cells := 0, slots := 0, locals := 42 }) (va_Pc [.ref (ad i), .ref (ad a), .ref (ad b)] (wm_B D ad cA cR sz ln wd)) (va_Qv (fun u : wm_St => wm_up i (Na * Nb) ln wd u) (wm_E D ad cA cR sz) (wm_A ad sz)) 0 0 (wm_A ad sz) := by
  refine wm_met l (by decide) (Nat.le_of_ble_eq_true rfl) ?_
  intro p e s m below meth c ls hsz hC hK hr hlk hM hl
  subst hsz
  have hC : CallFix p m c b_Whole_becomeProduct 6 s _ lw_T R_Whole := hC
  have hl : lv_has ls 6 [(0, .ref (ad i)), (1, .ref (ad a)), (2, .ref (ad b))] := hl
  have hz1 := hz.1
  refine lv_aload_n hC.1 hC.2.1 d_Whole_becomeProduct_0 rfl (lv_at hl 0 rfl) ?_
  refine wm_callVv hC hK hM (As := []) (rest := []) (wm_at_o hi) rfl (c_Whole_clear l D ad cA cR _ ln wd i hi hz.1) kc_Whole_clear km_Whole_37 ki_Whole kn_Whole_clear ke_Whole_clear kd_Whole_clear ⟨rfl, rfl⟩ ⟨Nat.le_of_ble_eq_true rfl, Nat.le_of_ble_eq_true rfl⟩ rfl hl.1 (Nat.le_of_ble_eq_true rfl) d_Whole_becomeProduct_1 (fun u H locs hp hM => ?_)
  subst hp
  have hM : wm_M D ad cA cR s (va_up ln i 0) (va_up wd i (wm_clr (wd i) 0 (ln i))) H locs := by
    exact hM
  have h0 : ∀ q, q < 2050 → wm_clr (wd i) 0 (ln i) q = 0 := fun j h2 => by
    by_cases h3 : j < ln i
    · exact wm_clr_in (Nat.zero_le _) h3
    · rw [wm_clr_hi (by omega)]; exact hz.2 j (by omega) h2
  refine lv_iconst (v := nI 0) hC.1 hC.2.1 d_Whole_becomeProduct_4 (by decide) ?_
  refine lv_istore_n (lv' := [(3, .int (nI (0))), (0, .ref (ad i)), (1, .ref (ad a)), (2, .ref (ad b))]) hC.1 hC.2.1 d_Whole_becomeProduct_5 rfl hl (by decide) rfl (fun ls hl => ?_)
  refine lp_Whole_becomeProduct hC hK ln wd i a b Nb hi ha hb hai hbi hrb hfit (fun f hS hf H locs ls hM hl => ?_) (ln a + 1) 0 (wm_clr (wd i) 0 (ln i)) (Nat.zero_le _) (by
    have e := wm_v_z (f := wm_clr (wd i) 0 (ln i)) (m := 0) (ln b) (fun q _ h2 => h0 q (by omega))
    rw [e, wm_v_0, wm_v_0, Nat.zero_mul]) (fun q _ h2 => h0 q h2) (by omega) _ _ _ hM (lv_sub hl [1, 2, 3, 0] rfl)
  refine lv_aload_n hC.1 hC.2.1 d_Whole_becomeProduct_72 rfl (lv_at hl 0 rfl) ?_
  refine lv_aload_n hC.1 hC.2.1 d_Whole_becomeProduct_73 rfl (lv_at hl 1 rfl) ?_
  refine wm_len hC hK hM (j := a) ha kf_Whole_15 d_Whole_becomeProduct_74 ?_
  refine nv_top (y := nI (ln a)) (by rw [va_up_ne _ _ hai]) ?_
  refine lv_aload_n hC.1 hC.2.1 d_Whole_becomeProduct_77 rfl (lv_at hl 2 rfl) ?_
  refine wm_len hC hK hM (j := b) hb kf_Whole_15 d_Whole_becomeProduct_78 ?_
  refine nv_top (y := nI (ln b)) (by rw [va_up_ne _ _ hbi]) ?_
  refine nv_iadd hC d_Whole_becomeProduct_81 ?_
  refine wm_callVv hC hK hM (As := [.int (nI ((ln a) + (ln b)))]) (rest := []) (wm_at_o hi) rfl (c_Whole_settle l D ad cA cR _ (va_up ln i 0) (va_up wd i f) i (ln a + ln b) hi (by rw [va_up_self]; omega) (by omega)) kc_Whole_settle km_Whole_19 ki_Whole kn_Whole_settle ke_Whole_settle kd_Whole_settle ⟨rfl, rfl⟩ ⟨Nat.le_of_ble_eq_true rfl, Nat.le_of_ble_eq_true rfl⟩ rfl hl.1 (Nat.le_of_ble_eq_true rfl) d_Whole_becomeProduct_82 (fun u H locs hp hM => ?_)
  refine wm_vret hC hK hM hr hlk ?_ d_Whole_becomeProduct_85
  rw [va_up_self, va_up_self, wm_uu, wm_uu] at hp
  refine wm_up_of hp (by omega) (fun k h3 h4 h5 => hf k h3 h5) ?_
  rw [hS, hra.2.2.2]
