set_option maxHeartbeats 4000000 in
set_option maxRecDepth 100000 in
theorem lp_Rows_takeMultiple {p : Program} {l : Launch} {e : Env} {R : Room} {s : State} {m : MethodId} {args : Array Value} {below : List Frame} {meth : Method} {c : Code} {Q : State → Prop} {D : va_G} {ad : Nat → Nat} {cA cR : ClassId} (hC : CallFix p m c b_Rows_takeMultiple 12 s args lw_T R_Rows) (hK : va_K D classes (wm_ty cA cR) s) (ln : Nat → Nat) (wd : Nat → Nat → Int32) (i j a0 fr cnt F : Nat) (hi : i < 19) (hj : j < 19) (hji : j ≠ i) (hF : F < 4294967296) (hfit : a0 + cnt ≤ 2050) (hfit2 : fr + cnt ≤ 2050)
    (hex : ∀ (cy : Nat) (f : Nat → Int32), (wm_v (wm_off f a0) cnt + F * wm_v (wm_off (wd j) fr) cnt = wm_v (wm_off (wd i) a0) cnt + cy * 4294967296 ^ cnt) → (cy ≤ F) → (∀ q, (q < a0 ∨ a0 + cnt ≤ q) → f q = wd i q) → ∀ (H : Heap) (locs : List Loc) (ls : Array Slot), wm_M D ad cA cR s (ln) (va_up wd i f) H locs → lv_has ls 12 [(0, .ref (ad (19 + i))), (1, .int (nI (a0))), (2, .ref (ad (19 + j))), (3, .int (nI (fr))), (4, .int (nI (cnt))), (5, .long (lN (F))), (7, .long (lN (cy))), (9, .int (nI (cnt)))] → W p l e R s m args below meth c H locs 0 0 Q (F0 m 80 ls [])) :
    ∀ (n : Nat) (k : Nat) (cy : Nat) (f : Nat → Int32), (k ≤ cnt) → (wm_v (wm_off f a0) k + F * wm_v (wm_off (wd j) fr) k = wm_v (wm_off (wd i) a0) k + cy * 4294967296 ^ k) → (cy ≤ F) → (∀ q, (q < a0 ∨ a0 + k ≤ q) → f q = wd i q) → cnt + 1 ≤ k + n → ∀ (H : Heap) (locs : List Loc) (ls : Array Slot), wm_M D ad cA cR s (ln) (va_up wd i f) H locs → lv_has ls 12 [(0, .ref (ad (19 + i))), (1, .int (nI (a0))), (2, .ref (ad (19 + j))), (3, .int (nI (fr))), (4, .int (nI (cnt))), (5, .long (lN (F))), (7, .long (lN (cy))), (9, .int (nI (k)))] → W p l e R s m args below meth c H locs 0 0 Q (F0 m 6 ls []) := by
  intro n
  induction n with
  | zero =>
    intro k cy f hk hS hc hf hn
    exact absurd hn (by omega)
  | succ n ih =>
    intro k cy f hk hS hc hf hn H locs ls hM hl
    have hu1 := wm_u_lt (wd j (fr + k))
    have hu2 := wm_u_lt (f (a0 + k))
    have hq : F * wm_u (wd j (fr + k)) ≤ F * 4294967295 := Nat.mul_le_mul_left _ (by omega)
    have hw := wm_tword (t := wm_u (f (a0 + k))) (b := cy + F * wm_u (wd j (fr + k))) hu2
    refine lv_iload hC.1 hC.2.1 d_Rows_takeMultiple_6 (lv_at hl 7 rfl) ?_
    refine lv_iload hC.1 hC.2.1 d_Rows_takeMultiple_8 (lv_at hl 4 rfl) ?_
    refine nv_icmp_ge (tgt := 80) hC (by omega) (by omega) d_Rows_takeMultiple_10 (by decide) (fun hc2 => ?_) (fun hc2 => ?_)
    · have ek : k = cnt := by omega
      subst ek
      exact hex cy f hS hc hf H locs ls hM (lv_sub hl [0, 1, 2, 3, 4, 5, 6, 7] rfl)
    · refine lv_lload hC.1 hC.2.1 d_Rows_takeMultiple_13 (lv_at hl 6 rfl) ?_
      refine lv_lload hC.1 hC.2.1 d_Rows_takeMultiple_15 (lv_at hl 5 rfl) ?_
      refine lv_aload_n hC.1 hC.2.1 d_Rows_takeMultiple_17 rfl (lv_at hl 2 rfl) ?_
      refine lv_iload_n hC.1 hC.2.1 d_Rows_takeMultiple_18 rfl (lv_at hl 3 rfl) ?_
      refine lv_iload hC.1 hC.2.1 d_Rows_takeMultiple_19 (lv_at hl 7 rfl) ?_
      refine nv_iadd hC d_Rows_takeMultiple_21 ?_
      refine wm_ald_o hC hK hM (j := j) (k := fr + k) hj hji (by omega) d_Rows_takeMultiple_22 ?_
      refine nv_low hC kl_Rows_9 d_Rows_takeMultiple_23 d_Rows_takeMultiple_24 d_Rows_takeMultiple_27 ?_
      refine nv_lmul hC d_Rows_takeMultiple_28 ?_
      refine nv_ladd hC d_Rows_takeMultiple_29 ?_
      refine lv_lstore (lv' := [(7, .long (lN (cy + (F * (wm_u (wd j (fr + k))))))), (0, .ref (ad (19 + i))), (1, .int (nI (a0))), (2, .ref (ad (19 + j))), (3, .int (nI (fr))), (4, .int (nI (cnt))), (5, .long (lN (F))), (9, .int (nI (k)))]) hC.1 hC.2.1 d_Rows_takeMultiple_30 hl (by decide) rfl (fun ls hl => ?_)
      refine lv_aload_n hC.1 hC.2.1 d_Rows_takeMultiple_32 rfl (lv_at hl 1 rfl) ?_
      refine lv_iload_n hC.1 hC.2.1 d_Rows_takeMultiple_33 rfl (lv_at hl 2 rfl) ?_
      refine lv_iload hC.1 hC.2.1 d_Rows_takeMultiple_34 (lv_at hl 7 rfl) ?_
      refine nv_iadd hC d_Rows_takeMultiple_36 ?_
      refine wm_ald_s hC hK hM (k := a0 + k) hi (by omega) d_Rows_takeMultiple_37 ?_
      refine nv_low hC kl_Rows_9 d_Rows_takeMultiple_38 d_Rows_takeMultiple_39 d_Rows_takeMultiple_42 ?_
      refine lv_lload hC.1 hC.2.1 d_Rows_takeMultiple_43 (lv_at hl 0 rfl) ?_
      refine lv_ldc2 (v := lN 4294967295) hC.1 hC.2.1 hC.2.2.2.1 (hC.2.2.2.2 _ kl_Rows_9) d_Rows_takeMultiple_45 ?_
      refine lv_land hC.1 hC.2.1 d_Rows_takeMultiple_48 ?_
      refine nv_topl (y := lN ((cy + (F * (wm_u (wd j (fr + k))))) % 4294967296)) (wm_lowL (by omega)) ?_
      refine nz_lsubn hC d_Rows_takeMultiple_49 ?_
      refine lv_lstore (lv' := [(10, .long (lz_i (((wm_u (f (a0 + k)) : Nat) : Int) - (((cy + (F * (wm_u (wd j (fr + k))))) % 4294967296 : Nat) : Int)))), (7, .long (lN (cy + (F * (wm_u (wd j (fr + k))))))), (0, .ref (ad (19 + i))), (1, .int (nI (a0))), (2, .ref (ad (19 + j))), (3, .int (nI (fr))), (4, .int (nI (cnt))), (5, .long (lN (F))), (9, .int (nI (k)))]) hC.1 hC.2.1 d_Rows_takeMultiple_50 hl (by decide) rfl (fun ls hl => ?_)
      refine lv_aload_n hC.1 hC.2.1 d_Rows_takeMultiple_52 rfl (lv_at hl 2 rfl) ?_
      refine lv_iload_n hC.1 hC.2.1 d_Rows_takeMultiple_53 rfl (lv_at hl 3 rfl) ?_
      refine lv_iload hC.1 hC.2.1 d_Rows_takeMultiple_54 (lv_at hl 8 rfl) ?_
      refine nv_iadd hC d_Rows_takeMultiple_56 ?_
      refine lv_lload hC.1 hC.2.1 d_Rows_takeMultiple_57 (lv_at hl 0 rfl) ?_
      refine nz_l2i hC d_Rows_takeMultiple_59 ?_
      refine wm_ast_s hC hK hM (k := a0 + k) hi (by omega) d_Rows_takeMultiple_60 (fun H locs hM => ?_)
      refine lv_lload hC.1 hC.2.1 d_Rows_takeMultiple_61 (lv_at hl 1 rfl) ?_
      refine lv_bipush (v := nI 32) hC.1 hC.2.1 d_Rows_takeMultiple_63 (by decide) ?_
      refine nv_lushr32 hC (by omega) d_Rows_takeMultiple_65 ?_
      refine lv_lload hC.1 hC.2.1 d_Rows_takeMultiple_66 (lv_at hl 0 rfl) ?_
      refine lv_bipush (v := nI 63) hC.1 hC.2.1 d_Rows_takeMultiple_68 (by decide) ?_
      refine nz_63 hC (by omega) (by omega) d_Rows_takeMultiple_70 ?_
      refine nv_ladd hC d_Rows_takeMultiple_71 ?_
      refine lv_lstore (lv' := [(7, .long (lN (((cy + (F * (wm_u (wd j (fr + k))))) / 4294967296) + (if ((wm_u (f (a0 + k)) : Nat) : Int) - (((cy + (F * (wm_u (wd j (fr + k))))) % 4294967296 : Nat) : Int) < 0 then 1 else 0)))), (10, .long (lz_i (((wm_u (f (a0 + k)) : Nat) : Int) - (((cy + (F * (wm_u (wd j (fr + k))))) % 4294967296 : Nat) : Int)))), (0, .ref (ad (19 + i))), (1, .int (nI (a0))), (2, .ref (ad (19 + j))), (3, .int (nI (fr))), (4, .int (nI (cnt))), (5, .long (lN (F))), (9, .int (nI (k)))]) hC.1 hC.2.1 d_Rows_takeMultiple_72 hl (by decide) rfl (fun ls hl => ?_)
      refine lv_iinc (v := nI (k + 1)) (lv' := [(9, .int (nI (k + 1))), (7, .long (lN (((cy + (F * (wm_u (wd j (fr + k))))) / 4294967296) + (if ((wm_u (f (a0 + k)) : Nat) : Int) - (((cy + (F * (wm_u (wd j (fr + k))))) % 4294967296 : Nat) : Int) < 0 then 1 else 0)))), (10, .long (lz_i (((wm_u (f (a0 + k)) : Nat) : Int) - (((cy + (F * (wm_u (wd j (fr + k))))) % 4294967296 : Nat) : Int)))), (0, .ref (ad (19 + i))), (1, .int (nI (a0))), (2, .ref (ad (19 + j))), (3, .int (nI (fr))), (4, .int (nI (cnt))), (5, .long (lN (F)))]) hC.1 hC.2.1 d_Rows_takeMultiple_74 hl (k := 8) rfl (nv_inc _) (by decide) rfl (fun ls hl => ?_)
      refine lv_goto (tgt := 6) hC.1 hC.2.1 d_Rows_takeMultiple_77 (by decide) ?_
      exact ih (k + 1) ((cy + F * wm_u (wd j (fr + k))) / 4294967296 + (if ((wm_u (f (a0 + k)) : Nat) : Int) - (((cy + F * wm_u (wd j (fr + k))) % 4294967296 : Nat) : Int) < 0 then 1 else 0)) (upd f (a0 + k) (Int32.ofInt (((wm_u (f (a0 + k)) : Nat) : Int) - (((cy + F * wm_u (wd j (fr + k))) % 4294967296 : Nat) : Int)))) (by omega) (by
        rw [wm_off_upd, wm_v_upds, lz_u, wm_v_s, wm_v_s, Nat.mul_add, ← Nat.mul_assoc, Nat.pow_succ, show wm_off (wd i) a0 k = f (a0 + k) from (hf (a0 + k) (Or.inr (Nat.le_refl _))).symm]
        refine wm_bstep hS ?_
        rw [Nat.add_assoc, Nat.add_comm (F * wm_u (wm_off (wd j) fr k)) cy]
        exact hw) (by omega) (fun q hq => by rw [pk_un (by omega)]; exact hf q (by omega)) (by omega) H locs ls hM (lv_sub hl [3, 4, 5, 6, 7, 8, 1, 0] rfl)
set_option maxHeartbeats 4000000 in
set_option maxRecDepth 100000 in
theorem c_Rows_takeMultiple (l : Launch) (D : va_G) (ad : Nat → Nat) (cA cR : ClassId) (sz : Nat) (ln : Nat → Nat) (wd : Nat → Nat → Int32) (i j a0 fr cnt F : Nat) (hi : i < 19) (hj : j < 19) (hji : j ≠ i) (hF : F < 4294967296) (hfit : a0 + cnt ≤ 2050) (hfit2 : fr + cnt ≤ 2050) : Met l y_Rows_takeMultiple (Cond.code y_Rows_takeMultiple b_Rows_takeMultiple 12 (some .long) :: lw_T) ({ frames := 0, cells := 0, slots := 0, locals := 0 }) (va_Pc [.ref (ad (19 + i)), .int (nI (a0)), .ref (ad (19 + j)), .int (nI (fr)), .int (nI (cnt)), .long (lN (F))] (wm_B D ad cA cR sz ln wd)) (va_Ql (fun (r : Int64) (u : wm_St) => ∃ (cy : Nat) (f : Nat → Int32), r = lN cy ∧ u = (ln, va_up wd i f) ∧ wm_v (wm_off f a0) cnt + F * wm_v (wm_off (wd j) fr) cnt = wm_v (wm_off (wd i) a0) cnt + cy * 4294967296 ^ cnt ∧ cy ≤ F ∧ ∀ q, (q < a0 ∨ a0 + cnt ≤ q) → f q = wd i q) (wm_E D ad cA cR sz) (wm_A ad sz)) 0 0 (wm_A ad sz) := by
  refine wm_met l (by decide) (Nat.le_of_ble_eq_true rfl) ?_
  intro p e s m below meth c ls hsz hC hK hr hlk hM hl
  subst hsz
  have hC : CallFix p m c b_Rows_takeMultiple 12 s _ lw_T R_Rows := hC
  have hl : lv_has ls 12 [(0, .ref (ad (19 + i))), (1, .int (nI (a0))), (2, .ref (ad (19 + j))), (3, .int (nI (fr))), (4, .int (nI (cnt))), (5, .long (lN (F)))] := hl
  refine lv_lconst (v := lN 0) hC.1 hC.2.1 d_Rows_takeMultiple_0 (by decide) ?_
  refine lv_lstore (lv' := [(7, .long (lN (0))), (0, .ref (ad (19 + i))), (1, .int (nI (a0))), (2, .ref (ad (19 + j))), (3, .int (nI (fr))), (4, .int (nI (cnt))), (5, .long (lN (F)))]) hC.1 hC.2.1 d_Rows_takeMultiple_1 hl (by decide) rfl (fun ls hl => ?_)
  refine lv_iconst (v := nI 0) hC.1 hC.2.1 d_Rows_takeMultiple_3 (by decide) ?_
  refine lv_istore (lv' := [(9, .int (nI (0))), (7, .long (lN (0))), (0, .ref (ad (19 + i))), (1, .int (nI (a0))), (2, .ref (ad (19 + j))), (3, .int (nI (fr))), (4, .int (nI (cnt))), (5, .long (lN (F)))]) hC.1 hC.2.1 d_Rows_takeMultiple_4 hl (by decide) rfl (fun ls hl => ?_)
  have hM : wm_M D ad cA cR s (ln) (va_up wd i (wd i)) s.heap [] := by
    rw [wm_eta]; exact hM
  refine lp_Rows_takeMultiple hC hK ln wd i j a0 fr cnt F hi hj hji hF hfit hfit2 (fun cy f hS hc hf H locs ls hM hl => ?_) (cnt + 1) 0 0 (wd i) (Nat.zero_le _) (by simp [wm_v_0]) (Nat.zero_le _) (fun _ _ => rfl) (by omega) _ _ _ hM (lv_sub hl [2, 3, 4, 5, 6, 7, 1, 0] rfl)
  refine lv_lload hC.1 hC.2.1 d_Rows_takeMultiple_80 (lv_at hl 6 rfl) ?_
  exact wm_lret hC hK hM hr hlk ⟨cy, f, rfl, rfl, hS, hc, hf⟩ d_Rows_takeMultiple_82
set_option maxHeartbeats 4000000 in
set_option maxRecDepth 100000 in
theorem lp_Rows_addStretch {p : Program} {l : Launch} {e : Env} {R : Room} {s : State} {m : MethodId} {args : Array Value} {below : List Frame} {meth : Method} {c : Code} {Q : State → Prop} {D : va_G} {ad : Nat → Nat} {cA cR : ClassId} (hC : CallFix p m c b_Rows_addStretch 10 s args lw_T R_Rows) (hK : va_K D classes (wm_ty cA cR) s) (ln : Nat → Nat) (wd : Nat → Nat → Int32) (i j a0 fr cnt F : Nat) (hi : i < 19) (hj : j < 19) (hji : j ≠ i) (hF : F < 2 ^ 34) (hfit : a0 + cnt ≤ 2050) (hfit2 : fr + cnt ≤ 2050)
    (hex : ∀ (cy : Nat) (f : Nat → Int32), (wm_v (wm_off f a0) cnt + cy * 4294967296 ^ cnt = wm_v (wm_off (wd i) a0) cnt + wm_v (wm_off (wd j) fr) cnt + F) → (cy < 2 ^ 34) → (∀ q, (q < a0 ∨ a0 + cnt ≤ q) → f q = wd i q) → ∀ (H : Heap) (locs : List Loc) (ls : Array Slot), wm_M D ad cA cR s (ln) (va_up wd i f) H locs → lv_has ls 10 [(0, .ref (ad (19 + i))), (1, .int (nI (a0))), (2, .ref (ad (19 + j))), (3, .int (nI (fr))), (4, .int (nI (cnt))), (7, .long (lN (cy))), (9, .int (nI (cnt)))] → W p l e R s m args below meth c H locs 0 0 Q (F0 m 64 ls [])) :
    ∀ (n : Nat) (k : Nat) (cy : Nat) (f : Nat → Int32), (k ≤ cnt) → (wm_v (wm_off f a0) k + cy * 4294967296 ^ k = wm_v (wm_off (wd i) a0) k + wm_v (wm_off (wd j) fr) k + F) → (cy < 2 ^ 34) → (∀ q, (q < a0 ∨ a0 + k ≤ q) → f q = wd i q) → cnt + 1 ≤ k + n → ∀ (H : Heap) (locs : List Loc) (ls : Array Slot), wm_M D ad cA cR s (ln) (va_up wd i f) H locs → lv_has ls 10 [(0, .ref (ad (19 + i))), (1, .int (nI (a0))), (2, .ref (ad (19 + j))), (3, .int (nI (fr))), (4, .int (nI (cnt))), (7, .long (lN (cy))), (9, .int (nI (k)))] → W p l e R s m args below meth c H locs 0 0 Q (F0 m 7 ls []) := by
  intro n
  induction n with
  | zero =>
    intro k cy f hk hS hc hf hn
    exact absurd hn (by omega)
  | succ n ih =>
    intro k cy f hk hS hc hf hn H locs ls hM hl
    have hu1 := wm_u_lt (wd j (fr + k))
    have hu2 := wm_u_lt (f (a0 + k))
    refine lv_iload hC.1 hC.2.1 d_Rows_addStretch_7 (lv_at hl 6 rfl) ?_
    refine lv_iload hC.1 hC.2.1 d_Rows_addStretch_9 (lv_at hl 4 rfl) ?_
    refine nv_icmp_ge (tgt := 64) hC (by omega) (by omega) d_Rows_addStretch_11 (by decide) (fun hc2 => ?_) (fun hc2 => ?_)
    · have ek : k = cnt := by omega
      subst ek
      exact hex cy f hS hc hf H locs ls hM (lv_sub hl [0, 1, 2, 3, 4, 5, 6] rfl)
    · refine lv_lload hC.1 hC.2.1 d_Rows_addStretch_14 (lv_at hl 5 rfl) ?_
      refine lv_aload_n hC.1 hC.2.1 d_Rows_addStretch_16 rfl (lv_at hl 0 rfl) ?_
      refine lv_iload_n hC.1 hC.2.1 d_Rows_addStretch_17 rfl (lv_at hl 1 rfl) ?_
      refine lv_iload hC.1 hC.2.1 d_Rows_addStretch_18 (lv_at hl 6 rfl) ?_
      refine nv_iadd hC d_Rows_addStretch_20 ?_
      refine wm_ald_s hC hK hM (k := a0 + k) hi (by omega) d_Rows_addStretch_21 ?_
      refine nv_low hC kl_Rows_9 d_Rows_addStretch_22 d_Rows_addStretch_23 d_Rows_addStretch_26 ?_
      refine lv_aload_n hC.1 hC.2.1 d_Rows_addStretch_27 rfl (lv_at hl 2 rfl) ?_
      refine lv_iload_n hC.1 hC.2.1 d_Rows_addStretch_28 rfl (lv_at hl 3 rfl) ?_
      refine lv_iload hC.1 hC.2.1 d_Rows_addStretch_29 (lv_at hl 6 rfl) ?_
      refine nv_iadd hC d_Rows_addStretch_31 ?_
      refine wm_ald_o hC hK hM (j := j) (k := fr + k) hj hji (by omega) d_Rows_addStretch_32 ?_
      refine nv_low hC kl_Rows_9 d_Rows_addStretch_33 d_Rows_addStretch_34 d_Rows_addStretch_37 ?_
      refine nv_ladd hC d_Rows_addStretch_38 ?_
      refine nv_ladd hC d_Rows_addStretch_39 ?_
      refine lv_lstore (lv' := [(7, .long (lN (cy + ((wm_u (f (a0 + k))) + (wm_u (wd j (fr + k))))))), (0, .ref (ad (19 + i))), (1, .int (nI (a0))), (2, .ref (ad (19 + j))), (3, .int (nI (fr))), (4, .int (nI (cnt))), (9, .int (nI (k)))]) hC.1 hC.2.1 d_Rows_addStretch_40 hl (by decide) rfl (fun ls hl => ?_)
      refine lv_aload_n hC.1 hC.2.1 d_Rows_addStretch_42 rfl (lv_at hl 1 rfl) ?_
      refine lv_iload_n hC.1 hC.2.1 d_Rows_addStretch_43 rfl (lv_at hl 2 rfl) ?_
      refine lv_iload hC.1 hC.2.1 d_Rows_addStretch_44 (lv_at hl 6 rfl) ?_
      refine nv_iadd hC d_Rows_addStretch_46 ?_
      refine lv_lload hC.1 hC.2.1 d_Rows_addStretch_47 (lv_at hl 0 rfl) ?_
      refine nv_l2i hC d_Rows_addStretch_49 ?_
      refine wm_ast_s hC hK hM (k := a0 + k) hi (by omega) d_Rows_addStretch_50 (fun H locs hM => ?_)
      refine lv_lload hC.1 hC.2.1 d_Rows_addStretch_51 (lv_at hl 0 rfl) ?_
      refine lv_bipush (v := nI 32) hC.1 hC.2.1 d_Rows_addStretch_53 (by decide) ?_
      refine nv_lushr32 hC (by omega) d_Rows_addStretch_55 ?_
      refine lv_lstore (lv' := [(7, .long (lN ((cy + ((wm_u (f (a0 + k))) + (wm_u (wd j (fr + k))))) / 4294967296))), (0, .ref (ad (19 + i))), (1, .int (nI (a0))), (2, .ref (ad (19 + j))), (3, .int (nI (fr))), (4, .int (nI (cnt))), (9, .int (nI (k)))]) hC.1 hC.2.1 d_Rows_addStretch_56 hl (by decide) rfl (fun ls hl => ?_)
      refine lv_iinc (v := nI (k + 1)) (lv' := [(9, .int (nI (k + 1))), (7, .long (lN ((cy + ((wm_u (f (a0 + k))) + (wm_u (wd j (fr + k))))) / 4294967296))), (0, .ref (ad (19 + i))), (1, .int (nI (a0))), (2, .ref (ad (19 + j))), (3, .int (nI (fr))), (4, .int (nI (cnt)))]) hC.1 hC.2.1 d_Rows_addStretch_58 hl (k := 6) rfl (nv_inc _) (by decide) rfl (fun ls hl => ?_)
      refine lv_goto (tgt := 7) hC.1 hC.2.1 d_Rows_addStretch_61 (by decide) ?_
      exact ih (k + 1) ((cy + (wm_u (f (a0 + k)) + wm_u (wd j (fr + k)))) / 4294967296) (upd f (a0 + k) (nI (cy + (wm_u (f (a0 + k)) + wm_u (wd j (fr + k)))))) (by omega) (by
        have h := wm_chain (d := wm_u (f (a0 + k)) + wm_u (wd j (fr + k))) hS
        rw [wm_off_upd, h, wm_v_s, wm_v_s, Nat.add_mul, show wm_off (wd i) a0 k = f (a0 + k) from (hf (a0 + k) (Or.inr (Nat.le_refl _))).symm, show wm_off (wd j) fr k = wd j (fr + k) from rfl]
        omega) (by omega) (fun q hq => by rw [pk_un (by omega)]; exact hf q (by omega)) (by omega) H locs ls hM (lv_sub hl [2, 3, 4, 5, 6, 1, 0] rfl)
set_option maxHeartbeats 4000000 in
set_option maxRecDepth 100000 in
theorem c_Rows_addStretch (l : Launch) (D : va_G) (ad : Nat → Nat) (cA cR : ClassId) (sz : Nat) (ln : Nat → Nat) (wd : Nat → Nat → Int32) (i j a0 fr cnt F : Nat) (hi : i < 19) (hj : j < 19) (hji : j ≠ i) (hF : F < 2 ^ 34) (hfit : a0 + cnt ≤ 2050) (hfit2 : fr + cnt ≤ 2050) : Met l y_Rows_addStretch (Cond.code y_Rows_addStretch b_Rows_addStretch 10 (some .long) :: lw_T) ({ frames := 0, cells := 0, slots := 0, locals := 0 }) (va_Pc [.ref (ad (19 + i)), .int (nI (a0)), .ref (ad (19 + j)), .int (nI (fr)), .int (nI (cnt)), .long (lN (F))] (wm_B D ad cA cR sz ln wd)) (va_Ql (fun (r : Int64) (u : wm_St) => ∃ (cy : Nat) (f : Nat → Int32), r = lN cy ∧ u = (ln, va_up wd i f) ∧ wm_v (wm_off f a0) cnt + cy * 4294967296 ^ cnt = wm_v (wm_off (wd i) a0) cnt + wm_v (wm_off (wd j) fr) cnt + F ∧ cy < 2 ^ 34 ∧ ∀ q, (q < a0 ∨ a0 + cnt ≤ q) → f q = wd i q) (wm_E D ad cA cR sz) (wm_A ad sz)) 0 0 (wm_A ad sz) := by
  refine wm_met l (by decide) (Nat.le_of_ble_eq_true rfl) ?_
  intro p e s m below meth c ls hsz hC hK hr hlk hM hl
  subst hsz
  have hC : CallFix p m c b_Rows_addStretch 10 s _ lw_T R_Rows := hC
  have hl : lv_has ls 10 [(0, .ref (ad (19 + i))), (1, .int (nI (a0))), (2, .ref (ad (19 + j))), (3, .int (nI (fr))), (4, .int (nI (cnt))), (5, .long (lN (F)))] := hl
  refine lv_lload hC.1 hC.2.1 d_Rows_addStretch_0 (lv_at hl 5 rfl) ?_
  refine lv_lstore (lv' := [(7, .long (lN (F))), (0, .ref (ad (19 + i))), (1, .int (nI (a0))), (2, .ref (ad (19 + j))), (3, .int (nI (fr))), (4, .int (nI (cnt))), (5, .long (lN (F)))]) hC.1 hC.2.1 d_Rows_addStretch_2 hl (by decide) rfl (fun ls hl => ?_)
  refine lv_iconst (v := nI 0) hC.1 hC.2.1 d_Rows_addStretch_4 (by decide) ?_
  refine lv_istore (lv' := [(9, .int (nI (0))), (7, .long (lN (F))), (0, .ref (ad (19 + i))), (1, .int (nI (a0))), (2, .ref (ad (19 + j))), (3, .int (nI (fr))), (4, .int (nI (cnt))), (5, .long (lN (F)))]) hC.1 hC.2.1 d_Rows_addStretch_5 hl (by decide) rfl (fun ls hl => ?_)
  have hM : wm_M D ad cA cR s (ln) (va_up wd i (wd i)) s.heap [] := by
    rw [wm_eta]; exact hM
  refine lp_Rows_addStretch hC hK ln wd i j a0 fr cnt F hi hj hji hF hfit hfit2 (fun cy f hS hc hf H locs ls hM hl => ?_) (cnt + 1) 0 F (wd i) (Nat.zero_le _) (by simp [wm_v_0]) hF (fun _ _ => rfl) (by omega) _ _ _ hM (lv_sub hl [2, 3, 4, 5, 6, 1, 0] rfl)
  refine lv_lload hC.1 hC.2.1 d_Rows_addStretch_64 (lv_at hl 5 rfl) ?_
  exact wm_lret hC hK hM hr hlk ⟨cy, f, rfl, rfl, hS, hc, hf⟩ d_Rows_addStretch_66
