set_option maxHeartbeats 4000000 in
set_option maxRecDepth 100000 in
theorem lp_Whole_countOnes {p : Program} {l : Launch} {e : Env} {s : State} {m : MethodId} {args : Array Value} {below : List Frame} {meth : Method} {c : Code} {Q : State → Prop} {D : va_G} {ad : Nat → Nat} {cA cR : ClassId} (hC : CallFix p m c b_Whole_countOnes 3 s args lw_T R_Whole) (hK : va_K D classes (wm_ty cA cR) s) (ln : Nat → Nat) (wd : Nat → Nat → Int32) (i : Nat) (hi : i < 19) (hn : ln i ≤ 2050)
    (hex : ∀ (H : Heap) (locs : List Loc) (ls : Array Slot), wm_M D ad cA cR s (ln) (wd) H locs → lv_has ls 3 [(1, .int (nI (wm_ons (wd i) (ln i))))] → W p l e ({ frames := 1, cells := 0, slots := 0, locals := 20 }) s m args below meth c H locs 0 0 Q (F0 m 30 ls [])) :
    ∀ (n : Nat) (k : Nat), (k ≤ ln i) → ln i + 1 ≤ k + n → ∀ (H : Heap) (locs : List Loc) (ls : Array Slot), wm_M D ad cA cR s (ln) (wd) H locs → lv_has ls 3 [(0, .ref (ad i)), (1, .int (nI (wm_ons (wd i) k))), (2, .int (nI (k)))] → W p l e ({ frames := 1, cells := 0, slots := 0, locals := 20 }) s m args below meth c H locs 0 0 Q (F0 m 4 ls []) := by
  intro n
  induction n with
  | zero =>
    intro k hk hn9
    exact absurd hn9 (by omega)
  | succ n ih =>
    intro k hk hn9 H locs ls hM hl
    refine lv_iload_n hC.1 hC.2.1 d_Whole_countOnes_4 rfl (lv_at hl 2 rfl) ?_
    refine lv_aload_n hC.1 hC.2.1 d_Whole_countOnes_5 rfl (lv_at hl 0 rfl) ?_
    refine wm_len hC hK hM (j := i) hi kf_Whole_15 d_Whole_countOnes_6 ?_
    refine nv_icmp_ge (tgt := 30) hC (by omega) (by omega) d_Whole_countOnes_9 (by decide) (fun hc => ?_) (fun hc => ?_)
    · have ek : k = ln i := by omega
      subst ek
      exact hex H locs ls hM (lv_sub hl [1] rfl)
    · refine lv_iload_n hC.1 hC.2.1 d_Whole_countOnes_12 rfl (lv_at hl 1 rfl) ?_
      refine lv_aload_n hC.1 hC.2.1 d_Whole_countOnes_13 rfl (lv_at hl 0 rfl) ?_
      refine wm_wds hC hK hM (j := i) hi kf_Whole_9 d_Whole_countOnes_14 ?_
      refine lv_iload_n hC.1 hC.2.1 d_Whole_countOnes_17 rfl (lv_at hl 2 rfl) ?_
      refine wm_ald hC hK hM (j := i) (k := k) hi (by omega) d_Whole_countOnes_18 ?_
      refine wm_callPi hC hK hM (As := [.int (wd i k)]) (rest := [.int (nI (wm_ons (wd i) k))]) (c_Int_bitCount l _ (wd i k)) kc_Int_bitCount km_Whole_56 ki_Int ks_Int_bitCount kd_Int_bitCount ⟨rfl, rfl⟩ ⟨Nat.le_of_ble_eq_true rfl, Nat.le_of_ble_eq_true rfl⟩ rfl hl.1 (Nat.le_of_ble_eq_true rfl) d_Whole_countOnes_19 (fun r H locs hp hM => ?_)
      subst hp
      refine nv_iadd hC d_Whole_countOnes_22 ?_
      refine lv_istore_n (lv' := [(1, .int (nI ((wm_ons (wd i) k) + (wm_on (wm_u (wd i k)) 32)))), (0, .ref (ad i)), (2, .int (nI (k)))]) hC.1 hC.2.1 d_Whole_countOnes_23 rfl hl (by decide) rfl (fun ls hl => ?_)
      refine lv_iinc (v := nI (k + 1)) (lv' := [(2, .int (nI (k + 1))), (1, .int (nI ((wm_ons (wd i) k) + (wm_on (wm_u (wd i k)) 32)))), (0, .ref (ad i))]) hC.1 hC.2.1 d_Whole_countOnes_24 hl (k := 2) rfl (nv_inc _) (by decide) rfl (fun ls hl => ?_)
      refine lv_goto (tgt := 4) hC.1 hC.2.1 d_Whole_countOnes_27 (by decide) ?_
      exact ih (k + 1) (by omega) (by omega) H locs ls hM (lv_sub hl [2, 1, 0] rfl)
set_option maxHeartbeats 4000000 in
set_option maxRecDepth 100000 in
theorem c_Whole_countOnes (l : Launch) (D : va_G) (ad : Nat → Nat) (cA cR : ClassId) (sz : Nat) (ln : Nat → Nat) (wd : Nat → Nat → Int32) (i N : Nat) (hi : i < 19) (h : wm_rep (wd i) (ln i) N) : Met l y_Whole_countOnes (Cond.code y_Whole_countOnes b_Whole_countOnes 3 (some .int) :: lw_T) ({ frames := 1, cells := 0, slots := 0, locals := 20 }) (va_Pc [.ref (ad i)] (wm_B D ad cA cR sz ln wd)) (va_Qi (fun (r : Int32) (u : wm_St) => r = nI (wm_on N 65600) ∧ u = (ln, wd)) (wm_E D ad cA cR sz) (wm_A ad sz)) 0 0 (wm_A ad sz) := by
  refine wm_met l (by decide) (Nat.le_of_ble_eq_true rfl) ?_
  intro p e s m below meth c ls hsz hC hK hr hlk hM hl
  subst hsz
  have hC : CallFix p m c b_Whole_countOnes 3 s _ lw_T R_Whole := hC
  have hl : lv_has ls 3 [(0, .ref (ad i))] := hl
  have hn := h.1
  refine lv_iconst (v := nI 0) hC.1 hC.2.1 d_Whole_countOnes_0 (by decide) ?_
  refine lv_istore_n (lv' := [(1, .int (nI (0))), (0, .ref (ad i))]) hC.1 hC.2.1 d_Whole_countOnes_1 rfl hl (by decide) rfl (fun ls hl => ?_)
  refine lv_iconst (v := nI 0) hC.1 hC.2.1 d_Whole_countOnes_2 (by decide) ?_
  refine lv_istore_n (lv' := [(2, .int (nI (0))), (1, .int (nI (0))), (0, .ref (ad i))]) hC.1 hC.2.1 d_Whole_countOnes_3 rfl hl (by decide) rfl (fun ls hl => ?_)
  refine lp_Whole_countOnes hC hK ln wd i hi h.1 (fun H locs ls hM hl => ?_) (ln i + 1) 0 (Nat.zero_le _) (by omega) _ _ _ hM (lv_sub hl [2, 1, 0] rfl)
  refine lv_iload_n hC.1 hC.2.1 d_Whole_countOnes_30 rfl (lv_at hl 0 rfl) ?_
  refine wm_iret hC hK hM hr hlk ⟨congrArg nI ?_, rfl⟩ d_Whole_countOnes_31
  rw [wm_ons_v, h.2.2.2]
  obtain ⟨d, hd⟩ : ∃ d, 65600 = 32 * ln i + d := ⟨65600 - 32 * ln i, by omega⟩
  rw [hd, wm_on_big (by rw [← wm_p32]; exact wm_rep_lt h)]
set_option maxHeartbeats 4000000 in
set_option maxRecDepth 100000 in
theorem lp_Whole_lowestOne {p : Program} {l : Launch} {e : Env} {s : State} {m : MethodId} {args : Array Value} {below : List Frame} {meth : Method} {c : Code} {Q : State → Prop} {D : va_G} {ad : Nat → Nat} {cA cR : ClassId} (hC : CallFix p m c b_Whole_lowestOne 2 s args lw_T R_Whole) (hK : va_K D classes (wm_ty cA cR) s) (ln : Nat → Nat) (wd : Nat → Nat → Int32) (i N : Nat) (hi : i < 19) (h : wm_rep (wd i) (ln i) N) (hret : ∀ (r : Int32) (pc : Nat) (H : Heap) (locs : List Loc) (ls : Array Slot), decode b_Whole_lowestOne pc = .ok (.ireturn, 1) → ((N = 0 ∧ r = -1) ∨ ∃ t : Nat, t < 65600 ∧ N % 2 ^ t = 0 ∧ N / 2 ^ t % 2 = 1 ∧ r = nI t) → wm_M D ad cA cR s ln wd H locs → W p l e ({ frames := 1, cells := 0, slots := 0, locals := 21 }) s m args below meth c H locs 0 0 Q (F0 m pc ls [.int r])) :
    ∀ (n : Nat) (k : Nat), (k ≤ ln i) → (∀ q, q < k → wd i q = 0) → ln i + 1 ≤ k + n → ∀ (H : Heap) (locs : List Loc) (ls : Array Slot), wm_M D ad cA cR s (ln) (wd) H locs → lv_has ls 2 [(0, .ref (ad i)), (1, .int (nI (k)))] → W p l e ({ frames := 1, cells := 0, slots := 0, locals := 21 }) s m args below meth c H locs 0 0 Q (F0 m 2 ls []) := by
  intro n
  induction n with
  | zero =>
    intro k hk hz hn
    exact absurd hn (by omega)
  | succ n ih =>
    intro k hk hz hn H locs ls hM hl
    have hn1 := h.1
    refine lv_iload_n hC.1 hC.2.1 d_Whole_lowestOne_2 rfl (lv_at hl 1 rfl) ?_
    refine lv_aload_n hC.1 hC.2.1 d_Whole_lowestOne_3 rfl (lv_at hl 0 rfl) ?_
    refine wm_len hC hK hM (j := i) hi kf_Whole_15 d_Whole_lowestOne_4 ?_
    refine nv_icmp_ge (tgt := 40) hC (by omega) (by omega) d_Whole_lowestOne_7 (by decide) (fun hc => ?_) (fun hc => ?_)
    · refine lv_iconst (v := -1) hC.1 hC.2.1 d_Whole_lowestOne_40 (by decide) ?_
      exact hret _ _ H locs ls d_Whole_lowestOne_41 (Or.inl ⟨by
        have e := wm_v_z (f := wd i) (m := 0) (ln i) (fun q _ h2 => hz q (by omega))
        rw [Nat.zero_add] at e
        rw [← h.2.2.2, e]
        rfl, rfl⟩) hM
    · refine lv_aload_n hC.1 hC.2.1 d_Whole_lowestOne_10 rfl (lv_at hl 0 rfl) ?_
      refine wm_wds hC hK hM (j := i) hi kf_Whole_9 d_Whole_lowestOne_11 ?_
      refine lv_iload_n hC.1 hC.2.1 d_Whole_lowestOne_14 rfl (lv_at hl 1 rfl) ?_
      refine wm_ald hC hK hM (j := i) (k := k) hi (by omega) d_Whole_lowestOne_15 ?_
      refine lv_if_eq (tgt := 34) hC.1 hC.2.1 d_Whole_lowestOne_16 (by decide) (fun hw => ?_) (fun hw => ?_)
      · refine lv_iinc (v := nI (k + 1)) (lv' := [(1, .int (nI (k + 1))), (0, .ref (ad i))]) hC.1 hC.2.1 d_Whole_lowestOne_34 hl (k := 1) rfl (nv_inc _) (by decide) rfl (fun ls hl => ?_)
        refine lv_goto (tgt := 2) hC.1 hC.2.1 d_Whole_lowestOne_37 (by decide) ?_
        exact ih (k + 1) (by omega) (fun q hq => by
        by_cases e : q = k
        · rw [e]; exact hw
        · exact hz q (by omega)) (by omega) H locs ls hM (lv_sub hl [1, 0] rfl)
      · refine lv_bipush (v := nI 32) hC.1 hC.2.1 d_Whole_lowestOne_19 (by decide) ?_
        refine lv_iload_n hC.1 hC.2.1 d_Whole_lowestOne_21 rfl (lv_at hl 1 rfl) ?_
        refine nv_imul hC d_Whole_lowestOne_22 ?_
        refine lv_aload_n hC.1 hC.2.1 d_Whole_lowestOne_23 rfl (lv_at hl 0 rfl) ?_
        refine wm_wds hC hK hM (j := i) hi kf_Whole_9 d_Whole_lowestOne_24 ?_
        refine lv_iload_n hC.1 hC.2.1 d_Whole_lowestOne_27 rfl (lv_at hl 1 rfl) ?_
        refine wm_ald hC hK hM (j := i) (k := k) hi (by omega) d_Whole_lowestOne_28 ?_
        refine wm_callPi hC hK hM (As := [.int (wd i k)]) (rest := [.int (nI (32 * k))]) (c_Int_numberOfTrailingZeros l _ (wd i k) hw) kc_Int_numberOfTrailingZeros km_Whole_59 ki_Int ks_Int_numberOfTrailingZeros kd_Int_numberOfTrailingZeros ⟨rfl, rfl⟩ ⟨Nat.le_of_ble_eq_true rfl, Nat.le_of_ble_eq_true rfl⟩ rfl hl.1 (Nat.le_of_ble_eq_true rfl) d_Whole_lowestOne_29 (fun r H locs hp hM => ?_)
        obtain ⟨t, ht, t1, t2, rfl⟩ := hp
        refine nv_iadd hC d_Whole_lowestOne_32 ?_
        refine hret _ _ H locs ls d_Whole_lowestOne_33 (Or.inr ⟨32 * k + t, by omega, ?_, ?_, rfl⟩) hM
        · exact (wm_low_at h (by omega) hz ht t1 t2).1
        · exact (wm_low_at h (by omega) hz ht t1 t2).2
set_option maxHeartbeats 4000000 in
set_option maxRecDepth 100000 in
theorem c_Whole_lowestOne (l : Launch) (D : va_G) (ad : Nat → Nat) (cA cR : ClassId) (sz : Nat) (ln : Nat → Nat) (wd : Nat → Nat → Int32) (i N : Nat) (hi : i < 19) (h : wm_rep (wd i) (ln i) N) : Met l y_Whole_lowestOne (Cond.code y_Whole_lowestOne b_Whole_lowestOne 2 (some .int) :: lw_T) ({ frames := 1, cells := 0, slots := 0, locals := 21 }) (va_Pc [.ref (ad i)] (wm_B D ad cA cR sz ln wd)) (va_Qi (fun (r : Int32) (u : wm_St) => ((N = 0 ∧ r = -1) ∨ ∃ t : Nat, t < 65600 ∧ N % 2 ^ t = 0 ∧ N / 2 ^ t % 2 = 1 ∧ r = nI t) ∧ u = (ln, wd)) (wm_E D ad cA cR sz) (wm_A ad sz)) 0 0 (wm_A ad sz) := by
  refine wm_met l (by decide) (Nat.le_of_ble_eq_true rfl) ?_
  intro p e s m below meth c ls hsz hC hK hr hlk hM hl
  subst hsz
  have hC : CallFix p m c b_Whole_lowestOne 2 s _ lw_T R_Whole := hC
  have hl : lv_has ls 2 [(0, .ref (ad i))] := hl
  have hn := h.1
  refine lv_iconst (v := nI 0) hC.1 hC.2.1 d_Whole_lowestOne_0 (by decide) ?_
  refine lv_istore_n (lv' := [(1, .int (nI (0))), (0, .ref (ad i))]) hC.1 hC.2.1 d_Whole_lowestOne_1 rfl hl (by decide) rfl (fun ls hl => ?_)
  exact lp_Whole_lowestOne hC hK ln wd i N hi h (fun r pc H locs ls hd hp hM => wm_iret hC hK hM hr hlk ⟨hp, rfl⟩ hd) (ln i + 1) 0 (Nat.zero_le _) (fun q hq => absurd hq (by omega)) (by omega) _ _ _ hM (lv_sub hl [1, 0] rfl)
set_option maxHeartbeats 4000000 in
set_option maxRecDepth 100000 in
theorem lp_Whole_remainder {p : Program} {l : Launch} {e : Env} {R : Room} {s : State} {m : MethodId} {args : Array Value} {below : List Frame} {meth : Method} {c : Code} {Q : State → Prop} {D : va_G} {ad : Nat → Nat} {cA cR : ClassId} (hC : CallFix p m c b_Whole_remainder 5 s args lw_T R_Whole) (hK : va_K D classes (wm_ty cA cR) s) (ln : Nat → Nat) (wd : Nat → Nat → Int32) (i N dv : Nat) (hi : i < 19) (h : wm_rep (wd i) (ln i) N) (hd1 : 1 ≤ dv) (hd2 : dv < 2147483648)
    (hex : ∀ (H : Heap) (locs : List Loc) (ls : Array Slot), wm_M D ad cA cR s (ln) (wd) H locs → lv_has ls 5 [(2, .long (lN (wm_v (wm_off (wd i) 0) (ln i - 0) % dv)))] → W p l e R s m args below meth c H locs 0 0 Q (F0 m 42 ls [])) :
    ∀ (n : Nat) (x : Nat), (x ≤ ln i) → x + 1 ≤ n → ∀ (H : Heap) (locs : List Loc) (ls : Array Slot), wm_M D ad cA cR s (ln) (wd) H locs → lv_has ls 5 [(0, .ref (ad i)), (1, .int (nI (dv))), (2, .long (lN (wm_v (wm_off (wd i) x) (ln i - x) % dv))), (4, .int (nI (x) + (-1)))] → W p l e R s m args below meth c H locs 0 0 Q (F0 m 10 ls []) := by
  intro n
  induction n with
  | zero =>
    intro x hx hn
    exact absurd hn (by omega)
  | succ n ih =>
    intro x hx hn H locs ls hM hl
    have hn1 := h.1
    have hov : wm_v (wm_off (wd i) x) (ln i - x) % dv < dv := Nat.mod_lt _ (by omega)
    refine lv_iload hC.1 hC.2.1 d_Whole_remainder_10 (lv_at hl 3 rfl) ?_
    refine nv_down_lt (tgt := 42) hC (by omega) d_Whole_remainder_12 (by decide) (fun hz => ?_) (fun y hy => ?_)
    · subst hz
      exact hex H locs ls hM (lv_sub hl [2] rfl)
    · subst hy
      have hl : lv_has ls 5 [(0, .ref (ad i)), (1, .int (nI (dv))), (2, .long (lN (wm_v (wm_off (wd i) (y + 1)) (ln i - (y + 1)) % dv))), (4, .int (nI (y)))] := by rw [pk_m1] at hl; exact hl
      have hu := wm_u_lt (wd i y)
      refine lv_lload_n hC.1 hC.2.1 d_Whole_remainder_15 rfl (lv_at hl 2 rfl) ?_
      refine lv_bipush (v := nI 32) hC.1 hC.2.1 d_Whole_remainder_16 (by decide) ?_
      refine nv_lshl hC (by decide) d_Whole_remainder_18 ?_
      refine lv_aload_n hC.1 hC.2.1 d_Whole_remainder_19 rfl (lv_at hl 0 rfl) ?_
      refine wm_wds hC hK hM (j := i) hi kf_Whole_9 d_Whole_remainder_20 ?_
      refine lv_iload hC.1 hC.2.1 d_Whole_remainder_23 (lv_at hl 3 rfl) ?_
      refine wm_ald hC hK hM (j := i) (k := y) hi (by omega) d_Whole_remainder_25 ?_
      refine nv_low hC kl_Whole_35 d_Whole_remainder_26 d_Whole_remainder_27 d_Whole_remainder_30 ?_
      refine nv_pair (k := 32) hC (by omega) (by omega) d_Whole_remainder_31 ?_
      refine lv_iload_n hC.1 hC.2.1 d_Whole_remainder_32 rfl (lv_at hl 1 rfl) ?_
      refine nv_i2l hC (by omega) d_Whole_remainder_33 ?_
      refine nv_lrem hC (by omega) (by omega) (by omega) d_Whole_remainder_34 ?_
      have e9 : (wm_v (wm_off (wd i) (y + 1)) (ln i - (y + 1)) % dv * 2 ^ 32 + wm_u (wd i y)) % dv = wm_v (wm_off (wd i) y) (ln i - y) % dv := by
        obtain ⟨d, hd⟩ : ∃ d, ln i - y = d + 1 := ⟨ln i - y - 1, by omega⟩
        rw [hd, show ln i - (y + 1) = d by omega, wm_v_first, Nat.add_comm, Nat.add_mod, Nat.mul_mod, Nat.mod_mod, ← Nat.mul_mod, ← Nat.add_mod, show ∀ z : Nat, z * 2 ^ 32 = 4294967296 * z from fun z => Nat.mul_comm z _]
      refine nv_topl (y := lN (wm_v (wm_off (wd i) y) (ln i - y) % dv)) (by rw [e9]) ?_
      refine lv_lstore_n (lv' := [(2, .long (lN (wm_v (wm_off (wd i) y) (ln i - y) % dv))), (0, .ref (ad i)), (1, .int (nI (dv))), (4, .int (nI (y)))]) hC.1 hC.2.1 d_Whole_remainder_35 rfl hl (by decide) rfl (fun ls hl => ?_)
      refine lv_iinc (v := nI (y) + (-1)) (lv' := [(4, .int (nI (y) + (-1))), (2, .long (lN (wm_v (wm_off (wd i) y) (ln i - y) % dv))), (0, .ref (ad i)), (1, .int (nI (dv)))]) hC.1 hC.2.1 d_Whole_remainder_36 hl (k := 3) rfl (rfl) (by decide) rfl (fun ls hl => ?_)
      refine lv_goto (tgt := 10) hC.1 hC.2.1 d_Whole_remainder_39 (by decide) ?_
      exact ih y (by omega) (by omega) H locs ls hM (lv_sub hl [2, 3, 1, 0] rfl)
set_option maxHeartbeats 4000000 in
set_option maxRecDepth 100000 in
theorem c_Whole_remainder (l : Launch) (D : va_G) (ad : Nat → Nat) (cA cR : ClassId) (sz : Nat) (ln : Nat → Nat) (wd : Nat → Nat → Int32) (i N dv : Nat) (hi : i < 19) (h : wm_rep (wd i) (ln i) N) (hd1 : 1 ≤ dv) (hd2 : dv < 2147483648) : Met l y_Whole_remainder (Cond.code y_Whole_remainder b_Whole_remainder 5 (some .int) :: lw_T) ({ frames := 0, cells := 0, slots := 0, locals := 0 }) (va_Pc [.ref (ad i), .int (nI (dv))] (wm_B D ad cA cR sz ln wd)) (va_Qi (fun (r : Int32) (u : wm_St) => r = nI (N % dv) ∧ u = (ln, wd)) (wm_E D ad cA cR sz) (wm_A ad sz)) 0 0 (wm_A ad sz) := by
  refine wm_met l (by decide) (Nat.le_of_ble_eq_true rfl) ?_
  intro p e s m below meth c ls hsz hC hK hr hlk hM hl
  subst hsz
  have hC : CallFix p m c b_Whole_remainder 5 s _ lw_T R_Whole := hC
  have hl : lv_has ls 5 [(0, .ref (ad i)), (1, .int (nI (dv)))] := hl
  have hn := h.1
  refine lv_lconst (v := lN 0) hC.1 hC.2.1 d_Whole_remainder_0 (by decide) ?_
  refine lv_lstore_n (lv' := [(2, .long (lN (0))), (0, .ref (ad i)), (1, .int (nI (dv)))]) hC.1 hC.2.1 d_Whole_remainder_1 rfl hl (by decide) rfl (fun ls hl => ?_)
  refine lv_aload_n hC.1 hC.2.1 d_Whole_remainder_2 rfl (lv_at hl 1 rfl) ?_
  refine wm_len hC hK hM (j := i) hi kf_Whole_15 d_Whole_remainder_3 ?_
  refine lv_iconst (v := nI 1) hC.1 hC.2.1 d_Whole_remainder_6 (by decide) ?_
  refine nv_isub1 hC d_Whole_remainder_7 ?_
  refine lv_istore (lv' := [(4, .int (nI (ln i) + (-1))), (2, .long (lN (0))), (0, .ref (ad i)), (1, .int (nI (dv)))]) hC.1 hC.2.1 d_Whole_remainder_8 hl (by decide) rfl (fun ls hl => ?_)
  refine lp_Whole_remainder hC hK ln wd i N dv hi h hd1 hd2 (fun H locs ls hM hl => ?_) (ln i + 1) (ln i) (Nat.le_refl _) (Nat.le_refl _) _ _ _ hM (by
    rw [Nat.sub_self, wm_v_0, Nat.zero_mod]
    exact lv_sub hl [2, 3, 1, 0] rfl)
  refine lv_lload_n hC.1 hC.2.1 d_Whole_remainder_42 rfl (lv_at hl 0 rfl) ?_
  refine nv_l2i hC d_Whole_remainder_43 ?_
  exact wm_iret hC hK hM hr hlk ⟨by rw [wm_off_0, Nat.sub_zero, h.2.2.2], rfl⟩ d_Whole_remainder_44
