set_option maxHeartbeats 4000000 in
set_option maxRecDepth 100000 in
theorem lp_Whole_becomePairs {p : Program} {l : Launch} {e : Env} {R : Room} {s : State} {m : MethodId} {args : Array Value} {below : List Frame} {meth : Method} {c : Code} {Q : State → Prop} {D : va_G} {ad : Nat → Nat} {cA cR : ClassId} (hC : CallFix p m c b_Whole_becomePairs 5 s args lw_T R_Whole) (hK : va_K D classes (wm_ty cA cR) s) (ln : Nat → Nat) (wd : Nat → Nat → Int32) (i p0 cnt : Nat) (hi : i < 19) (hp0 : p0 < 2 ^ 64) (hcnt : cnt ≤ 1024)
    (hex : ∀ (f : Nat → Int32), (wm_v f (2 * cnt) = wm_pr p0 cnt) → (∀ j, 2 * cnt ≤ j → f j = wd i j) → ∀ (H : Heap) (locs : List Loc) (ls : Array Slot), wm_M D ad cA cR s (ln) (va_up wd i f) H locs → lv_has ls 5 [(0, .ref (ad i)), (1, .long (lN (p0))), (3, .int (nI (cnt))), (4, .int (nI (cnt)))] → W p l e R s m args below meth c H locs 0 0 Q (F0 m 42 ls [])) :
    ∀ (n : Nat) (k : Nat) (f : Nat → Int32), (k ≤ cnt) → (wm_v f (2 * k) = wm_pr p0 k) → (∀ j, 2 * k ≤ j → f j = wd i j) → cnt + 1 ≤ k + n → ∀ (H : Heap) (locs : List Loc) (ls : Array Slot), wm_M D ad cA cR s (ln) (va_up wd i f) H locs → lv_has ls 5 [(0, .ref (ad i)), (1, .long (lN (p0))), (3, .int (nI (cnt))), (4, .int (nI (k)))] → W p l e R s m args below meth c H locs 0 0 Q (F0 m 3 ls []) := by
  intro n
  induction n with
  | zero =>
    intro k f hk hS hf hn
    exact absurd hn (by omega)
  | succ n ih =>
    intro k f hk hS hf hn H locs ls hM hl
    refine lv_iload hC.1 hC.2.1 d_Whole_becomePairs_3 (lv_at hl 3 rfl) ?_
    refine lv_iload_n hC.1 hC.2.1 d_Whole_becomePairs_5 rfl (lv_at hl 2 rfl) ?_
    refine nv_icmp_ge (tgt := 42) hC (by omega) (by omega) d_Whole_becomePairs_6 (by decide) (fun hc2 => ?_) (fun hc2 => ?_)
    · have ek : k = cnt := by omega
      subst ek
      exact hex f hS hf H locs ls hM (lv_sub hl [0, 1, 2, 3] rfl)
    · refine lv_aload_n hC.1 hC.2.1 d_Whole_becomePairs_9 rfl (lv_at hl 0 rfl) ?_
      refine wm_wds hC hK hM (j := i) hi kf_Whole_9 d_Whole_becomePairs_10 ?_
      refine lv_iconst (v := nI 2) hC.1 hC.2.1 d_Whole_becomePairs_13 (by decide) ?_
      refine lv_iload hC.1 hC.2.1 d_Whole_becomePairs_14 (lv_at hl 3 rfl) ?_
      refine nv_imul hC d_Whole_becomePairs_16 ?_
      refine lv_lload_n hC.1 hC.2.1 d_Whole_becomePairs_17 rfl (lv_at hl 1 rfl) ?_
      refine nv_l2i hC d_Whole_becomePairs_18 ?_
      refine wm_ast_s hC hK hM (k := 2 * k) hi (by omega) d_Whole_becomePairs_19 (fun H locs hM => ?_)
      refine lv_aload_n hC.1 hC.2.1 d_Whole_becomePairs_20 rfl (lv_at hl 0 rfl) ?_
      refine wm_wds hC hK hM (j := i) hi kf_Whole_9 d_Whole_becomePairs_21 ?_
      refine lv_iconst (v := nI 2) hC.1 hC.2.1 d_Whole_becomePairs_24 (by decide) ?_
      refine lv_iload hC.1 hC.2.1 d_Whole_becomePairs_25 (lv_at hl 3 rfl) ?_
      refine nv_imul hC d_Whole_becomePairs_27 ?_
      refine lv_iconst (v := nI 1) hC.1 hC.2.1 d_Whole_becomePairs_28 (by decide) ?_
      refine nv_iadd hC d_Whole_becomePairs_29 ?_
      refine lv_lload_n hC.1 hC.2.1 d_Whole_becomePairs_30 rfl (lv_at hl 1 rfl) ?_
      refine lv_bipush (v := nI 32) hC.1 hC.2.1 d_Whole_becomePairs_31 (by decide) ?_
      refine nv_lushr32 hC (by omega) d_Whole_becomePairs_33 ?_
      refine nv_l2i hC d_Whole_becomePairs_34 ?_
      refine wm_ast_s hC hK hM (k := (2 * k) + 1) hi (by omega) d_Whole_becomePairs_35 (fun H locs hM => ?_)
      refine lv_iinc (v := nI (k + 1)) (lv' := [(4, .int (nI (k + 1))), (0, .ref (ad i)), (1, .long (lN (p0))), (3, .int (nI (cnt)))]) hC.1 hC.2.1 d_Whole_becomePairs_36 hl (k := 3) rfl (nv_inc _) (by decide) rfl (fun ls hl => ?_)
      refine lv_goto (tgt := 3) hC.1 hC.2.1 d_Whole_becomePairs_39 (by decide) ?_
      exact ih (k + 1) (upd (upd f (2 * k) (nI (p0))) (2 * k + 1) (nI (p0 / 4294967296))) (by omega) (by
        rw [show 2 * (k + 1) = 2 * k + 1 + 1 by omega, wm_v_pair, wm_v_upd (by omega), wm_v_upd (by omega), pk_un (by omega), pk_us, pk_us, wm_c64 hp0, hS, wm_pr_s]) (fun j hj => by rw [pk_un (by omega), pk_un (by omega)]; exact hf j (by omega)) (by omega) H locs ls hM (lv_sub hl [1, 2, 3, 0] rfl)
set_option maxHeartbeats 4000000 in
set_option maxRecDepth 100000 in
theorem c_Whole_becomePairs (l : Launch) (D : va_G) (ad : Nat → Nat) (cA cR : ClassId) (sz : Nat) (ln : Nat → Nat) (wd : Nat → Nat → Int32) (i p0 cnt : Nat) (hi : i < 19) (hp0 : p0 < 2 ^ 64) (hcnt : cnt ≤ 1024) (hz : wm_ze (wd i) (ln i)) : Met l y_Whole_becomePairs (Cond.code y_Whole_becomePairs b_Whole_becomePairs 5 none :: lw_T) ({ frames := 1, cells := 0, slots := 0, locals := 22 }) (va_Pc [.ref (ad i), .long (lN (p0)), .int (nI (cnt))] (wm_B D ad cA cR sz ln wd)) (va_Qv (fun u : wm_St => wm_up i (wm_pr p0 cnt) ln wd u) (wm_E D ad cA cR sz) (wm_A ad sz)) 0 0 (wm_A ad sz) := by
  refine wm_met l (by decide) (Nat.le_of_ble_eq_true rfl) ?_
  intro p e s m below meth c ls hsz hC hK hr hlk hM hl
  subst hsz
  have hC : CallFix p m c b_Whole_becomePairs 5 s _ lw_T R_Whole := hC
  have hl : lv_has ls 5 [(0, .ref (ad i)), (1, .long (lN (p0))), (3, .int (nI (cnt)))] := hl
  have hz1 := hz.1
  refine lv_iconst (v := nI 0) hC.1 hC.2.1 d_Whole_becomePairs_0 (by decide) ?_
  refine lv_istore (lv' := [(4, .int (nI (0))), (0, .ref (ad i)), (1, .long (lN (p0))), (3, .int (nI (cnt)))]) hC.1 hC.2.1 d_Whole_becomePairs_1 hl (by decide) rfl (fun ls hl => ?_)
  have hM : wm_M D ad cA cR s (ln) (va_up wd i (wd i)) s.heap [] := by
    rw [wm_eta]; exact hM
  refine lp_Whole_becomePairs hC hK ln wd i p0 cnt hi hp0 hcnt (fun f hS hf H locs ls hM hl => ?_) (cnt + 1) 0 (wd i) (Nat.zero_le _) rfl (fun _ _ => rfl) (by omega) _ _ _ hM (lv_sub hl [1, 2, 3, 0] rfl)
  refine lv_aload_n hC.1 hC.2.1 d_Whole_becomePairs_42 rfl (lv_at hl 0 rfl) ?_
  refine lv_iconst (v := nI 2) hC.1 hC.2.1 d_Whole_becomePairs_43 (by decide) ?_
  refine lv_iload_n hC.1 hC.2.1 d_Whole_becomePairs_44 rfl (lv_at hl 2 rfl) ?_
  refine nv_imul hC d_Whole_becomePairs_45 ?_
  refine wm_callVv hC hK hM (As := [.int (nI (2 * cnt))]) (rest := []) (wm_at_o hi) rfl (c_Whole_settle l D ad cA cR _ ln (va_up wd i f) i (2 * cnt) hi hz.1 (by omega)) kc_Whole_settle km_Whole_19 ki_Whole kn_Whole_settle ke_Whole_settle kd_Whole_settle ⟨rfl, rfl⟩ ⟨Nat.le_of_ble_eq_true rfl, Nat.le_of_ble_eq_true rfl⟩ rfl hl.1 (Nat.le_of_ble_eq_true rfl) d_Whole_becomePairs_46 (fun u H locs hp hM => ?_)
  refine wm_vret hC hK hM hr hlk ?_ d_Whole_becomePairs_49
  rw [va_up_self, wm_uu] at hp
  refine wm_up_of hp (by omega) (fun k h3 h4 h5 => ?_) hS
  rw [hf k (by omega)]
  exact hz.2 k h4 h5
set_option maxHeartbeats 4000000 in
set_option maxRecDepth 100000 in
theorem c_Whole_fillLowestPair (l : Launch) (D : va_G) (ad : Nat → Nat) (cA cR : ClassId) (sz : Nat) (ln : Nat → Nat) (wd : Nat → Nat → Int32) (i p0 N : Nat) (hi : i < 19) (hp0 : p0 < 2 ^ 64) (h : wm_rep (wd i) (ln i) N) : Met l y_Whole_fillLowestPair (Cond.code y_Whole_fillLowestPair b_Whole_fillLowestPair 3 none :: lw_T) ({ frames := 1, cells := 0, slots := 0, locals := 23 }) (va_Pc [.ref (ad i), .long (lN (p0))] (wm_B D ad cA cR sz ln wd)) (va_Qv (fun u : wm_St => wm_up i (N / 18446744073709551616 * 18446744073709551616 + p0) ln wd u) (wm_E D ad cA cR sz) (wm_A ad sz)) 0 0 (wm_A ad sz) := by
  refine wm_met l (by decide) (Nat.le_of_ble_eq_true rfl) ?_
  intro p e s m below meth c ls hsz hC hK hr hlk hM hl
  subst hsz
  have hC : CallFix p m c b_Whole_fillLowestPair 3 s _ lw_T R_Whole := hC
  have hl : lv_has ls 3 [(0, .ref (ad i)), (1, .long (lN (p0)))] := hl
  have hn := h.1
  have hM : wm_M D ad cA cR s (ln) (va_up wd i (wd i)) s.heap [] := by
    rw [wm_eta]; exact hM
  refine lv_aload_n hC.1 hC.2.1 d_Whole_fillLowestPair_0 rfl (lv_at hl 0 rfl) ?_
  refine wm_wds hC hK hM (j := i) hi kf_Whole_9 d_Whole_fillLowestPair_1 ?_
  refine lv_iconst (v := nI 0) hC.1 hC.2.1 d_Whole_fillLowestPair_4 (by decide) ?_
  refine lv_lload_n hC.1 hC.2.1 d_Whole_fillLowestPair_5 rfl (lv_at hl 1 rfl) ?_
  refine nv_l2i hC d_Whole_fillLowestPair_6 ?_
  refine wm_ast_s hC hK hM (k := 0) hi (by omega) d_Whole_fillLowestPair_7 (fun H locs hM => ?_)
  refine lv_aload_n hC.1 hC.2.1 d_Whole_fillLowestPair_8 rfl (lv_at hl 0 rfl) ?_
  refine wm_wds hC hK hM (j := i) hi kf_Whole_9 d_Whole_fillLowestPair_9 ?_
  refine lv_iconst (v := nI 1) hC.1 hC.2.1 d_Whole_fillLowestPair_12 (by decide) ?_
  refine lv_lload_n hC.1 hC.2.1 d_Whole_fillLowestPair_13 rfl (lv_at hl 1 rfl) ?_
  refine lv_bipush (v := nI 32) hC.1 hC.2.1 d_Whole_fillLowestPair_14 (by decide) ?_
  refine nv_lushr32 hC (by omega) d_Whole_fillLowestPair_16 ?_
  refine nv_l2i hC d_Whole_fillLowestPair_17 ?_
  refine wm_ast_s hC hK hM (k := 1) hi (by omega) d_Whole_fillLowestPair_18 (fun H locs hM => ?_)
  refine lv_aload_n hC.1 hC.2.1 d_Whole_fillLowestPair_19 rfl (lv_at hl 0 rfl) ?_
  refine lv_aload_n hC.1 hC.2.1 d_Whole_fillLowestPair_20 rfl (lv_at hl 0 rfl) ?_
  refine wm_len hC hK hM (j := i) hi kf_Whole_15 d_Whole_fillLowestPair_21 ?_
  refine lv_iconst (v := nI 2) hC.1 hC.2.1 d_Whole_fillLowestPair_24 (by decide) ?_
  refine nv_mmax hC hl.1 kj_Whole_29 kj_s_max ki_Math kj_c_max (Nat.le_of_ble_eq_true rfl) (Nat.le_of_ble_eq_true rfl) d_Whole_fillLowestPair_25 ?_
  refine nv_top (y := nI (max (ln i) 2)) (nv_maxi (by omega) (by omega)) ?_
  refine wm_callVv hC hK hM (As := [.int (nI (max (ln i) 2))]) (rest := []) (wm_at_o hi) rfl (c_Whole_settle l D ad cA cR _ ln (va_up wd i (upd (upd (wd i) 0 (nI (p0))) 1 (nI (p0 / 4294967296)))) i (max (ln i) 2) hi h.1 (by omega)) kc_Whole_settle km_Whole_19 ki_Whole kn_Whole_settle ke_Whole_settle kd_Whole_settle ⟨rfl, rfl⟩ ⟨Nat.le_of_ble_eq_true rfl, Nat.le_of_ble_eq_true rfl⟩ rfl hl.1 (Nat.le_of_ble_eq_true rfl) d_Whole_fillLowestPair_28 (fun u H locs hp hM => ?_)
  refine wm_vret hC hK hM hr hlk ?_ d_Whole_fillLowestPair_31
  rw [va_up_self, wm_uu] at hp
  refine wm_up_of hp (by omega) (fun k h3 h4 h5 => ?_) ?_
  · rw [pk_un (by omega), pk_un (by omega)]
    exact h.2.1 k h4 h5
  · obtain ⟨d, hd⟩ : ∃ d, max (ln i) 2 = 2 + d := ⟨max (ln i) 2 - 2, by omega⟩
    have e1 : wm_v (wd i) (2 + d) = N := wm_rep_v h (by omega) (by omega)
    have e2 := wm_v_lt (wd i) 2
    rw [wm_v_app] at e1
    rw [hd, wm_v_app, wm_v_congr (f := fun k => (upd (upd (wd i) 0 (nI (p0))) 1 (nI (p0 / 4294967296))) (2 + k)) (g := fun k => wd i (2 + k)) (fun k hk => by rw [pk_un (by omega), pk_un (by omega)])]
    rw [show wm_v (upd (upd (wd i) 0 (nI (p0))) 1 (nI (p0 / 4294967296))) 2 = p0 by rw [wm_v_pair (n := 0), pk_un (by omega), pk_us, pk_us, wm_v_0, wm_c64 hp0]; omega]
    generalize wm_v (fun k => wd i (2 + k)) d = X at *
    generalize wm_v (wd i) 2 = Y at *
    omega
set_option maxHeartbeats 4000000 in
set_option maxRecDepth 100000 in
theorem c_Whole_keepLowest (l : Launch) (D : va_G) (ad : Nat → Nat) (cA cR : ClassId) (sz : Nat) (ln : Nat → Nat) (wd : Nat → Nat → Int32) (i cnt N : Nat) (hi : i < 19) (hcnt : cnt < 2 ^ 31) (h : wm_rep (wd i) (ln i) N) : Met l y_Whole_keepLowest (Cond.code y_Whole_keepLowest b_Whole_keepLowest 3 none :: lw_T) ({ frames := 2, cells := 0, slots := 0, locals := 41 }) (va_Pc [.ref (ad i), .int (nI (cnt))] (wm_B D ad cA cR sz ln wd)) (va_Qv (fun u : wm_St => wm_up i (N % 2 ^ cnt) ln wd u) (wm_E D ad cA cR sz) (wm_A ad sz)) 0 0 (wm_A ad sz) := by
  refine wm_met l (by decide) (Nat.le_of_ble_eq_true rfl) ?_
  intro p e s m below meth c ls hsz hC hK hr hlk hM hl
  subst hsz
  have hC : CallFix p m c b_Whole_keepLowest 3 s _ lw_T R_Whole := hC
  have hl : lv_has ls 3 [(0, .ref (ad i)), (1, .int (nI (cnt)))] := hl
  have hn := h.1
  have hbl : wm_bl N ≤ 32 * ln i := by rw [wm_bl_le, ← wm_p32]; exact wm_rep_lt h
  refine lv_iload_n hC.1 hC.2.1 d_Whole_keepLowest_0 rfl (lv_at hl 1 rfl) ?_
  refine lv_aload_n hC.1 hC.2.1 d_Whole_keepLowest_1 rfl (lv_at hl 0 rfl) ?_
  refine wm_callVi hC hK hM (As := []) (rest := [.int (nI (cnt))]) (wm_at_o hi) rfl (c_Whole_size l D ad cA cR _ ln wd i N hi h) kc_Whole_size km_Whole_46 ki_Whole kn_Whole_size ke_Whole_size kd_Whole_size ⟨rfl, rfl⟩ ⟨Nat.le_of_ble_eq_true rfl, Nat.le_of_ble_eq_true rfl⟩ rfl hl.1 (Nat.le_of_ble_eq_true rfl) d_Whole_keepLowest_2 (fun r u H locs hp hM => ?_)
  obtain ⟨rfl, rfl⟩ := hp
  have hM : wm_M D ad cA cR s (ln) (wd) H locs := by
    exact hM
  refine nv_icmp_ge (tgt := 36) hC (by omega) (by omega) d_Whole_keepLowest_5 (by decide) (fun hc => ?_) (fun hc => ?_)
  · refine wm_vret hC hK hM hr hlk ⟨ln i, wd i, by rw [wm_eta, wm_eta], ?_⟩ d_Whole_keepLowest_36
    rw [Nat.mod_eq_of_lt (wm_bl_le.mp hc)]
    exact h
  · obtain ⟨w, hw⟩ : ∃ z, z = cnt / 2 ^ 5 := ⟨_, rfl⟩
    obtain ⟨o, ho⟩ : ∃ z, z = cnt % 2 ^ 5 := ⟨_, rfl⟩
    have ho2 : o < 32 := by omega
    refine lv_iload_n hC.1 hC.2.1 d_Whole_keepLowest_8 rfl (lv_at hl 1 rfl) ?_
    refine lv_iconst (v := nI 5) hC.1 hC.2.1 d_Whole_keepLowest_9 (by decide) ?_
    refine nv_iushr hC (by omega) (by decide) d_Whole_keepLowest_10 ?_
    refine nv_top (y := nI (w)) (by rw [hw]) ?_
    refine lv_istore_n (lv' := [(2, .int (nI (w))), (0, .ref (ad i)), (1, .int (nI (cnt)))]) hC.1 hC.2.1 d_Whole_keepLowest_11 rfl hl (by decide) rfl (fun ls hl => ?_)
    refine lv_aload_n hC.1 hC.2.1 d_Whole_keepLowest_12 rfl (lv_at hl 1 rfl) ?_
    refine wm_wds hC hK hM (j := i) hi kf_Whole_9 d_Whole_keepLowest_13 ?_
    refine lv_iload_n hC.1 hC.2.1 d_Whole_keepLowest_16 rfl (lv_at hl 0 rfl) ?_
    refine lv_dup2_11 hC.1 hC.2.1 d_Whole_keepLowest_17 rfl rfl ?_
    refine wm_ald hC hK hM (j := i) (k := w) hi (by omega) d_Whole_keepLowest_18 ?_
    refine lv_iconst (v := nI 1) hC.1 hC.2.1 d_Whole_keepLowest_19 (by decide) ?_
    refine lv_iload_n hC.1 hC.2.1 d_Whole_keepLowest_20 rfl (lv_at hl 2 rfl) ?_
    refine lv_bipush (v := nI 31) hC.1 hC.2.1 d_Whole_keepLowest_21 (by decide) ?_
    refine nv_iand (k := 5) hC (by omega) (by decide) d_Whole_keepLowest_23 ?_
    refine nv_top (y := nI (o)) (by rw [ho]) ?_
    refine lv_ishl hC.1 hC.2.1 d_Whole_keepLowest_24 ?_
    refine nv_top (y := nI (2 ^ o)) (wm_shl1 ho2) ?_
    have hp1 : 0 < 2 ^ o := Nat.pow_pos (by decide)
    have hp2 : 2 ^ o ≤ 2 ^ 31 := Nat.pow_le_pow_right (by decide) (by omega)
    refine lv_iconst (v := nI 1) hC.1 hC.2.1 d_Whole_keepLowest_25 (by decide) ?_
    refine nv_isub hC (by omega) d_Whole_keepLowest_26 ?_
    refine lv_iand hC.1 hC.2.1 d_Whole_keepLowest_27 ?_
    refine nv_top (y := nI (wm_u (wd i w) % 2 ^ o)) (wm_mask1 ho2) ?_
    have hM : wm_M D ad cA cR s (ln) (va_up wd i (wd i)) H locs := by
      rw [wm_eta]; exact hM
    refine wm_ast_s hC hK hM (k := w) hi (by omega) d_Whole_keepLowest_28 (fun H locs hM => ?_)
    refine lv_aload_n hC.1 hC.2.1 d_Whole_keepLowest_29 rfl (lv_at hl 1 rfl) ?_
    refine lv_iload_n hC.1 hC.2.1 d_Whole_keepLowest_30 rfl (lv_at hl 0 rfl) ?_
    refine lv_iconst (v := nI 1) hC.1 hC.2.1 d_Whole_keepLowest_31 (by decide) ?_
    refine nv_iadd hC d_Whole_keepLowest_32 ?_
    refine wm_callVv hC hK hM (As := [.int (nI (w + 1))]) (rest := []) (wm_at_o hi) rfl (c_Whole_settle l D ad cA cR _ ln (va_up wd i (upd (wd i) w (nI (wm_u (wd i w) % 2 ^ o)))) i (w + 1) hi h.1 (by omega)) kc_Whole_settle km_Whole_19 ki_Whole kn_Whole_settle ke_Whole_settle kd_Whole_settle ⟨rfl, rfl⟩ ⟨Nat.le_of_ble_eq_true rfl, Nat.le_of_ble_eq_true rfl⟩ rfl hl.1 (Nat.le_of_ble_eq_true rfl) d_Whole_keepLowest_33 (fun u H locs hp hM => ?_)
    refine wm_vret hC hK hM hr hlk ?_ d_Whole_keepLowest_36
    rw [va_up_self, wm_uu] at hp
    refine wm_up_of hp (by omega) (fun k h3 h4 h5 => ?_) ?_
    · rw [pk_un (by omega)]
      exact h.2.1 k h4 h5
    · rw [wm_v_upds, wm_un' (by have := Nat.mod_lt (wm_u (wd i w)) hp1; omega), wm_rep_dig h (by omega), ← wm_cnt cnt, ← hw, ← ho]
      have e1 : wm_v (wd i) w = N % 4294967296 ^ w := wm_of_dig (fun k hk => wm_rep_dig h (by omega))
      rw [e1, Nat.mod_mul, Nat.mul_comm (4294967296 ^ w)]
      congr 2
      exact Nat.mod_mod_of_dvd _ ⟨2 ^ (32 - o), by rw [← Nat.pow_add, show o + (32 - o) = 32 by omega]⟩
