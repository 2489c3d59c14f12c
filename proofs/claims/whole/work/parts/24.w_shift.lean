set_option maxHeartbeats 4000000 in
set_option maxRecDepth 100000 in
theorem lp_Whole_becomeShiftedLeft {p : Program} {l : Launch} {e : Env} {R : Room} {s : State} {m : MethodId} {args : Array Value} {below : List Frame} {meth : Method} {c : Code} {Q : State → Prop} {D : va_G} {ad : Nat → Nat} {cA cR : ClassId} (hC : CallFix p m c b_Whole_becomeShiftedLeft 8 s args lw_T R_Whole) (hK : va_K D classes (wm_ty cA cR) s) (ln : Nat → Nat) (wd : Nat → Nat → Int32) (i a w o : Nat) (hi : i < 19) (ha : a < 19) (hai : a ≠ i) (ho : o < 32) (hfit : ln a + w + 1 ≤ 2050)
    (hex : ∀ (cy : Nat) (f : Nat → Int32), (wm_v (wm_off f w) (ln a) + cy * 4294967296 ^ (ln a) = wm_v (wd a) (ln a) * 2 ^ o) → (cy < 2 ^ o) → (∀ j, (j < w ∨ w + ln a ≤ j) → j < 2050 → f j = 0) → ∀ (H : Heap) (locs : List Loc) (ls : Array Slot), wm_M D ad cA cR s (va_up ln i 0) (va_up wd i f) H locs → lv_has ls 8 [(0, .ref (ad i)), (1, .ref (ad a)), (3, .int (nI (w))), (4, .int (nI (o))), (5, .long (lN (cy))), (7, .int (nI (ln a)))] → W p l e R s m args below meth c H locs 0 0 Q (F0 m 74 ls [])) :
    ∀ (n : Nat) (k : Nat) (cy : Nat) (f : Nat → Int32), (k ≤ ln a) → (wm_v (wm_off f w) k + cy * 4294967296 ^ k = wm_v (wd a) k * 2 ^ o) → (cy < 2 ^ o) → (∀ j, (j < w ∨ w + k ≤ j) → j < 2050 → f j = 0) → ln a + 1 ≤ k + n → ∀ (H : Heap) (locs : List Loc) (ls : Array Slot), wm_M D ad cA cR s (va_up ln i 0) (va_up wd i f) H locs → lv_has ls 8 [(0, .ref (ad i)), (1, .ref (ad a)), (3, .int (nI (w))), (4, .int (nI (o))), (5, .long (lN (cy))), (7, .int (nI (k)))] → W p l e R s m args below meth c H locs 0 0 Q (F0 m 20 ls []) := by
  intro n
  induction n with
  | zero =>
    intro k cy f hk hS hc hf hn
    exact absurd hn (by omega)
  | succ n ih =>
    intro k cy f hk hS hc hf hn H locs ls hM hl
    have hua := wm_u_lt (wd a k)
    have hP : 2 ^ o ≤ 2 ^ 31 := Nat.pow_le_pow_right (by decide) (by omega)
    have hq : wm_u (wd a k) * 2 ^ o ≤ 4294967295 * 2 ^ o := Nat.mul_le_mul_right _ (by omega)
    refine lv_iload hC.1 hC.2.1 d_Whole_becomeShiftedLeft_20 (lv_at hl 5 rfl) ?_
    refine lv_aload_n hC.1 hC.2.1 d_Whole_becomeShiftedLeft_22 rfl (lv_at hl 1 rfl) ?_
    refine wm_len hC hK hM (j := a) ha kf_Whole_15 d_Whole_becomeShiftedLeft_23 ?_
    refine nv_top (y := nI (ln a)) (by rw [va_up_ne _ _ hai]) ?_
    refine nv_icmp_ge (tgt := 74) hC (by omega) (by omega) d_Whole_becomeShiftedLeft_26 (by decide) (fun hc2 => ?_) (fun hc2 => ?_)
    · have ek : k = ln a := by omega
      subst ek
      exact hex cy f hS hc hf H locs ls hM (lv_sub hl [0, 1, 2, 3, 4, 5] rfl)
    · refine lv_lload hC.1 hC.2.1 d_Whole_becomeShiftedLeft_29 (lv_at hl 4 rfl) ?_
      refine lv_aload_n hC.1 hC.2.1 d_Whole_becomeShiftedLeft_31 rfl (lv_at hl 1 rfl) ?_
      refine wm_wds hC hK hM (j := a) ha kf_Whole_9 d_Whole_becomeShiftedLeft_32 ?_
      refine lv_iload hC.1 hC.2.1 d_Whole_becomeShiftedLeft_35 (lv_at hl 5 rfl) ?_
      refine wm_ald_o hC hK hM (j := a) (k := k) ha hai (by omega) d_Whole_becomeShiftedLeft_37 ?_
      refine nv_low hC kl_Whole_35 d_Whole_becomeShiftedLeft_38 d_Whole_becomeShiftedLeft_39 d_Whole_becomeShiftedLeft_42 ?_
      refine lv_iload hC.1 hC.2.1 d_Whole_becomeShiftedLeft_43 (lv_at hl 3 rfl) ?_
      refine nv_lshl hC (by omega) d_Whole_becomeShiftedLeft_45 ?_
      refine nv_por (k := o) hC hc (by omega) d_Whole_becomeShiftedLeft_46 ?_
      refine lv_lstore (lv' := [(5, .long (lN (cy + (wm_u (wd a k)) * 2 ^ o))), (0, .ref (ad i)), (1, .ref (ad a)), (3, .int (nI (w))), (4, .int (nI (o))), (7, .int (nI (k)))]) hC.1 hC.2.1 d_Whole_becomeShiftedLeft_47 hl (by decide) rfl (fun ls hl => ?_)
      refine lv_aload_n hC.1 hC.2.1 d_Whole_becomeShiftedLeft_49 rfl (lv_at hl 1 rfl) ?_
      refine wm_wds hC hK hM (j := i) hi kf_Whole_9 d_Whole_becomeShiftedLeft_50 ?_
      refine lv_iload hC.1 hC.2.1 d_Whole_becomeShiftedLeft_53 (lv_at hl 5 rfl) ?_
      refine lv_iload_n hC.1 hC.2.1 d_Whole_becomeShiftedLeft_55 rfl (lv_at hl 3 rfl) ?_
      refine nv_iadd hC d_Whole_becomeShiftedLeft_56 ?_
      refine lv_lload hC.1 hC.2.1 d_Whole_becomeShiftedLeft_57 (lv_at hl 0 rfl) ?_
      refine nv_l2i hC d_Whole_becomeShiftedLeft_59 ?_
      refine wm_ast_s hC hK hM (k := k + w) hi (by omega) d_Whole_becomeShiftedLeft_60 (fun H locs hM => ?_)
      refine lv_lload hC.1 hC.2.1 d_Whole_becomeShiftedLeft_61 (lv_at hl 0 rfl) ?_
      refine lv_bipush (v := nI 32) hC.1 hC.2.1 d_Whole_becomeShiftedLeft_63 (by decide) ?_
      refine nv_lushr32 hC (by omega) d_Whole_becomeShiftedLeft_65 ?_
      refine lv_lstore (lv' := [(5, .long (lN ((cy + (wm_u (wd a k)) * 2 ^ o) / 4294967296))), (0, .ref (ad i)), (1, .ref (ad a)), (3, .int (nI (w))), (4, .int (nI (o))), (7, .int (nI (k)))]) hC.1 hC.2.1 d_Whole_becomeShiftedLeft_66 hl (by decide) rfl (fun ls hl => ?_)
      refine lv_iinc (v := nI (k + 1)) (lv' := [(7, .int (nI (k + 1))), (5, .long (lN ((cy + (wm_u (wd a k)) * 2 ^ o) / 4294967296))), (0, .ref (ad i)), (1, .ref (ad a)), (3, .int (nI (w))), (4, .int (nI (o)))]) hC.1 hC.2.1 d_Whole_becomeShiftedLeft_68 hl (k := 5) rfl (nv_inc _) (by decide) rfl (fun ls hl => ?_)
      refine lv_goto (tgt := 20) hC.1 hC.2.1 d_Whole_becomeShiftedLeft_71 (by decide) ?_
      exact ih (k + 1) ((cy + wm_u (wd a k) * 2 ^ o) / 4294967296) (upd f (k + w) (nI (cy + wm_u (wd a k) * 2 ^ o))) (by omega) (by
        have h := wm_chain (d := wm_u (wd a k) * 2 ^ o) hS
        rw [wm_off_upd', h, wm_v_s, Nat.add_mul, Nat.mul_right_comm]) (by
        rw [Nat.div_lt_iff_lt_mul (by decide)]
        omega) (fun j h1 h2 => by rw [pk_un (by omega)]; exact hf j (by omega) h2) (by omega) H locs ls hM (lv_sub hl [2, 3, 4, 5, 1, 0] rfl)
set_option maxHeartbeats 4000000 in
set_option maxRecDepth 100000 in
theorem c_Whole_becomeShiftedLeft (l : Launch) (D : va_G) (ad : Nat → Nat) (cA cR : ClassId) (sz : Nat) (ln : Nat → Nat) (wd : Nat → Nat → Int32) (i a Na cnt : Nat) (hi : i < 19) (ha : a < 19) (hai : a ≠ i) (hz : wm_ze (wd i) (ln i)) (hra : wm_rep (wd a) (ln a) Na) (hcnt : cnt < 2 ^ 31) (hfit : ln a + cnt / 32 + 1 ≤ 2050) : Met l y_Whole_becomeShiftedLeft (Cond.code y_Whole_becomeShiftedLeft b_Whole_becomeShiftedLeft 8 none :: lw_T) ({ frames := 2, cells := 0, slots := 0, locals := 42 }) (va_Pc [.ref (ad i), .ref (ad a), .int (nI (cnt))] (wm_B D ad cA cR sz ln wd)) (va_Qv (fun u : wm_St => wm_up i (Na * 2 ^ cnt) ln wd u) (wm_E D ad cA cR sz) (wm_A ad sz)) 0 0 (wm_A ad sz) := by
  refine wm_met l (by decide) (Nat.le_of_ble_eq_true rfl) ?_
  intro p e s m below meth c ls hsz hC hK hr hlk hM hl
  subst hsz
  have hC : CallFix p m c b_Whole_becomeShiftedLeft 8 s _ lw_T R_Whole := hC
  have hl : lv_has ls 8 [(0, .ref (ad i)), (1, .ref (ad a)), (2, .int (nI (cnt)))] := hl
  have hz1 := hz.1
  obtain ⟨w, hw⟩ : ∃ z, z = cnt / 2 ^ 5 := ⟨_, rfl⟩
  obtain ⟨o, ho⟩ : ∃ z, z = cnt % 2 ^ 5 := ⟨_, rfl⟩
  have ho2 : o < 32 := by omega
  have hP : 2 ^ o ≤ 2 ^ 31 := Nat.pow_le_pow_right (by decide) (by omega)
  refine lv_iload_n hC.1 hC.2.1 d_Whole_becomeShiftedLeft_0 rfl (lv_at hl 2 rfl) ?_
  refine lv_iconst (v := nI 5) hC.1 hC.2.1 d_Whole_becomeShiftedLeft_1 (by decide) ?_
  refine nv_iushr hC (by omega) (by decide) d_Whole_becomeShiftedLeft_2 ?_
  refine nv_top (y := nI (w)) (by rw [hw]) ?_
  refine lv_istore_n (lv' := [(3, .int (nI (w))), (0, .ref (ad i)), (1, .ref (ad a)), (2, .int (nI (cnt)))]) hC.1 hC.2.1 d_Whole_becomeShiftedLeft_3 rfl hl (by decide) rfl (fun ls hl => ?_)
  refine lv_iload_n hC.1 hC.2.1 d_Whole_becomeShiftedLeft_4 rfl (lv_at hl 3 rfl) ?_
  refine lv_bipush (v := nI 31) hC.1 hC.2.1 d_Whole_becomeShiftedLeft_5 (by decide) ?_
  refine nv_iand (k := 5) hC (by omega) (by decide) d_Whole_becomeShiftedLeft_7 ?_
  refine nv_top (y := nI (o)) (by rw [ho]) ?_
  refine lv_istore (lv' := [(4, .int (nI (o))), (3, .int (nI (w))), (0, .ref (ad i)), (1, .ref (ad a)), (2, .int (nI (cnt)))]) hC.1 hC.2.1 d_Whole_becomeShiftedLeft_8 hl (by decide) rfl (fun ls hl => ?_)
  refine lv_aload_n hC.1 hC.2.1 d_Whole_becomeShiftedLeft_10 rfl (lv_at hl 2 rfl) ?_
  refine wm_callVv hC hK hM (As := []) (rest := []) (wm_at_o hi) rfl (c_Whole_clear l D ad cA cR _ ln wd i hi hz.1) kc_Whole_clear km_Whole_37 ki_Whole kn_Whole_clear ke_Whole_clear kd_Whole_clear ⟨rfl, rfl⟩ ⟨Nat.le_of_ble_eq_true rfl, Nat.le_of_ble_eq_true rfl⟩ rfl hl.1 (Nat.le_of_ble_eq_true rfl) d_Whole_becomeShiftedLeft_11 (fun u H locs hp hM => ?_)
  subst hp
  have hM : wm_M D ad cA cR s (va_up ln i 0) (va_up wd i (wm_clr (wd i) 0 (ln i))) H locs := by
    exact hM
  refine lv_lconst (v := lN 0) hC.1 hC.2.1 d_Whole_becomeShiftedLeft_14 (by decide) ?_
  refine lv_lstore (lv' := [(5, .long (lN (0))), (4, .int (nI (o))), (3, .int (nI (w))), (0, .ref (ad i)), (1, .ref (ad a)), (2, .int (nI (cnt)))]) hC.1 hC.2.1 d_Whole_becomeShiftedLeft_15 hl (by decide) rfl (fun ls hl => ?_)
  refine lv_iconst (v := nI 0) hC.1 hC.2.1 d_Whole_becomeShiftedLeft_17 (by decide) ?_
  refine lv_istore (lv' := [(7, .int (nI (0))), (5, .long (lN (0))), (4, .int (nI (o))), (3, .int (nI (w))), (0, .ref (ad i)), (1, .ref (ad a)), (2, .int (nI (cnt)))]) hC.1 hC.2.1 d_Whole_becomeShiftedLeft_18 hl (by decide) rfl (fun ls hl => ?_)
  refine lp_Whole_becomeShiftedLeft hC hK ln wd i a w o hi ha hai ho2 (by omega) (fun cy f hS hc hf H locs ls hM hl => ?_) (ln a + 1) 0 0 (wm_clr (wd i) 0 (ln i)) (Nat.zero_le _) (by rw [wm_v_0, wm_v_0]; simp) (Nat.pow_pos (by decide)) (fun j _ h2 => by
    by_cases h3 : j < ln i
    · exact wm_clr_in (Nat.zero_le _) h3
    · rw [wm_clr_hi (by omega)]; exact hz.2 j (by omega) h2) (by omega) _ _ _ hM (lv_sub hl [4, 5, 3, 2, 1, 0] rfl)
  refine lv_aload_n hC.1 hC.2.1 d_Whole_becomeShiftedLeft_74 rfl (lv_at hl 0 rfl) ?_
  refine wm_wds hC hK hM (j := i) hi kf_Whole_9 d_Whole_becomeShiftedLeft_75 ?_
  refine lv_aload_n hC.1 hC.2.1 d_Whole_becomeShiftedLeft_78 rfl (lv_at hl 1 rfl) ?_
  refine wm_len hC hK hM (j := a) ha kf_Whole_15 d_Whole_becomeShiftedLeft_79 ?_
  refine nv_top (y := nI (ln a)) (by rw [va_up_ne _ _ hai]) ?_
  refine lv_iload_n hC.1 hC.2.1 d_Whole_becomeShiftedLeft_82 rfl (lv_at hl 2 rfl) ?_
  refine nv_iadd hC d_Whole_becomeShiftedLeft_83 ?_
  refine lv_lload hC.1 hC.2.1 d_Whole_becomeShiftedLeft_84 (lv_at hl 4 rfl) ?_
  refine nv_l2i hC d_Whole_becomeShiftedLeft_86 ?_
  refine wm_ast_s hC hK hM (k := (ln a) + w) hi (by omega) d_Whole_becomeShiftedLeft_87 (fun H locs hM => ?_)
  refine lv_aload_n hC.1 hC.2.1 d_Whole_becomeShiftedLeft_88 rfl (lv_at hl 0 rfl) ?_
  refine lv_aload_n hC.1 hC.2.1 d_Whole_becomeShiftedLeft_89 rfl (lv_at hl 1 rfl) ?_
  refine wm_len hC hK hM (j := a) ha kf_Whole_15 d_Whole_becomeShiftedLeft_90 ?_
  refine nv_top (y := nI (ln a)) (by rw [va_up_ne _ _ hai]) ?_
  refine lv_iload_n hC.1 hC.2.1 d_Whole_becomeShiftedLeft_93 rfl (lv_at hl 2 rfl) ?_
  refine nv_iadd hC d_Whole_becomeShiftedLeft_94 ?_
  refine lv_iconst (v := nI 1) hC.1 hC.2.1 d_Whole_becomeShiftedLeft_95 (by decide) ?_
  refine nv_iadd hC d_Whole_becomeShiftedLeft_96 ?_
  refine wm_callVv hC hK hM (As := [.int (nI (((ln a) + w) + 1))]) (rest := []) (wm_at_o hi) rfl (c_Whole_settle l D ad cA cR _ (va_up ln i 0) (va_up wd i (upd f ((ln a) + w) (nI (cy)))) i (ln a + w + 1) hi (by rw [va_up_self]; omega) (by omega)) kc_Whole_settle km_Whole_19 ki_Whole kn_Whole_settle ke_Whole_settle kd_Whole_settle ⟨rfl, rfl⟩ ⟨Nat.le_of_ble_eq_true rfl, Nat.le_of_ble_eq_true rfl⟩ rfl hl.1 (Nat.le_of_ble_eq_true rfl) d_Whole_becomeShiftedLeft_97 (fun u H locs hp hM => ?_)
  refine wm_vret hC hK hM hr hlk ?_ d_Whole_becomeShiftedLeft_100
  rw [va_up_self, va_up_self, wm_uu, wm_uu] at hp
  refine wm_up_of hp (by omega) (fun k h3 h4 h5 => ?_) ?_
  · rw [pk_un (by omega)]
    exact hf k (Or.inr (by omega)) h5
  · rw [show ln a + w + 1 = w + (ln a + 1) by omega, wm_v_lead (fun j hj => by rw [pk_un (by omega)]; exact hf j (Or.inl hj) (by omega)), wm_off_upd', wm_v_upds, wm_un' (by omega), hS, hra.2.2.2, Nat.mul_left_comm, hw, ho, wm_cnt]
set_option maxHeartbeats 4000000 in
set_option maxRecDepth 100000 in
theorem lp_Whole_becomeShiftedRight {p : Program} {l : Launch} {e : Env} {R : Room} {s : State} {m : MethodId} {args : Array Value} {below : List Frame} {meth : Method} {c : Code} {Q : State → Prop} {D : va_G} {ad : Nat → Nat} {cA cR : ClassId} (hC : CallFix p m c b_Whole_becomeShiftedRight 9 s args lw_T R_Whole) (hK : va_K D classes (wm_ty cA cR) s) (ln : Nat → Nat) (wd : Nat → Nat → Int32) (i a w o pl : Nat) (hi : i < 19) (ha : a < 19) (ho : o < 32) (hw : pl + w ≤ 2049 ∨ pl = 0)
    (hex : ∀ (f : Nat → Int32), (∀ j, j < pl → wm_u (f j) = (wm_u (wd a (j + w + 1)) * 2 ^ 32 + wm_u (wd a (j + w))) / 2 ^ o % 4294967296) → (∀ j, pl ≤ j → f j = wd i j) → ∀ (H : Heap) (locs : List Loc) (ls : Array Slot), wm_M D ad cA cR s (ln) (va_up wd i f) H locs → lv_has ls 9 [(0, .ref (ad i)), (1, .ref (ad a)), (3, .int (nI (w))), (4, .int (nI (o))), (5, .int (nI (pl))), (6, .int (nI (pl)))] → W p l e R s m args below meth c H locs 0 0 Q (F0 m 83 ls [])) :
    ∀ (n : Nat) (k : Nat) (f : Nat → Int32), (k ≤ pl) → (∀ j, j < k → wm_u (f j) = (wm_u (wd a (j + w + 1)) * 2 ^ 32 + wm_u (wd a (j + w))) / 2 ^ o % 4294967296) → (∀ j, k ≤ j → f j = wd i j) → pl + 1 ≤ k + n → ∀ (H : Heap) (locs : List Loc) (ls : Array Slot), wm_M D ad cA cR s (ln) (va_up wd i f) H locs → lv_has ls 9 [(0, .ref (ad i)), (1, .ref (ad a)), (3, .int (nI (w))), (4, .int (nI (o))), (5, .int (nI (pl))), (6, .int (nI (k)))] → W p l e R s m args below meth c H locs 0 0 Q (F0 m 25 ls []) := by
  intro n
  induction n with
  | zero =>
    intro k f hk hv hf hn
    exact absurd hn (by omega)
  | succ n ih =>
    intro k f hk hv hf hn H locs ls hM hl
    have hu1 := wm_u_lt (wd a (k + w + 1))
    have hu2 := wm_u_lt (wd a (k + w))
    refine lv_iload hC.1 hC.2.1 d_Whole_becomeShiftedRight_25 (lv_at hl 5 rfl) ?_
    refine lv_iload hC.1 hC.2.1 d_Whole_becomeShiftedRight_27 (lv_at hl 4 rfl) ?_
    refine nv_icmp_ge (tgt := 83) hC (by omega) (by omega) d_Whole_becomeShiftedRight_29 (by decide) (fun hc2 => ?_) (fun hc2 => ?_)
    · have ek : k = pl := by omega
      subst ek
      exact hex f hv hf H locs ls hM (lv_sub hl [0, 1, 2, 3, 4, 5] rfl)
    · refine lv_aload_n hC.1 hC.2.1 d_Whole_becomeShiftedRight_32 rfl (lv_at hl 1 rfl) ?_
      refine wm_wds hC hK hM (j := a) ha kf_Whole_9 d_Whole_becomeShiftedRight_33 ?_
      refine lv_iload hC.1 hC.2.1 d_Whole_becomeShiftedRight_36 (lv_at hl 5 rfl) ?_
      refine lv_iload_n hC.1 hC.2.1 d_Whole_becomeShiftedRight_38 rfl (lv_at hl 2 rfl) ?_
      refine nv_iadd hC d_Whole_becomeShiftedRight_39 ?_
      refine lv_iconst (v := nI 1) hC.1 hC.2.1 d_Whole_becomeShiftedRight_40 (by decide) ?_
      refine nv_iadd hC d_Whole_becomeShiftedRight_41 ?_
      refine wm_ald hC hK hM (j := a) (k := (k + w) + 1) ha (by omega) d_Whole_becomeShiftedRight_42 ?_
      refine nv_top (y := wd a ((k + w) + 1)) (wm_rdge hf (by omega)) ?_
      refine nv_hi hC d_Whole_becomeShiftedRight_43 d_Whole_becomeShiftedRight_44 d_Whole_becomeShiftedRight_46 ?_
      refine lv_aload_n hC.1 hC.2.1 d_Whole_becomeShiftedRight_47 rfl (lv_at hl 1 rfl) ?_
      refine wm_wds hC hK hM (j := a) ha kf_Whole_9 d_Whole_becomeShiftedRight_48 ?_
      refine lv_iload hC.1 hC.2.1 d_Whole_becomeShiftedRight_51 (lv_at hl 5 rfl) ?_
      refine lv_iload_n hC.1 hC.2.1 d_Whole_becomeShiftedRight_53 rfl (lv_at hl 2 rfl) ?_
      refine nv_iadd hC d_Whole_becomeShiftedRight_54 ?_
      refine wm_ald hC hK hM (j := a) (k := k + w) ha (by omega) d_Whole_becomeShiftedRight_55 ?_
      refine nv_top (y := wd a (k + w)) (wm_rdge hf (by omega)) ?_
      refine nv_low hC kl_Whole_35 d_Whole_becomeShiftedRight_56 d_Whole_becomeShiftedRight_57 d_Whole_becomeShiftedRight_60 ?_
      refine nv_pair (k := 32) hC (by omega) (by omega) d_Whole_becomeShiftedRight_61 ?_
      refine lv_lstore (lv' := [(7, .long (lN (wm_u (wd a ((k + w) + 1)) * 2 ^ 32 + (wm_u (wd a (k + w)))))), (0, .ref (ad i)), (1, .ref (ad a)), (3, .int (nI (w))), (4, .int (nI (o))), (5, .int (nI (pl))), (6, .int (nI (k)))]) hC.1 hC.2.1 d_Whole_becomeShiftedRight_62 hl (by decide) rfl (fun ls hl => ?_)
      refine lv_aload_n hC.1 hC.2.1 d_Whole_becomeShiftedRight_64 rfl (lv_at hl 1 rfl) ?_
      refine wm_wds hC hK hM (j := i) hi kf_Whole_9 d_Whole_becomeShiftedRight_65 ?_
      refine lv_iload hC.1 hC.2.1 d_Whole_becomeShiftedRight_68 (lv_at hl 6 rfl) ?_
      refine lv_lload hC.1 hC.2.1 d_Whole_becomeShiftedRight_70 (lv_at hl 0 rfl) ?_
      refine lv_iload hC.1 hC.2.1 d_Whole_becomeShiftedRight_72 (lv_at hl 4 rfl) ?_
      refine nv_lushr hC (by omega) (by omega) d_Whole_becomeShiftedRight_74 ?_
      refine nv_l2i hC d_Whole_becomeShiftedRight_75 ?_
      refine wm_ast_s hC hK hM (k := k) hi (by omega) d_Whole_becomeShiftedRight_76 (fun H locs hM => ?_)
      refine lv_iinc (v := nI (k + 1)) (lv' := [(6, .int (nI (k + 1))), (7, .long (lN (wm_u (wd a ((k + w) + 1)) * 2 ^ 32 + (wm_u (wd a (k + w)))))), (0, .ref (ad i)), (1, .ref (ad a)), (3, .int (nI (w))), (4, .int (nI (o))), (5, .int (nI (pl)))]) hC.1 hC.2.1 d_Whole_becomeShiftedRight_77 hl (k := 6) rfl (nv_inc _) (by decide) rfl (fun ls hl => ?_)
      refine lv_goto (tgt := 25) hC.1 hC.2.1 d_Whole_becomeShiftedRight_80 (by decide) ?_
      exact ih (k + 1) (upd f k (nI ((wm_u (wd a (k + w + 1)) * 2 ^ 32 + wm_u (wd a (k + w))) / 2 ^ o))) (by omega) (fun j hj => by
        by_cases e : j = k
        · subst e
          rw [pk_us, wm_un]
        · rw [pk_un e]
          exact hv j (by omega)) (fun j hj => by rw [pk_un (by omega)]; exact hf j (by omega)) (by omega) H locs ls hM (lv_sub hl [2, 3, 4, 5, 6, 0] rfl)
set_option maxHeartbeats 4000000 in
set_option maxRecDepth 100000 in
theorem c_Whole_becomeShiftedRight (l : Launch) (D : va_G) (ad : Nat → Nat) (cA cR : ClassId) (sz : Nat) (ln : Nat → Nat) (wd : Nat → Nat → Int32) (i a Na cnt : Nat) (hi : i < 19) (ha : a < 19) (hz : wm_ze (wd i) (ln i)) (hra : wm_rep (wd a) (ln a) Na) (hla : ln a ≤ 2049) (hcnt : cnt < 2 ^ 31) : Met l y_Whole_becomeShiftedRight (Cond.code y_Whole_becomeShiftedRight b_Whole_becomeShiftedRight 9 none :: lw_T) ({ frames := 1, cells := 0, slots := 0, locals := 23 }) (va_Pc [.ref (ad i), .ref (ad a), .int (nI (cnt))] (wm_B D ad cA cR sz ln wd)) (va_Qv (fun u : wm_St => wm_up i (Na / 2 ^ cnt) ln wd u) (wm_E D ad cA cR sz) (wm_A ad sz)) 0 0 (wm_A ad sz) := by
  refine wm_met l (by decide) (Nat.le_of_ble_eq_true rfl) ?_
  intro p e s m below meth c ls hsz hC hK hr hlk hM hl
  subst hsz
  have hC : CallFix p m c b_Whole_becomeShiftedRight 9 s _ lw_T R_Whole := hC
  have hl : lv_has ls 9 [(0, .ref (ad i)), (1, .ref (ad a)), (2, .int (nI (cnt)))] := hl
  have hz1 := hz.1
  obtain ⟨w, hw⟩ : ∃ z, z = cnt / 2 ^ 5 := ⟨_, rfl⟩
  obtain ⟨o, ho⟩ : ∃ z, z = cnt % 2 ^ 5 := ⟨_, rfl⟩
  have ho2 : o < 32 := by omega
  refine lv_iload_n hC.1 hC.2.1 d_Whole_becomeShiftedRight_0 rfl (lv_at hl 2 rfl) ?_
  refine lv_iconst (v := nI 5) hC.1 hC.2.1 d_Whole_becomeShiftedRight_1 (by decide) ?_
  refine nv_iushr hC (by omega) (by decide) d_Whole_becomeShiftedRight_2 ?_
  refine nv_top (y := nI (w)) (by rw [hw]) ?_
  refine lv_istore_n (lv' := [(3, .int (nI (w))), (0, .ref (ad i)), (1, .ref (ad a)), (2, .int (nI (cnt)))]) hC.1 hC.2.1 d_Whole_becomeShiftedRight_3 rfl hl (by decide) rfl (fun ls hl => ?_)
  refine lv_iload_n hC.1 hC.2.1 d_Whole_becomeShiftedRight_4 rfl (lv_at hl 3 rfl) ?_
  refine lv_bipush (v := nI 31) hC.1 hC.2.1 d_Whole_becomeShiftedRight_5 (by decide) ?_
  refine nv_iand (k := 5) hC (by omega) (by decide) d_Whole_becomeShiftedRight_7 ?_
  refine nv_top (y := nI (o)) (by rw [ho]) ?_
  refine lv_istore (lv' := [(4, .int (nI (o))), (3, .int (nI (w))), (0, .ref (ad i)), (1, .ref (ad a)), (2, .int (nI (cnt)))]) hC.1 hC.2.1 d_Whole_becomeShiftedRight_8 hl (by decide) rfl (fun ls hl => ?_)
  refine lv_iconst (v := nI 0) hC.1 hC.2.1 d_Whole_becomeShiftedRight_10 (by decide) ?_
  refine lv_aload_n hC.1 hC.2.1 d_Whole_becomeShiftedRight_11 rfl (lv_at hl 3 rfl) ?_
  refine wm_len hC hK hM (j := a) ha kf_Whole_15 d_Whole_becomeShiftedRight_12 ?_
  refine lv_iload_n hC.1 hC.2.1 d_Whole_becomeShiftedRight_15 rfl (lv_at hl 1 rfl) ?_
  refine lv_isub hC.1 hC.2.1 d_Whole_becomeShiftedRight_16 ?_
  refine nv_mmax hC hl.1 kj_Whole_29 kj_s_max ki_Math kj_c_max (Nat.le_of_ble_eq_true rfl) (Nat.le_of_ble_eq_true rfl) d_Whole_becomeShiftedRight_17 ?_
  refine nv_top (y := nI (ln a - w)) (nv_max0 (by omega) (by omega)) ?_
  refine lv_istore (lv' := [(5, .int (nI (ln a - w))), (4, .int (nI (o))), (3, .int (nI (w))), (0, .ref (ad i)), (1, .ref (ad a)), (2, .int (nI (cnt)))]) hC.1 hC.2.1 d_Whole_becomeShiftedRight_20 hl (by decide) rfl (fun ls hl => ?_)
  refine lv_iconst (v := nI 0) hC.1 hC.2.1 d_Whole_becomeShiftedRight_22 (by decide) ?_
  refine lv_istore (lv' := [(6, .int (nI (0))), (5, .int (nI (ln a - w))), (4, .int (nI (o))), (3, .int (nI (w))), (0, .ref (ad i)), (1, .ref (ad a)), (2, .int (nI (cnt)))]) hC.1 hC.2.1 d_Whole_becomeShiftedRight_23 hl (by decide) rfl (fun ls hl => ?_)
  have hM : wm_M D ad cA cR s (ln) (va_up wd i (wd i)) s.heap [] := by
    rw [wm_eta]; exact hM
  refine lp_Whole_becomeShiftedRight hC hK ln wd i a w o (ln a - w) hi ha ho2 (by omega) (fun f hv hf H locs ls hM hl => ?_) (ln a - w + 1) 0 (wd i) (Nat.zero_le _) (fun j hj => absurd hj (by omega)) (fun _ _ => rfl) (by omega) _ _ _ hM (lv_sub hl [4, 5, 3, 2, 1, 0] rfl)
  refine lv_aload_n hC.1 hC.2.1 d_Whole_becomeShiftedRight_83 rfl (lv_at hl 0 rfl) ?_
  refine lv_iload hC.1 hC.2.1 d_Whole_becomeShiftedRight_84 (lv_at hl 4 rfl) ?_
  refine wm_callVv hC hK hM (As := [.int (nI (ln a - w))]) (rest := []) (wm_at_o hi) rfl (c_Whole_settle l D ad cA cR _ ln (va_up wd i f) i (ln a - w) hi hz.1 (by omega)) kc_Whole_settle km_Whole_19 ki_Whole kn_Whole_settle ke_Whole_settle kd_Whole_settle ⟨rfl, rfl⟩ ⟨Nat.le_of_ble_eq_true rfl, Nat.le_of_ble_eq_true rfl⟩ rfl hl.1 (Nat.le_of_ble_eq_true rfl) d_Whole_becomeShiftedRight_86 (fun u H locs hp hM => ?_)
  refine wm_vret hC hK hM hr hlk ?_ d_Whole_becomeShiftedRight_89
  rw [va_up_self, wm_uu] at hp
  refine wm_up_of hp (by omega) (fun k h3 h4 h5 => ?_) ?_
  · rw [hf k (by omega)]
    exact hz.2 k h4 h5
  · refine wm_of_dig' (fun j hj => ?_) ?_
    · rw [hv j hj, ← wm_cnt cnt, ← hw, ← ho, wm_shr_dig ho2, wm_rep_dig hra (by omega), wm_rep_dig hra (by omega)]
    · rw [← wm_cnt cnt, ← hw, ← ho]
      exact wm_shr_lt (wm_rep_lt hra)
