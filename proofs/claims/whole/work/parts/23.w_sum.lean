set_option maxHeartbeats 4000000 in
set_option maxRecDepth 100000 in
theorem lp_Whole_order {p : Program} {l : Launch} {e : Env} {R : Room} {s : State} {m : MethodId} {args : Array Value} {below : List Frame} {meth : Method} {c : Code} {Q : State → Prop} {D : va_G} {ad : Nat → Nat} {cA cR : ClassId} (hC : CallFix p m c b_Whole_order 3 s args lw_T R_Whole) (hK : va_K D classes (wm_ty cA cR) s) (ln : Nat → Nat) (wd : Nat → Nat → Int32) (i j Na Nb : Nat) (hi : i < 19) (hj : j < 19) (ha : wm_rep (wd i) (ln i) Na) (hb : wm_rep (wd j) (ln j) Nb) (hlen : ln i = ln j) (hret : ∀ (r : Int32) (pc : Nat) (H : Heap) (locs : List Loc) (ls : Array Slot), decode b_Whole_order pc = .ok (.ireturn, 1) → r = wm_ord Na Nb → wm_M D ad cA cR s ln wd H locs → W p l e R s m args below meth c H locs 0 0 Q (F0 m pc ls [.int r])) :
    ∀ (n : Nat) (x : Nat), (x ≤ ln i) → (∀ k, x ≤ k → k < ln i → wd i k = wd j k) → x + 1 ≤ n → ∀ (H : Heap) (locs : List Loc) (ls : Array Slot), wm_M D ad cA cR s (ln) (wd) H locs → lv_has ls 3 [(0, .ref (ad i)), (1, .ref (ad j)), (2, .int (nI (x) + (-1)))] → W p l e R s m args below meth c H locs 0 0 Q (F0 m 35 ls []) := by
  intro n
  induction n with
  | zero =>
    intro x hx heq hn
    exact absurd hn (by omega)
  | succ n ih =>
    intro x hx heq hn H locs ls hM hl
    have hl1 := ha.1
    refine lv_iload_n hC.1 hC.2.1 d_Whole_order_35 rfl (lv_at hl 2 rfl) ?_
    refine nv_down_lt (tgt := 92) hC (by omega) d_Whole_order_36 (by decide) (fun hz => ?_) (fun y hy => ?_)
    · subst hz
      refine lv_iconst (v := nI 0) hC.1 hC.2.1 d_Whole_order_92 (by decide) ?_
      exact hret _ _ H locs ls d_Whole_order_93 (wm_ord_eq (by rw [← ha.2.2.2, ← hb.2.2.2, ← hlen]; exact wm_v_congr (fun k hk => heq k (Nat.zero_le _) hk))).symm hM
    · subst hy
      have hl : lv_has ls 3 [(0, .ref (ad i)), (1, .ref (ad j)), (2, .int (nI (y)))] := by rw [pk_m1] at hl; exact hl
      refine lv_aload_n hC.1 hC.2.1 d_Whole_order_39 rfl (lv_at hl 0 rfl) ?_
      refine wm_wds hC hK hM (j := i) hi kf_Whole_9 d_Whole_order_40 ?_
      refine lv_iload_n hC.1 hC.2.1 d_Whole_order_43 rfl (lv_at hl 2 rfl) ?_
      refine wm_ald hC hK hM (j := i) (k := y) hi (by omega) d_Whole_order_44 ?_
      refine lv_aload_n hC.1 hC.2.1 d_Whole_order_45 rfl (lv_at hl 1 rfl) ?_
      refine wm_wds hC hK hM (j := j) hj kf_Whole_9 d_Whole_order_46 ?_
      refine lv_iload_n hC.1 hC.2.1 d_Whole_order_49 rfl (lv_at hl 2 rfl) ?_
      refine wm_ald hC hK hM (j := j) (k := y) hj (by omega) d_Whole_order_50 ?_
      refine lv_icmp_eq (tgt := 86) hC.1 hC.2.1 d_Whole_order_51 (by decide) (fun hc => ?_) (fun hc => ?_)
      · refine lv_iinc (v := nI (y) + (-1)) (lv' := [(2, .int (nI (y) + (-1))), (0, .ref (ad i)), (1, .ref (ad j))]) hC.1 hC.2.1 d_Whole_order_86 hl (k := 2) rfl (rfl) (by decide) rfl (fun ls hl => ?_)
        refine lv_goto (tgt := 35) hC.1 hC.2.1 d_Whole_order_89 (by decide) ?_
        exact ih y (by omega) (fun k h1 h2 => by
        rcases Nat.eq_or_lt_of_le h1 with z | z
        · rw [← z]; exact hc
        · exact heq k (by omega) h2) (by omega) H locs ls hM (lv_sub hl [1, 2, 0] rfl)
      · have hu1 := wm_u_lt (wd i y)
        have hu2 := wm_u_lt (wd j y)
        have hne : wm_u (wd i y) ≠ wm_u (wd j y) := fun z => hc (wm_u_inj z)
        refine lv_aload_n hC.1 hC.2.1 d_Whole_order_54 rfl (lv_at hl 0 rfl) ?_
        refine wm_wds hC hK hM (j := i) hi kf_Whole_9 d_Whole_order_55 ?_
        refine lv_iload_n hC.1 hC.2.1 d_Whole_order_58 rfl (lv_at hl 2 rfl) ?_
        refine wm_ald hC hK hM (j := i) (k := y) hi (by omega) d_Whole_order_59 ?_
        refine nv_low hC kl_Whole_35 d_Whole_order_60 d_Whole_order_61 d_Whole_order_64 ?_
        refine lv_aload_n hC.1 hC.2.1 d_Whole_order_65 rfl (lv_at hl 1 rfl) ?_
        refine wm_wds hC hK hM (j := j) hj kf_Whole_9 d_Whole_order_66 ?_
        refine lv_iload_n hC.1 hC.2.1 d_Whole_order_69 rfl (lv_at hl 2 rfl) ?_
        refine wm_ald hC hK hM (j := j) (k := y) hj (by omega) d_Whole_order_70 ?_
        refine nv_low hC kl_Whole_35 d_Whole_order_71 d_Whole_order_72 d_Whole_order_75 ?_
        refine nv_lc_ge (tgt := 84) hC (by omega) (by omega) d_Whole_order_76 d_Whole_order_77 (by decide) (fun hl2 => ?_) (fun hl2 => ?_)
        · refine lv_iconst (v := nI 1) hC.1 hC.2.1 d_Whole_order_84 (by decide) ?_
          exact hret _ _ H locs ls d_Whole_order_85 (wm_ord_gt (by rw [← ha.2.2.2, ← hb.2.2.2, ← hlen]; exact wm_v_cmp (i := y) (by omega) (fun k h1 h2 => (heq k (by omega) h2).symm) (by omega))).symm hM
        · refine lv_iconst (v := -1) hC.1 hC.2.1 d_Whole_order_80 (by decide) ?_
          refine lv_goto (tgt := 85) hC.1 hC.2.1 d_Whole_order_81 (by decide) ?_
          exact hret _ _ H locs ls d_Whole_order_85 (wm_ord_lt (by rw [← ha.2.2.2, ← hb.2.2.2, ← hlen]; exact wm_v_cmp (i := y) (by omega) (fun k h1 h2 => heq k (by omega) h2) hl2)).symm hM
set_option maxHeartbeats 4000000 in
set_option maxRecDepth 100000 in
theorem c_Whole_order (l : Launch) (D : va_G) (ad : Nat → Nat) (cA cR : ClassId) (sz : Nat) (ln : Nat → Nat) (wd : Nat → Nat → Int32) (i j Na Nb : Nat) (hi : i < 19) (hj : j < 19) (ha : wm_rep (wd i) (ln i) Na) (hb : wm_rep (wd j) (ln j) Nb) : Met l y_Whole_order (Cond.code y_Whole_order b_Whole_order 3 (some .int) :: lw_T) ({ frames := 0, cells := 0, slots := 0, locals := 0 }) (va_Pc [.ref (ad i), .ref (ad j)] (wm_B D ad cA cR sz ln wd)) (va_Qi (fun (r : Int32) (u : wm_St) => r = wm_ord Na Nb ∧ u = (ln, wd)) (wm_E D ad cA cR sz) (wm_A ad sz)) 0 0 (wm_A ad sz) := by
  refine wm_met l (by decide) (Nat.le_of_ble_eq_true rfl) ?_
  intro p e s m below meth c ls hsz hC hK hr hlk hM hl
  subst hsz
  have hC : CallFix p m c b_Whole_order 3 s _ lw_T R_Whole := hC
  have hl : lv_has ls 3 [(0, .ref (ad i)), (1, .ref (ad j))] := hl
  have hl1 := ha.1
  have hl2 := hb.1
  refine lv_aload_n hC.1 hC.2.1 d_Whole_order_0 rfl (lv_at hl 0 rfl) ?_
  refine wm_len hC hK hM (j := i) hi kf_Whole_15 d_Whole_order_1 ?_
  refine lv_aload_n hC.1 hC.2.1 d_Whole_order_4 rfl (lv_at hl 1 rfl) ?_
  refine wm_len hC hK hM (j := j) hj kf_Whole_15 d_Whole_order_5 ?_
  refine nv_icmp_eq (tgt := 28) hC (by omega) (by omega) d_Whole_order_8 (by decide) (fun hc => ?_) (fun hc => ?_)
  · refine lv_aload_n hC.1 hC.2.1 d_Whole_order_28 rfl (lv_at hl 0 rfl) ?_
    refine wm_len hC hK hM (j := i) hi kf_Whole_15 d_Whole_order_29 ?_
    refine lv_iconst (v := nI 1) hC.1 hC.2.1 d_Whole_order_32 (by decide) ?_
    refine nv_isub1 hC d_Whole_order_33 ?_
    refine lv_istore_n (lv' := [(2, .int (nI (ln i) + (-1))), (0, .ref (ad i)), (1, .ref (ad j))]) hC.1 hC.2.1 d_Whole_order_34 rfl hl (by decide) rfl (fun ls hl => ?_)
    exact lp_Whole_order hC hK ln wd i j Na Nb hi hj ha hb hc (fun r pc H locs ls hd hrr hM => wm_iret hC hK hM hr hlk ⟨hrr, rfl⟩ hd) (ln i + 1) (ln i) (Nat.le_refl _) (fun k h1 h2 => absurd h2 (by omega)) (Nat.le_refl _) _ _ _ hM (lv_sub hl [1, 2, 0] rfl)
  · refine lv_aload_n hC.1 hC.2.1 d_Whole_order_11 rfl (lv_at hl 0 rfl) ?_
    refine wm_len hC hK hM (j := i) hi kf_Whole_15 d_Whole_order_12 ?_
    refine lv_aload_n hC.1 hC.2.1 d_Whole_order_15 rfl (lv_at hl 1 rfl) ?_
    refine wm_len hC hK hM (j := j) hj kf_Whole_15 d_Whole_order_16 ?_
    refine nv_icmp_ge (tgt := 26) hC (by omega) (by omega) d_Whole_order_19 (by decide) (fun hd => ?_) (fun hd => ?_)
    · refine lv_iconst (v := nI 1) hC.1 hC.2.1 d_Whole_order_26 (by decide) ?_
      exact wm_iret hC hK hM hr hlk ⟨(wm_ord_gt (wm_rep_cmp hb ha (by omega))).symm, rfl⟩ d_Whole_order_27
    · refine lv_iconst (v := -1) hC.1 hC.2.1 d_Whole_order_22 (by decide) ?_
      refine lv_goto (tgt := 27) hC.1 hC.2.1 d_Whole_order_23 (by decide) ?_
      exact wm_iret hC hK hM hr hlk ⟨(wm_ord_lt (wm_rep_cmp ha hb hd)).symm, rfl⟩ d_Whole_order_27
set_option maxHeartbeats 4000000 in
set_option maxRecDepth 100000 in
theorem lp_Whole_becomeSum {p : Program} {l : Launch} {e : Env} {R : Room} {s : State} {m : MethodId} {args : Array Value} {below : List Frame} {meth : Method} {c : Code} {Q : State → Prop} {D : va_G} {ad : Nat → Nat} {cA cR : ClassId} (hC : CallFix p m c b_Whole_becomeSum 7 s args lw_T R_Whole) (hK : va_K D classes (wm_ty cA cR) s) (ln : Nat → Nat) (wd : Nat → Nat → Int32) (i a b cnt : Nat) (hi : i < 19) (ha : a < 19) (hb : b < 19) (hai : a ≠ i) (hbi : b ≠ i) (hcnt : cnt ≤ 2049)
    (hex : ∀ (cy : Nat) (f : Nat → Int32), (wm_v f cnt + cy * 4294967296 ^ cnt = wm_v (wd a) cnt + wm_v (wd b) cnt) → (cy ≤ 1) → ((∀ j, cnt ≤ j → f j = wd i j)) → ∀ (H : Heap) (locs : List Loc) (ls : Array Slot), wm_M D ad cA cR s (ln) (va_up wd i f) H locs → lv_has ls 7 [(0, .ref (ad i)), (1, .ref (ad a)), (2, .ref (ad b)), (3, .int (nI (cnt))), (4, .long (lN (cy))), (6, .int (nI (cnt)))] → W p l e R s m args below meth c H locs 0 0 Q (F0 m 77 ls [])) :
    ∀ (n : Nat) (k : Nat) (cy : Nat) (f : Nat → Int32), (k ≤ cnt) → (wm_v f k + cy * 4294967296 ^ k = wm_v (wd a) k + wm_v (wd b) k) → (cy ≤ 1) → (∀ j, k ≤ j → f j = wd i j) → cnt + 1 ≤ k + n → ∀ (H : Heap) (locs : List Loc) (ls : Array Slot), wm_M D ad cA cR s (ln) (va_up wd i f) H locs → lv_has ls 7 [(0, .ref (ad i)), (1, .ref (ad a)), (2, .ref (ad b)), (3, .int (nI (cnt))), (4, .long (lN (cy))), (6, .int (nI (k)))] → W p l e R s m args below meth c H locs 0 0 Q (F0 m 18 ls []) := by
  intro n
  induction n with
  | zero =>
    intro k cy f hk hS hc hf hn
    exact absurd hn (by omega)
  | succ n ih =>
    intro k cy f hk hS hc hf hn H locs ls hM hl
    have hua := wm_u_lt (wd a k)
    have hub := wm_u_lt (wd b k)
    refine lv_iload hC.1 hC.2.1 d_Whole_becomeSum_18 (lv_at hl 5 rfl) ?_
    refine lv_iload_n hC.1 hC.2.1 d_Whole_becomeSum_20 rfl (lv_at hl 3 rfl) ?_
    refine nv_icmp_ge (tgt := 77) hC (by omega) (by omega) d_Whole_becomeSum_21 (by decide) (fun hc2 => ?_) (fun hc2 => ?_)
    · obtain rfl : k = cnt := by omega
      exact hex cy f hS hc hf H locs ls hM (lv_sub hl [0, 1, 2, 3, 4, 5] rfl)
    · refine lv_lload hC.1 hC.2.1 d_Whole_becomeSum_24 (lv_at hl 4 rfl) ?_
      refine lv_aload_n hC.1 hC.2.1 d_Whole_becomeSum_26 rfl (lv_at hl 1 rfl) ?_
      refine wm_wds hC hK hM (j := a) ha kf_Whole_9 d_Whole_becomeSum_27 ?_
      refine lv_iload hC.1 hC.2.1 d_Whole_becomeSum_30 (lv_at hl 5 rfl) ?_
      refine wm_ald_o hC hK hM (j := a) (k := k) ha hai (by omega) d_Whole_becomeSum_32 ?_
      refine nv_low hC kl_Whole_35 d_Whole_becomeSum_33 d_Whole_becomeSum_34 d_Whole_becomeSum_37 ?_
      refine lv_aload_n hC.1 hC.2.1 d_Whole_becomeSum_38 rfl (lv_at hl 2 rfl) ?_
      refine wm_wds hC hK hM (j := b) hb kf_Whole_9 d_Whole_becomeSum_39 ?_
      refine lv_iload hC.1 hC.2.1 d_Whole_becomeSum_42 (lv_at hl 5 rfl) ?_
      refine wm_ald_o hC hK hM (j := b) (k := k) hb hbi (by omega) d_Whole_becomeSum_44 ?_
      refine nv_low hC kl_Whole_35 d_Whole_becomeSum_45 d_Whole_becomeSum_46 d_Whole_becomeSum_49 ?_
      refine nv_ladd hC d_Whole_becomeSum_50 ?_
      refine nv_ladd hC d_Whole_becomeSum_51 ?_
      refine lv_lstore (lv' := [(4, .long (lN (cy + ((wm_u (wd a k)) + (wm_u (wd b k)))))), (0, .ref (ad i)), (1, .ref (ad a)), (2, .ref (ad b)), (3, .int (nI (cnt))), (6, .int (nI (k)))]) hC.1 hC.2.1 d_Whole_becomeSum_52 hl (by decide) rfl (fun ls hl => ?_)
      refine lv_aload_n hC.1 hC.2.1 d_Whole_becomeSum_54 rfl (lv_at hl 1 rfl) ?_
      refine wm_wds hC hK hM (j := i) hi kf_Whole_9 d_Whole_becomeSum_55 ?_
      refine lv_iload hC.1 hC.2.1 d_Whole_becomeSum_58 (lv_at hl 5 rfl) ?_
      refine lv_lload hC.1 hC.2.1 d_Whole_becomeSum_60 (lv_at hl 0 rfl) ?_
      refine nv_l2i hC d_Whole_becomeSum_62 ?_
      refine wm_ast_s hC hK hM (k := k) hi (by omega) d_Whole_becomeSum_63 (fun H locs hM => ?_)
      refine lv_lload hC.1 hC.2.1 d_Whole_becomeSum_64 (lv_at hl 0 rfl) ?_
      refine lv_bipush (v := nI 32) hC.1 hC.2.1 d_Whole_becomeSum_66 (by decide) ?_
      refine nv_lushr32 hC (by omega) d_Whole_becomeSum_68 ?_
      refine lv_lstore (lv' := [(4, .long (lN ((cy + ((wm_u (wd a k)) + (wm_u (wd b k)))) / 4294967296))), (0, .ref (ad i)), (1, .ref (ad a)), (2, .ref (ad b)), (3, .int (nI (cnt))), (6, .int (nI (k)))]) hC.1 hC.2.1 d_Whole_becomeSum_69 hl (by decide) rfl (fun ls hl => ?_)
      refine lv_iinc (v := nI (k + 1)) (lv' := [(6, .int (nI (k + 1))), (4, .long (lN ((cy + ((wm_u (wd a k)) + (wm_u (wd b k)))) / 4294967296))), (0, .ref (ad i)), (1, .ref (ad a)), (2, .ref (ad b)), (3, .int (nI (cnt)))]) hC.1 hC.2.1 d_Whole_becomeSum_71 hl (k := 5) rfl (nv_inc _) (by decide) rfl (fun ls hl => ?_)
      refine lv_goto (tgt := 18) hC.1 hC.2.1 d_Whole_becomeSum_74 (by decide) ?_
      exact ih (k + 1) ((cy + (wm_u (wd a k) + wm_u (wd b k))) / 4294967296) (upd f k (nI (cy + (wm_u (wd a k) + wm_u (wd b k))))) (by omega) (by
        have h := wm_chain (d := wm_u (wd a k) + wm_u (wd b k)) hS
        rw [h, wm_v_s, wm_v_s, Nat.add_mul]; omega) (by omega) (fun j hj => by rw [pk_un (by omega)]; exact hf j (by omega)) (by omega) H locs ls hM (lv_sub hl [2, 3, 4, 5, 1, 0] rfl)
set_option maxHeartbeats 4000000 in
set_option maxRecDepth 100000 in
theorem c_Whole_becomeSum (l : Launch) (D : va_G) (ad : Nat → Nat) (cA cR : ClassId) (sz : Nat) (ln : Nat → Nat) (wd : Nat → Nat → Int32) (i a b Na Nb : Nat) (hi : i < 19) (ha : a < 19) (hb : b < 19) (hai : a ≠ i) (hbi : b ≠ i) (hz : wm_ze (wd i) (ln i)) (hra : wm_rep (wd a) (ln a) Na) (hrb : wm_rep (wd b) (ln b) Nb) (hla : ln a ≤ 2049) (hlb : ln b ≤ 2049) : Met l y_Whole_becomeSum (Cond.code y_Whole_becomeSum b_Whole_becomeSum 7 none :: lw_T) ({ frames := 1, cells := 0, slots := 0, locals := 23 }) (va_Pc [.ref (ad i), .ref (ad a), .ref (ad b)] (wm_B D ad cA cR sz ln wd)) (va_Qv (fun u : wm_St => wm_up i (Na + Nb) ln wd u) (wm_E D ad cA cR sz) (wm_A ad sz)) 0 0 (wm_A ad sz) := by
  refine wm_met l (by decide) (Nat.le_of_ble_eq_true rfl) ?_
  intro p e s m below meth c ls hsz hC hK hr hlk hM hl
  subst hsz
  have hC : CallFix p m c b_Whole_becomeSum 7 s _ lw_T R_Whole := hC
  have hl : lv_has ls 7 [(0, .ref (ad i)), (1, .ref (ad a)), (2, .ref (ad b))] := hl
  have hz1 := hz.1
  refine lv_aload_n hC.1 hC.2.1 d_Whole_becomeSum_0 rfl (lv_at hl 1 rfl) ?_
  refine wm_len hC hK hM (j := a) ha kf_Whole_15 d_Whole_becomeSum_1 ?_
  refine lv_aload_n hC.1 hC.2.1 d_Whole_becomeSum_4 rfl (lv_at hl 2 rfl) ?_
  refine wm_len hC hK hM (j := b) hb kf_Whole_15 d_Whole_becomeSum_5 ?_
  refine nv_mmax hC hl.1 kj_Whole_29 kj_s_max ki_Math kj_c_max (Nat.le_of_ble_eq_true rfl) (Nat.le_of_ble_eq_true rfl) d_Whole_becomeSum_8 ?_
  refine nv_top (y := nI (max (ln a) (ln b))) (nv_maxi (by omega) (by omega)) ?_
  refine lv_istore_n (lv' := [(3, .int (nI (max (ln a) (ln b)))), (0, .ref (ad i)), (1, .ref (ad a)), (2, .ref (ad b))]) hC.1 hC.2.1 d_Whole_becomeSum_11 rfl hl (by decide) rfl (fun ls hl => ?_)
  refine lv_lconst (v := lN 0) hC.1 hC.2.1 d_Whole_becomeSum_12 (by decide) ?_
  refine lv_lstore (lv' := [(4, .long (lN (0))), (3, .int (nI (max (ln a) (ln b)))), (0, .ref (ad i)), (1, .ref (ad a)), (2, .ref (ad b))]) hC.1 hC.2.1 d_Whole_becomeSum_13 hl (by decide) rfl (fun ls hl => ?_)
  refine lv_iconst (v := nI 0) hC.1 hC.2.1 d_Whole_becomeSum_15 (by decide) ?_
  refine lv_istore (lv' := [(6, .int (nI (0))), (4, .long (lN (0))), (3, .int (nI (max (ln a) (ln b)))), (0, .ref (ad i)), (1, .ref (ad a)), (2, .ref (ad b))]) hC.1 hC.2.1 d_Whole_becomeSum_16 hl (by decide) rfl (fun ls hl => ?_)
  have hM : wm_M D ad cA cR s (ln) (va_up wd i (wd i)) s.heap [] := by
    rw [wm_eta]; exact hM
  obtain ⟨cnt, hcnt⟩ : ∃ z, z = max (ln a) (ln b) := ⟨_, rfl⟩
  rw [← hcnt] at hl
  refine lp_Whole_becomeSum hC hK ln wd i a b cnt hi ha hb hai hbi (by omega) (fun cy f hS hc hf H locs ls hM hl => ?_) (cnt + 1) 0 0 (wd i) (Nat.zero_le _) rfl (Nat.zero_le _) (fun _ _ => rfl) (by omega) _ _ _ hM (lv_sub hl [3, 4, 5, 2, 1, 0] rfl)
  refine lv_aload_n hC.1 hC.2.1 d_Whole_becomeSum_77 rfl (lv_at hl 0 rfl) ?_
  refine wm_wds hC hK hM (j := i) hi kf_Whole_9 d_Whole_becomeSum_78 ?_
  refine lv_iload_n hC.1 hC.2.1 d_Whole_becomeSum_81 rfl (lv_at hl 3 rfl) ?_
  refine lv_lload hC.1 hC.2.1 d_Whole_becomeSum_82 (lv_at hl 4 rfl) ?_
  refine nv_l2i hC d_Whole_becomeSum_84 ?_
  refine wm_ast_s hC hK hM (k := cnt) hi (by omega) d_Whole_becomeSum_85 (fun H locs hM => ?_)
  refine lv_aload_n hC.1 hC.2.1 d_Whole_becomeSum_86 rfl (lv_at hl 0 rfl) ?_
  refine lv_iload_n hC.1 hC.2.1 d_Whole_becomeSum_87 rfl (lv_at hl 3 rfl) ?_
  refine lv_iconst (v := nI 1) hC.1 hC.2.1 d_Whole_becomeSum_88 (by decide) ?_
  refine nv_iadd hC d_Whole_becomeSum_89 ?_
  refine wm_callVv hC hK hM (As := [.int (nI (cnt + 1))]) (rest := []) (wm_at_o hi) rfl (c_Whole_settle l D ad cA cR _ ln (va_up wd i (upd f cnt (nI (cy)))) i (cnt + 1) hi hz.1 (by omega)) kc_Whole_settle km_Whole_19 ki_Whole kn_Whole_settle ke_Whole_settle kd_Whole_settle ⟨rfl, rfl⟩ ⟨Nat.le_of_ble_eq_true rfl, Nat.le_of_ble_eq_true rfl⟩ rfl hl.1 (Nat.le_of_ble_eq_true rfl) d_Whole_becomeSum_90 (fun u H locs hp hM => ?_)
  refine wm_vret hC hK hM hr hlk ?_ d_Whole_becomeSum_93
  rw [va_up_self, wm_uu] at hp
  refine wm_up_of hp (by omega) (fun k h3 h4 h5 => ?_) ?_
  · rw [pk_un (by omega), hf k (by omega)]
    exact hz.2 k h4 h5
  · rw [wm_v_upds, wm_un' (by omega), hS, wm_rep_v hra (by omega) (by omega), wm_rep_v hrb (by omega) (by omega)]
set_option maxHeartbeats 4000000 in
set_option maxRecDepth 100000 in
theorem lp_Whole_becomeDifference {p : Program} {l : Launch} {e : Env} {R : Room} {s : State} {m : MethodId} {args : Array Value} {below : List Frame} {meth : Method} {c : Code} {Q : State → Prop} {D : va_G} {ad : Nat → Nat} {cA cR : ClassId} (hC : CallFix p m c b_Whole_becomeDifference 9 s args lw_T R_Whole) (hK : va_K D classes (wm_ty cA cR) s) (ln : Nat → Nat) (wd : Nat → Nat → Int32) (i a b cnt : Nat) (hi : i < 19) (ha : a < 19) (hb : b < 19) (hai : a ≠ i) (hbi : b ≠ i) (hcnt : cnt ≤ 2049)
    (hex : ∀ (cy : Nat) (f : Nat → Int32), (wm_v f cnt + wm_v (wd b) cnt = wm_v (wd a) cnt + cy * 4294967296 ^ cnt) → (cy ≤ 1) → ((∀ j, cnt ≤ j → f j = wd i j)) → ∀ (H : Heap) (locs : List Loc) (ls : Array Slot), wm_M D ad cA cR s (ln) (va_up wd i f) H locs → lv_has ls 9 [(0, .ref (ad i)), (1, .ref (ad a)), (2, .ref (ad b)), (3, .int (nI (cnt))), (4, .long (lN (cy))), (6, .int (nI (cnt)))] → W p l e R s m args below meth c H locs 0 0 Q (F0 m 70 ls [])) :
    ∀ (n : Nat) (k : Nat) (cy : Nat) (f : Nat → Int32), (k ≤ cnt) → (wm_v f k + wm_v (wd b) k = wm_v (wd a) k + cy * 4294967296 ^ k) → (cy ≤ 1) → (∀ j, k ≤ j → f j = wd i j) → cnt + 1 ≤ k + n → ∀ (H : Heap) (locs : List Loc) (ls : Array Slot), wm_M D ad cA cR s (ln) (va_up wd i f) H locs → lv_has ls 9 [(0, .ref (ad i)), (1, .ref (ad a)), (2, .ref (ad b)), (3, .int (nI (cnt))), (4, .long (lN (cy))), (6, .int (nI (k)))] → W p l e R s m args below meth c H locs 0 0 Q (F0 m 11 ls []) := by
  intro n
  induction n with
  | zero =>
    intro k cy f hk hS hc hf hn
    exact absurd hn (by omega)
  | succ n ih =>
    intro k cy f hk hS hc hf hn H locs ls hM hl
    have hua := wm_u_lt (wd a k)
    have hub := wm_u_lt (wd b k)
    refine lv_iload hC.1 hC.2.1 d_Whole_becomeDifference_11 (lv_at hl 5 rfl) ?_
    refine lv_iload_n hC.1 hC.2.1 d_Whole_becomeDifference_13 rfl (lv_at hl 3 rfl) ?_
    refine nv_icmp_ge (tgt := 70) hC (by omega) (by omega) d_Whole_becomeDifference_14 (by decide) (fun hc2 => ?_) (fun hc2 => ?_)
    · obtain rfl : k = cnt := by omega
      exact hex cy f hS hc hf H locs ls hM (lv_sub hl [0, 1, 2, 3, 4, 5] rfl)
    · refine lv_aload_n hC.1 hC.2.1 d_Whole_becomeDifference_17 rfl (lv_at hl 1 rfl) ?_
      refine wm_wds hC hK hM (j := a) ha kf_Whole_9 d_Whole_becomeDifference_18 ?_
      refine lv_iload hC.1 hC.2.1 d_Whole_becomeDifference_21 (lv_at hl 5 rfl) ?_
      refine wm_ald_o hC hK hM (j := a) (k := k) ha hai (by omega) d_Whole_becomeDifference_23 ?_
      refine nv_low hC kl_Whole_35 d_Whole_becomeDifference_24 d_Whole_becomeDifference_25 d_Whole_becomeDifference_28 ?_
      refine lv_aload_n hC.1 hC.2.1 d_Whole_becomeDifference_29 rfl (lv_at hl 2 rfl) ?_
      refine wm_wds hC hK hM (j := b) hb kf_Whole_9 d_Whole_becomeDifference_30 ?_
      refine lv_iload hC.1 hC.2.1 d_Whole_becomeDifference_33 (lv_at hl 5 rfl) ?_
      refine wm_ald_o hC hK hM (j := b) (k := k) hb hbi (by omega) d_Whole_becomeDifference_35 ?_
      refine nv_low hC kl_Whole_35 d_Whole_becomeDifference_36 d_Whole_becomeDifference_37 d_Whole_becomeDifference_40 ?_
      refine nz_lsubn hC d_Whole_becomeDifference_41 ?_
      refine lv_lload hC.1 hC.2.1 d_Whole_becomeDifference_42 (lv_at hl 4 rfl) ?_
      refine nz_lsubm hC d_Whole_becomeDifference_44 ?_
      refine lv_lstore (lv' := [(7, .long (lz_i (((wm_u (wd a k) : Nat) : Int) - ((wm_u (wd b k) : Nat) : Int) - ((cy : Nat) : Int)))), (0, .ref (ad i)), (1, .ref (ad a)), (2, .ref (ad b)), (3, .int (nI (cnt))), (4, .long (lN (cy))), (6, .int (nI (k)))]) hC.1 hC.2.1 d_Whole_becomeDifference_45 hl (by decide) rfl (fun ls hl => ?_)
      refine lv_aload_n hC.1 hC.2.1 d_Whole_becomeDifference_47 rfl (lv_at hl 1 rfl) ?_
      refine wm_wds hC hK hM (j := i) hi kf_Whole_9 d_Whole_becomeDifference_48 ?_
      refine lv_iload hC.1 hC.2.1 d_Whole_becomeDifference_51 (lv_at hl 6 rfl) ?_
      refine lv_lload hC.1 hC.2.1 d_Whole_becomeDifference_53 (lv_at hl 0 rfl) ?_
      refine nz_l2i hC d_Whole_becomeDifference_55 ?_
      refine wm_ast_s hC hK hM (k := k) hi (by omega) d_Whole_becomeDifference_56 (fun H locs hM => ?_)
      refine lv_lload hC.1 hC.2.1 d_Whole_becomeDifference_57 (lv_at hl 0 rfl) ?_
      refine lv_bipush (v := nI 63) hC.1 hC.2.1 d_Whole_becomeDifference_59 (by decide) ?_
      refine nz_63 hC (by omega) (by omega) d_Whole_becomeDifference_61 ?_
      refine lv_lstore (lv' := [(4, .long (lN (if ((wm_u (wd a k) : Nat) : Int) - ((wm_u (wd b k) : Nat) : Int) - ((cy : Nat) : Int) < 0 then 1 else 0))), (7, .long (lz_i (((wm_u (wd a k) : Nat) : Int) - ((wm_u (wd b k) : Nat) : Int) - ((cy : Nat) : Int)))), (0, .ref (ad i)), (1, .ref (ad a)), (2, .ref (ad b)), (3, .int (nI (cnt))), (6, .int (nI (k)))]) hC.1 hC.2.1 d_Whole_becomeDifference_62 hl (by decide) rfl (fun ls hl => ?_)
      refine lv_iinc (v := nI (k + 1)) (lv' := [(6, .int (nI (k + 1))), (4, .long (lN (if ((wm_u (wd a k) : Nat) : Int) - ((wm_u (wd b k) : Nat) : Int) - ((cy : Nat) : Int) < 0 then 1 else 0))), (7, .long (lz_i (((wm_u (wd a k) : Nat) : Int) - ((wm_u (wd b k) : Nat) : Int) - ((cy : Nat) : Int)))), (0, .ref (ad i)), (1, .ref (ad a)), (2, .ref (ad b)), (3, .int (nI (cnt)))]) hC.1 hC.2.1 d_Whole_becomeDifference_64 hl (k := 6) rfl (nv_inc _) (by decide) rfl (fun ls hl => ?_)
      refine lv_goto (tgt := 11) hC.1 hC.2.1 d_Whole_becomeDifference_67 (by decide) ?_
      exact ih (k + 1) (if ((wm_u (wd a k) : Nat) : Int) - ((wm_u (wd b k) : Nat) : Int) - ((cy : Nat) : Int) < 0 then 1 else 0) (upd f k (Int32.ofInt (((wm_u (wd a k) : Nat) : Int) - ((wm_u (wd b k) : Nat) : Int) - ((cy : Nat) : Int)))) (by omega) (by
        rw [wm_v_upds, lz_u, wm_v_s, wm_v_s, Nat.pow_succ]
        exact wm_bstep hS (wm_bword hua hub hc)) (by split <;> omega) (fun j hj => by rw [pk_un (by omega)]; exact hf j (by omega)) (by omega) H locs ls hM (lv_sub hl [3, 4, 5, 6, 1, 0] rfl)
set_option maxHeartbeats 4000000 in
set_option maxRecDepth 100000 in
theorem c_Whole_becomeDifference (l : Launch) (D : va_G) (ad : Nat → Nat) (cA cR : ClassId) (sz : Nat) (ln : Nat → Nat) (wd : Nat → Nat → Int32) (i a b Na Nb : Nat) (hi : i < 19) (ha : a < 19) (hb : b < 19) (hai : a ≠ i) (hbi : b ≠ i) (hz : wm_ze (wd i) (ln i)) (hra : wm_rep (wd a) (ln a) Na) (hrb : wm_rep (wd b) (ln b) Nb) (hla : ln a ≤ 2049) (hle : Nb ≤ Na) : Met l y_Whole_becomeDifference (Cond.code y_Whole_becomeDifference b_Whole_becomeDifference 9 none :: lw_T) ({ frames := 1, cells := 0, slots := 0, locals := 22 }) (va_Pc [.ref (ad i), .ref (ad a), .ref (ad b)] (wm_B D ad cA cR sz ln wd)) (va_Qv (fun u : wm_St => wm_up i (Na - Nb) ln wd u) (wm_E D ad cA cR sz) (wm_A ad sz)) 0 0 (wm_A ad sz) := by
  refine wm_met l (by decide) (Nat.le_of_ble_eq_true rfl) ?_
  intro p e s m below meth c ls hsz hC hK hr hlk hM hl
  subst hsz
  have hC : CallFix p m c b_Whole_becomeDifference 9 s _ lw_T R_Whole := hC
  have hl : lv_has ls 9 [(0, .ref (ad i)), (1, .ref (ad a)), (2, .ref (ad b))] := hl
  have hz1 := hz.1
  have hlb : ln b ≤ ln a := wm_rep_le hrb (Nat.lt_of_le_of_lt hle (wm_rep_lt hra))
  refine lv_aload_n hC.1 hC.2.1 d_Whole_becomeDifference_0 rfl (lv_at hl 1 rfl) ?_
  refine wm_len hC hK hM (j := a) ha kf_Whole_15 d_Whole_becomeDifference_1 ?_
  refine lv_istore_n (lv' := [(3, .int (nI (ln a))), (0, .ref (ad i)), (1, .ref (ad a)), (2, .ref (ad b))]) hC.1 hC.2.1 d_Whole_becomeDifference_4 rfl hl (by decide) rfl (fun ls hl => ?_)
  refine lv_lconst (v := lN 0) hC.1 hC.2.1 d_Whole_becomeDifference_5 (by decide) ?_
  refine lv_lstore (lv' := [(4, .long (lN (0))), (3, .int (nI (ln a))), (0, .ref (ad i)), (1, .ref (ad a)), (2, .ref (ad b))]) hC.1 hC.2.1 d_Whole_becomeDifference_6 hl (by decide) rfl (fun ls hl => ?_)
  refine lv_iconst (v := nI 0) hC.1 hC.2.1 d_Whole_becomeDifference_8 (by decide) ?_
  refine lv_istore (lv' := [(6, .int (nI (0))), (4, .long (lN (0))), (3, .int (nI (ln a))), (0, .ref (ad i)), (1, .ref (ad a)), (2, .ref (ad b))]) hC.1 hC.2.1 d_Whole_becomeDifference_9 hl (by decide) rfl (fun ls hl => ?_)
  have hM : wm_M D ad cA cR s (ln) (va_up wd i (wd i)) s.heap [] := by
    rw [wm_eta]; exact hM
  refine lp_Whole_becomeDifference hC hK ln wd i a b (ln a) hi ha hb hai hbi (by omega) (fun cy f hS hc hf H locs ls hM hl => ?_) (ln a + 1) 0 0 (wd i) (Nat.zero_le _) rfl (Nat.zero_le _) (fun _ _ => rfl) (by omega) _ _ _ hM (lv_sub hl [3, 4, 5, 2, 1, 0] rfl)
  refine lv_aload_n hC.1 hC.2.1 d_Whole_becomeDifference_70 rfl (lv_at hl 0 rfl) ?_
  refine lv_iload_n hC.1 hC.2.1 d_Whole_becomeDifference_71 rfl (lv_at hl 3 rfl) ?_
  refine wm_callVv hC hK hM (As := [.int (nI (ln a))]) (rest := []) (wm_at_o hi) rfl (c_Whole_settle l D ad cA cR _ ln (va_up wd i f) i (ln a) hi hz.1 (by omega)) kc_Whole_settle km_Whole_19 ki_Whole kn_Whole_settle ke_Whole_settle kd_Whole_settle ⟨rfl, rfl⟩ ⟨Nat.le_of_ble_eq_true rfl, Nat.le_of_ble_eq_true rfl⟩ rfl hl.1 (Nat.le_of_ble_eq_true rfl) d_Whole_becomeDifference_72 (fun u H locs hp hM => ?_)
  refine wm_vret hC hK hM hr hlk ?_ d_Whole_becomeDifference_75
  rw [va_up_self, wm_uu] at hp
  refine wm_up_of hp (by omega) (fun k h3 h4 h5 => ?_) ?_
  · rw [hf k (by omega)]
    exact hz.2 k h4 h5
  · rw [wm_rep_v hra (by omega) (by omega), wm_rep_v hrb (by omega) (by omega)] at hS
    have h6 := wm_v_lt f (ln a)
    rcases (show cy = 0 ∨ cy = 1 by omega) with z | z
    · subst z
      omega
    · subst z
      omega
