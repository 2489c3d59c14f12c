set_option maxHeartbeats 4000000 in
set_option maxRecDepth 100000 in
theorem lp_Div_find {p : Program} {l : Launch} {e : Env} {s : State} {m : MethodId} {args : Array Value} {below : List Frame} {meth : Method} {c : Code} {Q : State → Prop} {D : va_G} {ad : Nat → Nat} {cA cR : ClassId} (hC : CallFix p m c b_Div_find 9 s args lw_T R_Div) (hK : va_K D classes (wm_ty cA cR) s) (Ln : Nat → Nat) (W0 : Nat → Nat → Int32) (cnt pl fr v A : Nat) (hcnt : 1 ≤ cnt) (hpl : pl ≤ 2050) (hfit : ∀ y, y < pl → y + cnt < 2050) (hv : v = wm_v (W0 18) cnt) (hvlt : v < 4294967296 ^ cnt) (ht : 2147483648 ≤ wm_u (W0 18 (cnt - 1)))
    (hex : ∀ (fq fl : Nat → Int32), (wm_v fq pl * v + wm_v fl 2050 = A) → (wm_v fl 2050 < v) → (∀ k, pl ≤ k → k < 2050 → fq k = 0) → ∀ (H : Heap) (locs : List Loc) (ls : Array Slot), wm_M D ad cA cR s (Ln) (va_up (va_up W0 16 fq) 17 fl) H locs → lv_has ls 9 [(2, .ref (ad 16)), (3, .ref (ad 17)), (4, .ref (ad 18)), (5, .int (nI (cnt))), (6, .int (nI (pl))), (7, .int (nI (fr)))] → W p l e ({ frames := 3, cells := 0, slots := 0, locals := 86 }) s m args below meth c H locs 0 0 Q (F0 m 92 ls [])) :
    ∀ (n : Nat) (x : Nat) (fq : Nat → Int32) (fl : Nat → Int32), (x ≤ pl) → (wm_v (wm_off fq x) (pl - x) * v * 4294967296 ^ x + wm_v fl 2050 = A) → (wm_v fl 2050 < v * 4294967296 ^ x) → (∀ k, (k < x ∨ pl ≤ k) → k < 2050 → fq k = 0) → x + 1 ≤ n → ∀ (H : Heap) (locs : List Loc) (ls : Array Slot), wm_M D ad cA cR s (Ln) (va_up (va_up W0 16 fq) 17 fl) H locs → lv_has ls 9 [(2, .ref (ad 16)), (3, .ref (ad 17)), (4, .ref (ad 18)), (5, .int (nI (cnt))), (6, .int (nI (pl))), (7, .int (nI (fr))), (8, .int (nI (x) + (-1)))] → W p l e ({ frames := 3, cells := 0, slots := 0, locals := 86 }) s m args below meth c H locs 0 0 Q (F0 m 58 ls []) := by
  intro n
  induction n with
  | zero =>
    intro x fq fl hx hA hlt hq0 hn
    exact absurd hn (by omega)
  | succ n ih =>
    intro x fq fl hx hA hlt hq0 hn H locs ls hM hl
    refine lv_iload hC.1 hC.2.1 d_Div_find_58 (lv_at hl 6 rfl) ?_
    refine nv_down_lt (tgt := 92) hC (by omega) d_Div_find_60 (by decide) (fun hz => ?_) (fun y hy => ?_)
    · subst hz
      exact hex fq fl (by rw [Nat.pow_zero, Nat.mul_one, Nat.sub_zero, wm_off_0] at hA; exact hA) (by rw [Nat.pow_zero, Nat.mul_one] at hlt; exact hlt) (fun k h1 h2 => hq0 k (Or.inr h1) h2) H locs ls hM (lv_sub hl [0, 1, 2, 3, 4, 5] rfl)
    · subst hy
      have hl : lv_has ls 9 [(2, .ref (ad 16)), (3, .ref (ad 17)), (4, .ref (ad 18)), (5, .int (nI (cnt))), (6, .int (nI (pl))), (7, .int (nI (fr))), (8, .int (nI (y)))] := by rw [pk_m1] at hl; exact hl
      have hy := hfit y (by omega)
      refine lv_aload_n hC.1 hC.2.1 d_Div_find_63 rfl (lv_at hl 0 rfl) ?_
      refine wm_wds hC hK hM (j := 16) (by decide) kf_Div_32 d_Div_find_64 ?_
      refine lv_iload hC.1 hC.2.1 d_Div_find_67 (lv_at hl 6 rfl) ?_
      refine lv_aload_n hC.1 hC.2.1 d_Div_find_69 rfl (lv_at hl 1 rfl) ?_
      refine wm_wds hC hK hM (j := 17) (by decide) kf_Div_32 d_Div_find_70 ?_
      refine lv_aload hC.1 hC.2.1 d_Div_find_73 (lv_at hl 2 rfl) ?_
      refine wm_wds hC hK hM (j := 18) (by decide) kf_Div_32 d_Div_find_75 ?_
      refine lv_iload hC.1 hC.2.1 d_Div_find_78 (lv_at hl 6 rfl) ?_
      refine lv_iload hC.1 hC.2.1 d_Div_find_80 (lv_at hl 3 rfl) ?_
      refine wm_callSi hC hK hM (As := [.ref (ad (19 + 17)), .ref (ad (19 + 18)), .int (nI (y)), .int (nI (cnt))]) (rest := [.int (nI (y)), .ref (ad (19 + 16))]) (c_Div_nextWord l D ad cA cR _ Ln (va_up (va_up W0 16 fq) 17 fl) 17 18 y cnt (by decide) (by decide) (by decide) hcnt hy (by rw [va_up_ne _ _ (by decide), va_up_ne _ _ (by decide)]; exact ht) (by rw [va_up_self, va_up_ne _ _ (by decide), va_up_ne _ _ (by decide), ← hv]; exact wm_fd_pre hvlt hy hlt)) kc_Div_nextWord km_Div_36 ki_Div ks_Div_nextWord kd_Div_nextWord ⟨rfl, rfl⟩ ⟨Nat.le_of_ble_eq_true rfl, Nat.le_of_ble_eq_true rfl⟩ rfl hl.1 (Nat.le_of_ble_eq_true rfl) d_Div_find_82 (fun r u H locs hp hM => ?_)
      obtain ⟨q, f, rfl, hqlt, rfl, e1, e2, hf⟩ := hp
      rw [va_up_self] at e1 e2 hf
      rw [va_up_ne _ _ (by decide), va_up_ne _ _ (by decide), ← hv] at e1 e2
      obtain ⟨s1, s2⟩ := wm_fd_step hvlt hy hA hlt e1 e2 hf hqlt (by omega)
      have hM : wm_M D ad cA cR s (Ln) (va_up (va_up W0 16 fq) 17 f) H locs := by
        rw [wm_uu] at hM; exact hM
      refine wm_ast hC hK hM (j := 16) (k := y) (by decide) (by omega) d_Div_find_85 (fun H locs hM => ?_)
      have hM : wm_M D ad cA cR s (Ln) (va_up (va_up W0 16 (upd fq y (nI q))) 17 f) H locs := by
        rw [va_up_ne _ _ (by decide), va_up_self, wm_comm _ (by decide), wm_uu] at hM; exact hM
      refine lv_iinc (v := nI (y) + (-1)) (lv' := [(8, .int (nI (y) + (-1))), (2, .ref (ad 16)), (3, .ref (ad 17)), (4, .ref (ad 18)), (5, .int (nI (cnt))), (6, .int (nI (pl))), (7, .int (nI (fr)))]) hC.1 hC.2.1 d_Div_find_86 hl (k := 6) rfl (rfl) (by decide) rfl (fun ls hl => ?_)
      refine lv_goto (tgt := 58) hC.1 hC.2.1 d_Div_find_89 (by decide) ?_
      exact ih y (upd fq y (nI q)) f (by omega) s1 s2 (fun k h1 h2 => by
        by_cases e : k = y
        · omega
        · rw [pk_un e]; exact hq0 k (by omega) h2) (by omega) H locs ls hM (lv_sub hl [1, 2, 3, 4, 5, 6, 0] rfl)
set_option maxHeartbeats 4000000 in
set_option maxRecDepth 100000 in
theorem c_Div_find (l : Launch) (D : va_G) (ad : Nat → Nat) (cA cR : ClassId) (sz : Nat) (ln : Nat → Nat) (wd : Nat → Nat → Int32) (N : Nat → Nat) (a b : Nat) (ha : a < 16) (hb : b < 16) (hok : wm_ok N ln wd) (hla : ln a ≤ 2048) (hlb : ln b ≤ 2048) (hb0 : N b ≠ 0) : Met l y_Div_find (Cond.code y_Div_find b_Div_find 9 none :: lw_T) ({ frames := 3, cells := 0, slots := 0, locals := 86 }) (va_Pc [.ref (ad a), .ref (ad b), .ref (ad 16), .ref (ad 17), .ref (ad 18)] (wm_B D ad cA cR sz ln wd)) (va_Qv (fun u : wm_St => ∃ h, wm_ok (va_up (va_up (va_up N 18 h) 16 (N a / N b)) 17 (N a % N b)) u.1 u.2) (wm_E D ad cA cR sz) (wm_A ad sz)) 0 0 (wm_A ad sz) := by
  refine wm_met l (by decide) (Nat.le_of_ble_eq_true rfl) ?_
  intro p e s m below meth c ls hsz hC hK hr hlk hM hl
  subst hsz
  have hC : CallFix p m c b_Div_find 9 s _ lw_T R_Div := hC
  have hl : lv_has ls 9 [(0, .ref (ad a)), (1, .ref (ad b)), (2, .ref (ad 16)), (3, .ref (ad 17)), (4, .ref (ad 18))] := hl
  have ra := hok a (by omega)
  have rb := hok b (by omega)
  obtain ⟨n, hn⟩ : ∃ n, ln b = n + 1 := ⟨ln b - 1, by have := (wm_rep_0 rb).mp; omega⟩
  have rb1 : wm_rep (wd b) (n + 1) (N b) := by rw [← hn]; exact rb
  obtain ⟨g1, g2, g3, g4⟩ := wm_norm rb1
  have hbl : wm_bl (N b) ≤ 32 * ln b := by rw [wm_bl_le, ← wm_p32]; exact wm_rep_lt rb
  obtain ⟨fr, hfr⟩ : ∃ z, z = 32 * ln b - wm_bl (N b) := ⟨_, rfl⟩
  rw [← hn, ← hfr] at g1 g2 g3 g4
  have hpp : 0 < 2 ^ fr := Nat.pow_pos (by decide)
  refine lv_aload_n hC.1 hC.2.1 d_Div_find_0 rfl (lv_at hl 1 rfl) ?_
  refine wm_len hC hK hM (j := b) (by omega) kf_Div_9 d_Div_find_1 ?_
  refine lv_istore (lv' := [(5, .int (nI (ln b))), (0, .ref (ad a)), (1, .ref (ad b)), (2, .ref (ad 16)), (3, .ref (ad 17)), (4, .ref (ad 18))]) hC.1 hC.2.1 d_Div_find_4 hl (by decide) rfl (fun ls hl => ?_)
  refine lv_iconst (v := nI 0) hC.1 hC.2.1 d_Div_find_6 (by decide) ?_
  refine lv_aload_n hC.1 hC.2.1 d_Div_find_7 rfl (lv_at hl 1 rfl) ?_
  refine wm_len hC hK hM (j := a) (by omega) kf_Div_9 d_Div_find_8 ?_
  refine lv_iload hC.1 hC.2.1 d_Div_find_11 (lv_at hl 0 rfl) ?_
  refine lv_isub hC.1 hC.2.1 d_Div_find_13 ?_
  refine lv_iconst (v := nI 1) hC.1 hC.2.1 d_Div_find_14 (by decide) ?_
  refine lv_iadd hC.1 hC.2.1 d_Div_find_15 ?_
  refine nv_mmax hC hl.1 kj_Div_15 kj_s_max ki_Math kj_c_max (Nat.le_of_ble_eq_true rfl) (Nat.le_of_ble_eq_true rfl) d_Div_find_16 ?_
  obtain ⟨pl, hpl⟩ : ∃ z, z = ln a + 1 - ln b := ⟨_, rfl⟩
  refine nv_top (y := nI (pl)) (by rw [hpl]; exact nv_max0' (by omega) (by omega)) ?_
  refine lv_istore (lv' := [(6, .int (nI (pl))), (5, .int (nI (ln b))), (0, .ref (ad a)), (1, .ref (ad b)), (2, .ref (ad 16)), (3, .ref (ad 17)), (4, .ref (ad 18))]) hC.1 hC.2.1 d_Div_find_19 hl (by decide) rfl (fun ls hl => ?_)
  refine lv_bipush (v := nI 32) hC.1 hC.2.1 d_Div_find_21 (by decide) ?_
  refine lv_iload hC.1 hC.2.1 d_Div_find_23 (lv_at hl 1 rfl) ?_
  refine nv_imul hC d_Div_find_25 ?_
  refine lv_aload_n hC.1 hC.2.1 d_Div_find_26 rfl (lv_at hl 3 rfl) ?_
  refine wm_callVi hC hK hM (As := []) (rest := [.int (nI (32 * (ln b)))]) (wm_at_o (by omega)) rfl (c_Whole_size l D ad cA cR _ ln wd b (N b) (by omega) rb) kc_Whole_size km_Div_21 ki_Whole kn_Whole_size ke_Whole_size kd_Whole_size ⟨rfl, rfl⟩ ⟨Nat.le_of_ble_eq_true rfl, Nat.le_of_ble_eq_true rfl⟩ rfl hl.1 (Nat.le_of_ble_eq_true rfl) d_Div_find_27 (fun r u H locs hp hM => ?_)
  obtain ⟨rfl, rfl⟩ := hp
  have hM : wm_M D ad cA cR s (ln) (wd) H locs := by
    exact hM
  refine nv_isub hC (by omega) d_Div_find_30 ?_
  refine nv_top (y := nI (fr)) (by rw [hfr]) ?_
  refine lv_istore (lv' := [(7, .int (nI (fr))), (6, .int (nI (pl))), (5, .int (nI (ln b))), (0, .ref (ad a)), (1, .ref (ad b)), (2, .ref (ad 16)), (3, .ref (ad 17)), (4, .ref (ad 18))]) hC.1 hC.2.1 d_Div_find_31 hl (by decide) rfl (fun ls hl => ?_)
  refine lv_aload_n hC.1 hC.2.1 d_Div_find_33 rfl (lv_at hl 6 rfl) ?_
  refine lv_aload_n hC.1 hC.2.1 d_Div_find_34 rfl (lv_at hl 3 rfl) ?_
  refine lv_iload hC.1 hC.2.1 d_Div_find_35 (lv_at hl 0 rfl) ?_
  refine wm_callVv hC hK hM (As := [.ref (ad a), .int (nI (fr))]) (rest := []) (wm_at_o (by decide)) rfl (c_Whole_becomeShiftedLeft l D ad cA cR _ ln wd 17 a (N a) fr (by decide) (by omega) (by omega) (wm_rep_ze (hok 17 (by decide))) ra (by omega) (by omega)) kc_Whole_becomeShiftedLeft km_Div_25 ki_Whole kn_Whole_becomeShiftedLeft ke_Whole_becomeShiftedLeft kd_Whole_becomeShiftedLeft ⟨rfl, rfl⟩ ⟨Nat.le_of_ble_eq_true rfl, Nat.le_of_ble_eq_true rfl⟩ rfl hl.1 (Nat.le_of_ble_eq_true rfl) d_Div_find_37 (fun u1 H locs hp1 hM => ?_)
  have ok1 := wm_ok_up hok hp1
  have eb1 : u1.1 b = ln b := wm_rep_uniq (wm_ok_get ok1 (by omega) (by omega)) rb
  refine lv_aload hC.1 hC.2.1 d_Div_find_40 (lv_at hl 7 rfl) ?_
  refine lv_aload_n hC.1 hC.2.1 d_Div_find_42 rfl (lv_at hl 4 rfl) ?_
  refine lv_iload hC.1 hC.2.1 d_Div_find_43 (lv_at hl 0 rfl) ?_
  refine wm_callVv hC hK hM (As := [.ref (ad b), .int (nI (fr))]) (rest := []) (wm_at_o (by decide)) rfl (c_Whole_becomeShiftedLeft l D ad cA cR _ (u1.1) (u1.2) 18 b (N b) fr (by decide) (by omega) (by omega) (wm_rep_ze (ok1 18 (by decide))) (wm_ok_get ok1 (by omega) (by omega)) (by omega) (by omega)) kc_Whole_becomeShiftedLeft km_Div_25 ki_Whole kn_Whole_becomeShiftedLeft ke_Whole_becomeShiftedLeft kd_Whole_becomeShiftedLeft ⟨rfl, rfl⟩ ⟨Nat.le_of_ble_eq_true rfl, Nat.le_of_ble_eq_true rfl⟩ rfl hl.1 (Nat.le_of_ble_eq_true rfl) d_Div_find_45 (fun u2 H locs hp2 hM => ?_)
  have ok2 := wm_ok_up ok1 hp2
  have r18 := wm_ok_self ok2 (by decide)
  have r17 : wm_rep (u2.2 17) (u2.1 17) (N a * 2 ^ fr) := by
    have := wm_ok_get ok2 (j := 17) (by decide) (by decide)
    rw [va_up_self] at this
    exact this
  refine lv_aload_n hC.1 hC.2.1 d_Div_find_48 rfl (lv_at hl 5 rfl) ?_
  refine wm_callVv hC hK hM (As := []) (rest := []) (wm_at_o (by decide)) rfl (c_Whole_clear l D ad cA cR _ (u2.1) (u2.2) 16 (by decide) (ok2 16 (by decide)).1) kc_Whole_clear km_Div_29 ki_Whole kn_Whole_clear ke_Whole_clear kd_Whole_clear ⟨rfl, rfl⟩ ⟨Nat.le_of_ble_eq_true rfl, Nat.le_of_ble_eq_true rfl⟩ rfl hl.1 (Nat.le_of_ble_eq_true rfl) d_Div_find_49 (fun u3 H locs hp3 hM => ?_)
  subst hp3
  obtain ⟨fq0, hfq0⟩ : ∃ z, z = wm_clr (u2.2 16) 0 (u2.1 16) := ⟨_, rfl⟩
  have h0 : ∀ k, k < 2050 → fq0 k = 0 := fun j h2 => by
    rw [hfq0]
    by_cases h3 : j < u2.1 16
    · exact wm_clr_in (Nat.zero_le _) h3
    · rw [wm_clr_hi (by omega)]; exact (ok2 16 (by decide)).2.1 j (by omega) h2
  have hM : wm_M D ad cA cR s (va_up u2.1 16 0) (va_up (va_up u2.2 16 fq0) 17 (u2.2 17)) H locs := by
    rw [← hfq0] at hM; rw [wm_comm _ (by decide), wm_eta]; exact hM
  refine lv_iload hC.1 hC.2.1 d_Div_find_52 (lv_at hl 1 rfl) ?_
  refine lv_iconst (v := nI 1) hC.1 hC.2.1 d_Div_find_54 (by decide) ?_
  refine nv_isub1 hC d_Div_find_55 ?_
  refine lv_istore (lv' := [(8, .int (nI (pl) + (-1))), (7, .int (nI (fr))), (6, .int (nI (pl))), (5, .int (nI (ln b))), (0, .ref (ad a)), (1, .ref (ad b)), (2, .ref (ad 16)), (3, .ref (ad 17)), (4, .ref (ad 18))]) hC.1 hC.2.1 d_Div_find_56 hl (by decide) rfl (fun ls hl => ?_)
  obtain ⟨v, hvd⟩ : ∃ z, z = wm_v (u2.2 18) (ln b) := ⟨_, rfl⟩
  have hn18 : u2.1 18 ≤ ln b := wm_rep_le r18 (by rw [hn]; rw [hn] at g1; exact g1)
  have hv2 : v = N b * 2 ^ fr := by rw [hvd]; exact wm_rep_v r18 hn18 (by omega)
  have hn17 := r17.1
  refine lp_Div_find hC hK (va_up u2.1 16 0) u2.2 (ln b) pl fr v (N a * 2 ^ fr) (by omega) (by omega) (by omega) hvd (by rw [hv2]; exact g1) (by
    rw [hn, Nat.add_sub_cancel]
    exact wm_topword r18 (by rw [hn] at g1; exact g1) g2 (by omega)) (fun fq fl hA hlt hq0 H locs ls hM hl => ?_) (pl + 1) pl fq0 (u2.2 17) (Nat.le_refl _) (by
    rw [Nat.sub_self, wm_v_0, Nat.zero_mul, Nat.zero_mul, Nat.zero_add]
    exact wm_rep_v r17 hn17 (Nat.le_refl _)) (by
    rw [wm_rep_v r17 hn17 (Nat.le_refl _), hv2]
    exact (wm_fd_0 (wm_rep_lt ra) g3 (by omega)).resolve_right (by omega)) (fun k _ h2 => h0 k h2) (Nat.le_refl _) _ _ _ hM (lv_sub hl [6, 7, 8, 3, 2, 1, 0] rfl)
  rw [hv2] at hA hlt
  obtain ⟨f1, f2⟩ := wm_fd_fin hpp hA hlt
  have f3 : wm_v fl 2050 = wm_v fl (ln b) := (wm_small (Nat.lt_trans hlt g1) (by omega)).1
  have f4 := (wm_small (Nat.lt_trans hlt g1) (show ln b ≤ 2050 by omega)).2
  refine lv_aload_n hC.1 hC.2.1 d_Div_find_92 rfl (lv_at hl 0 rfl) ?_
  refine lv_iload hC.1 hC.2.1 d_Div_find_93 (lv_at hl 4 rfl) ?_
  refine wm_callVv hC hK hM (As := [.int (nI (pl))]) (rest := []) (wm_at_o (by decide)) rfl (c_Whole_settle l D ad cA cR _ (va_up u2.1 16 0) (va_up (va_up u2.2 16 fq) 17 fl) 16 pl (by decide) (by rw [va_up_self]; omega) (by omega)) kc_Whole_settle km_Div_42 ki_Whole kn_Whole_settle ke_Whole_settle kd_Whole_settle ⟨rfl, rfl⟩ ⟨Nat.le_of_ble_eq_true rfl, Nat.le_of_ble_eq_true rfl⟩ rfl hl.1 (Nat.le_of_ble_eq_true rfl) d_Div_find_95 (fun u4 H locs hp4 hM => ?_)
  rw [va_up_self, wm_uu, va_up_ne _ _ (by decide), va_up_self, wm_comm _ (by decide), wm_uu] at hp4
  have r16 := wm_settled (g := fq) (c := pl) (n0 := 0) (by omega) (fun k h1 _ h3 => hq0 k h1 h3)
  obtain ⟨n4, hn4⟩ : ∃ z, z = wm_top fq pl := ⟨_, rfl⟩
  obtain ⟨g5, hg5⟩ : ∃ z, z = wm_clr fq pl 0 := ⟨_, rfl⟩
  rw [← hn4, ← hg5] at hp4 r16
  subst hp4
  have hM : wm_M D ad cA cR s (va_up u2.1 16 n4) (va_up (va_up u2.2 16 g5) 17 fl) H locs := by
    exact hM
  refine lv_aload_n hC.1 hC.2.1 d_Div_find_98 rfl (lv_at hl 1 rfl) ?_
  refine lv_iload hC.1 hC.2.1 d_Div_find_99 (lv_at hl 3 rfl) ?_
  refine wm_callVv hC hK hM (As := [.int (nI (ln b))]) (rest := []) (wm_at_o (by decide)) rfl (c_Whole_settle l D ad cA cR _ (va_up u2.1 16 n4) (va_up (va_up u2.2 16 g5) 17 fl) 17 (ln b) (by decide) (by rw [va_up_ne _ _ (by decide)]; exact hn17) (by omega)) kc_Whole_settle km_Div_42 ki_Whole kn_Whole_settle ke_Whole_settle kd_Whole_settle ⟨rfl, rfl⟩ ⟨Nat.le_of_ble_eq_true rfl, Nat.le_of_ble_eq_true rfl⟩ rfl hl.1 (Nat.le_of_ble_eq_true rfl) d_Div_find_101 (fun u5 H locs hp5 hM => ?_)
  rw [va_up_self, wm_uu, va_up_ne _ _ (by decide)] at hp5
  have r17b := wm_settled (g := fl) (c := ln b) (n0 := u2.1 17) (by omega) (fun k h1 _ h3 => f4 k h1 h3)
  rw [← f3] at r17b
  have ok5 : wm_ok (va_up (va_up (va_up (va_up N 17 (N a * 2 ^ fr)) 18 (N b * 2 ^ fr)) 16 (wm_v fq pl)) 17 (wm_v fl 2050)) u5.1 u5.2 := by
    rw [hp5]
    refine wm_ok_row (fun j hj e => ?_) r17b
    exact wm_ok_row (fun j hj e => ok2 j hj) r16 j hj
  have h17 : u5.1 17 ≤ 2049 := wm_rep_le (wm_ok_self ok5 (by decide)) (Nat.lt_of_lt_of_le (Nat.lt_trans hlt g1) (Nat.pow_le_pow_right (by decide) (by omega)))
  refine lv_aload_n hC.1 hC.2.1 d_Div_find_104 rfl (lv_at hl 1 rfl) ?_
  refine lv_aload_n hC.1 hC.2.1 d_Div_find_105 rfl (lv_at hl 1 rfl) ?_
  refine lv_iload hC.1 hC.2.1 d_Div_find_106 (lv_at hl 5 rfl) ?_
  refine wm_callVv hC hK hM (As := [.ref (ad 17), .int (nI (fr))]) (rest := []) (wm_at_o (by decide)) rfl (c_Whole_becomeShiftedRight l D ad cA cR _ (u5.1) (u5.2) 17 17 (wm_v fl 2050) fr (by decide) (by decide) (wm_rep_ze (ok5 17 (by decide))) (wm_ok_self ok5 (by decide)) h17 (by omega)) kc_Whole_becomeShiftedRight km_Div_46 ki_Whole kn_Whole_becomeShiftedRight ke_Whole_becomeShiftedRight kd_Whole_becomeShiftedRight ⟨rfl, rfl⟩ ⟨Nat.le_of_ble_eq_true rfl, Nat.le_of_ble_eq_true rfl⟩ rfl hl.1 (Nat.le_of_ble_eq_true rfl) d_Div_find_108 (fun u6 H locs hp6 hM => ?_)
  have ok6 := wm_ok_up ok5 hp6
  refine wm_vret hC hK hM hr hlk ⟨N b * 2 ^ fr, wm_ok_congr ok6 (fun j hj => ?_)⟩ d_Div_find_111
  rw [f2, f1]
  simp only [va_up]
  repeat' split
  all_goals first | rfl | omega
