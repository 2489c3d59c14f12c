set_option maxHeartbeats 4000000 in
set_option maxRecDepth 100000 in
theorem lp_Root_find {p : Program} {l : Launch} {e : Env} {s : State} {m : MethodId} {args : Array Value} {below : List Frame} {meth : Method} {c : Code} {Q : State → Prop} {D : va_G} {ad : Nat → Nat} {cA cR : ClassId} (hC : CallFix p m c b_Root_find 7 s args lw_T R_Root) (hK : va_K D classes (wm_ty cA cR) s) (Ln : Nat → Nat) (W0 : Nat → Nat → Int32) (A cnt hf : Nat) (hcnt : cnt ≤ 1024)
    (hex : ∀ (s1 : Nat) (fl fd : Nat → Int32), (wm_J A cnt 0 s1 fl fd) → ∀ (H : Heap) (locs : List Loc) (ls : Array Slot), wm_M D ad cA cR s (Ln) (va_up (va_up W0 17 fl) 18 fd) H locs → lv_has ls 7 [(1, .ref (ad 16)), (2, .ref (ad 17)), (3, .ref (ad 18)), (4, .int (nI (cnt))), (5, .int (nI (hf)))] → W p l e ({ frames := 4, cells := 0, slots := 0, locals := 114 }) s m args below meth c H locs 0 0 Q (F0 m 96 ls [])) :
    ∀ (n : Nat) (x : Nat) (s1 : Nat) (fl : Nat → Int32) (fd : Nat → Int32), (x + 1 ≤ cnt) → (wm_J A cnt x s1 fl fd) → x + 1 ≤ n → ∀ (H : Heap) (locs : List Loc) (ls : Array Slot), wm_M D ad cA cR s (Ln) (va_up (va_up W0 17 fl) 18 fd) H locs → lv_has ls 7 [(1, .ref (ad 16)), (2, .ref (ad 17)), (3, .ref (ad 18)), (4, .int (nI (cnt))), (5, .int (nI (hf))), (6, .int (nI (x) + (-1)))] → W p l e ({ frames := 4, cells := 0, slots := 0, locals := 114 }) s m args below meth c H locs 0 0 Q (F0 m 70 ls []) := by
  intro n
  induction n with
  | zero =>
    intro x s1 fl fd hx hJ hn
    exact absurd hn (by omega)
  | succ n ih =>
    intro x s1 fl fd hx hJ hn H locs ls hM hl
    refine lv_iload hC.1 hC.2.1 d_Root_find_70 (lv_at hl 5 rfl) ?_
    refine nv_down_lt (tgt := 96) hC (by omega) d_Root_find_72 (by decide) (fun hz => ?_) (fun y hy => ?_)
    · subst hz
      exact hex s1 fl fd hJ H locs ls hM (lv_sub hl [0, 1, 2, 3, 4] rfl)
    · subst hy
      have hl : lv_has ls 7 [(1, .ref (ad 16)), (2, .ref (ad 17)), (3, .ref (ad 18)), (4, .int (nI (cnt))), (5, .int (nI (hf))), (6, .int (nI (y)))] := by rw [pk_m1] at hl; exact hl
      obtain ⟨K, hKc⟩ : ∃ K, cnt = y + (K + 2) := ⟨cnt - y - 2, by omega⟩
      have hJ2 : wm_J A (y + (K + 2)) (y + 1) s1 fl fd := by rw [← hKc]; exact hJ
      obtain ⟨p1, p2, p3, p4, -, -, -, -⟩ := wm_J_pre hJ2 (by omega)
      refine lv_aload_n hC.1 hC.2.1 d_Root_find_75 rfl (lv_at hl 1 rfl) ?_
      refine wm_wds hC hK hM (j := 17) (by decide) kf_Root_26 d_Root_find_76 ?_
      refine lv_aload_n hC.1 hC.2.1 d_Root_find_79 rfl (lv_at hl 2 rfl) ?_
      refine wm_wds hC hK hM (j := 18) (by decide) kf_Root_26 d_Root_find_80 ?_
      refine lv_iload hC.1 hC.2.1 d_Root_find_83 (lv_at hl 5 rfl) ?_
      refine lv_iload hC.1 hC.2.1 d_Root_find_85 (lv_at hl 3 rfl) ?_
      refine wm_callSv hC hK hM (As := [.ref (ad (19 + 17)), .ref (ad (19 + 18)), .int (nI (y)), .int (nI (cnt))]) (rest := []) (c_Root_nextWord l D ad cA cR _ Ln (va_up (va_up W0 17 fl) 18 fd) y K cnt s1 hKc (by omega) (by rw [va_up_self]; exact p1) p2 p3 (by rw [va_up_ne _ _ (by decide), va_up_self]; exact p4)) kc_Root_nextWord km_Root_36 ki_Root ks_Root_nextWord kd_Root_nextWord ⟨rfl, rfl⟩ ⟨Nat.le_of_ble_eq_true rfl, Nat.le_of_ble_eq_true rfl⟩ rfl hl.1 (Nat.le_of_ble_eq_true rfl) d_Root_find_87 (fun u H locs hp hM => ?_)
      obtain ⟨w, f, g, rfl, hw, e1, e2, e3, hf9, hg9⟩ := hp
      rw [va_up_ne _ _ (by decide), va_up_self] at e1 e2 hf9
      rw [va_up_self] at hg9
      have hJ3 := wm_J_step hJ2 (by omega) hw e1 e2 e3 hf9 hg9
      rw [← hKc] at hJ3
      have hM : wm_M D ad cA cR s (Ln) (va_up (va_up W0 17 f) 18 g) H locs := by
        rw [wm_comm _ (show (18 : Nat) ≠ 17 by decide), wm_uu, wm_uu] at hM; exact hM
      refine lv_iinc (v := nI (y) + (-1)) (lv' := [(6, .int (nI (y) + (-1))), (1, .ref (ad 16)), (2, .ref (ad 17)), (3, .ref (ad 18)), (4, .int (nI (cnt))), (5, .int (nI (hf)))]) hC.1 hC.2.1 d_Root_find_90 hl (k := 5) rfl (rfl) (by decide) rfl (fun ls hl => ?_)
      refine lv_goto (tgt := 70) hC.1 hC.2.1 d_Root_find_93 (by decide) ?_
      exact ih y (s1 * 4294967296 + w) f g (by omega) hJ3 (by omega) H locs ls hM (lv_sub hl [1, 2, 3, 4, 5, 0] rfl)
set_option maxHeartbeats 4000000 in
set_option maxRecDepth 100000 in
theorem c_Root_find (l : Launch) (D : va_G) (ad : Nat → Nat) (cA cR : ClassId) (sz : Nat) (ln : Nat → Nat) (wd : Nat → Nat → Int32) (N : Nat → Nat) (a : Nat) (ha : a < 16) (hok : wm_ok N ln wd) (hla : ln a ≤ 2048) : Met l y_Root_find (Cond.code y_Root_find b_Root_find 7 none :: lw_T) ({ frames := 4, cells := 0, slots := 0, locals := 114 }) (va_Pc [.ref (ad a), .ref (ad 16), .ref (ad 17), .ref (ad 18)] (wm_B D ad cA cR sz ln wd)) (va_Qv (fun u : wm_St => ∃ h s0, s0 * s0 ≤ N a ∧ N a < (s0 + 1) * (s0 + 1) ∧ wm_ok (va_up (va_up (va_up N 18 h) 16 s0) 17 (N a - s0 * s0)) u.1 u.2) (wm_E D ad cA cR sz) (wm_A ad sz)) 0 0 (wm_A ad sz) := by
  refine wm_met l (by decide) (Nat.le_of_ble_eq_true rfl) ?_
  intro p e s m below meth c ls hsz hC hK hr hlk hM hl
  subst hsz
  have hC : CallFix p m c b_Root_find 7 s _ lw_T R_Root := hC
  have hl : lv_has ls 7 [(0, .ref (ad a)), (1, .ref (ad 16)), (2, .ref (ad 17)), (3, .ref (ad 18))] := hl
  have ra := hok a (by omega)
  refine lv_aload_n hC.1 hC.2.1 d_Root_find_0 rfl (lv_at hl 0 rfl) ?_
  refine wm_len hC hK hM (j := a) (by omega) kf_Root_9 d_Root_find_1 ?_
  refine lv_iconst (v := nI 1) hC.1 hC.2.1 d_Root_find_4 (by decide) ?_
  refine nv_iadd hC d_Root_find_5 ?_
  refine lv_iconst (v := nI 2) hC.1 hC.2.1 d_Root_find_6 (by decide) ?_
  refine lv_idiv hC.1 hC.2.1 d_Root_find_7 (by decide) ?_
  refine nv_top (y := nI (((ln a) + 1) / 2)) (pk_div (by omega) (by decide) (by decide)) ?_
  obtain ⟨cnt, hcnt⟩ : ∃ z, z = (ln a + 1) / 2 := ⟨_, rfl⟩
  refine nv_top (y := nI (cnt)) (by rw [hcnt]) ?_
  refine lv_istore (lv' := [(4, .int (nI (cnt))), (0, .ref (ad a)), (1, .ref (ad 16)), (2, .ref (ad 17)), (3, .ref (ad 18))]) hC.1 hC.2.1 d_Root_find_8 hl (by decide) rfl (fun ls hl => ?_)
  refine lv_aload_n hC.1 hC.2.1 d_Root_find_10 rfl (lv_at hl 2 rfl) ?_
  refine wm_callVv hC hK hM (As := []) (rest := []) (wm_at_o (by decide)) rfl (c_Whole_clear l D ad cA cR _ ln wd 16 (by decide) (hok 16 (by decide)).1) kc_Whole_clear km_Root_15 ki_Whole kn_Whole_clear ke_Whole_clear kd_Whole_clear ⟨rfl, rfl⟩ ⟨Nat.le_of_ble_eq_true rfl, Nat.le_of_ble_eq_true rfl⟩ rfl hl.1 (Nat.le_of_ble_eq_true rfl) d_Root_find_11 (fun u1 H locs hp1 hM => ?_)
  have ok1 := wm_ok_up hok (wm_up_of (g := wd 16) (c := 0) hp1 (by omega) (fun k _ h2 h3 => (hok 16 (by decide)).2.1 k h2 h3) rfl)
  refine lv_aload_n hC.1 hC.2.1 d_Root_find_14 rfl (lv_at hl 3 rfl) ?_
  refine wm_callVv hC hK hM (As := []) (rest := []) (wm_at_o (by decide)) rfl (c_Whole_clear l D ad cA cR _ (u1.1) (u1.2) 17 (by decide) (ok1 17 (by decide)).1) kc_Whole_clear km_Root_15 ki_Whole kn_Whole_clear ke_Whole_clear kd_Whole_clear ⟨rfl, rfl⟩ ⟨Nat.le_of_ble_eq_true rfl, Nat.le_of_ble_eq_true rfl⟩ rfl hl.1 (Nat.le_of_ble_eq_true rfl) d_Root_find_15 (fun u2 H locs hp2 hM => ?_)
  have ok2 := wm_ok_up ok1 (wm_up_of (g := u1.2 17) (c := 0) hp2 (by omega) (fun k _ h2 h3 => (ok1 17 (by decide)).2.1 k h2 h3) rfl)
  refine lv_aload_n hC.1 hC.2.1 d_Root_find_18 rfl (lv_at hl 4 rfl) ?_
  refine wm_callVv hC hK hM (As := []) (rest := []) (wm_at_o (by decide)) rfl (c_Whole_clear l D ad cA cR _ (u2.1) (u2.2) 18 (by decide) (ok2 18 (by decide)).1) kc_Whole_clear km_Root_15 ki_Whole kn_Whole_clear ke_Whole_clear kd_Whole_clear ⟨rfl, rfl⟩ ⟨Nat.le_of_ble_eq_true rfl, Nat.le_of_ble_eq_true rfl⟩ rfl hl.1 (Nat.le_of_ble_eq_true rfl) d_Root_find_19 (fun u3 H locs hp3 hM => ?_)
  have ok3 := wm_ok_up ok2 (wm_up_of (g := u2.2 18) (c := 0) hp3 (by omega) (fun k _ h2 h3 => (ok2 18 (by decide)).2.1 k h2 h3) rfl)
  have ra3 : wm_rep (u3.2 a) (u3.1 a) (N a) := by
    have h := ok3 a (by omega)
    rw [va_up_ne _ _ (by omega), va_up_ne _ _ (by omega), va_up_ne _ _ (by omega)] at h
    exact h
  have ea3 : u3.1 a = ln a := wm_rep_uniq ra3 ra
  refine lv_iload hC.1 hC.2.1 d_Root_find_22 (lv_at hl 0 rfl) ?_
  refine nv_if_ne (tgt := 28) hC (by omega) d_Root_find_24 (by decide) (fun hc => ?_) (fun hc => ?_)
  · obtain ⟨c0, hc0⟩ : ∃ z, cnt = z + 1 := ⟨cnt - 1, by omega⟩
    obtain ⟨n, hn⟩ : ∃ n, ln a = n + 1 := ⟨ln a - 1, by omega⟩
    have ra1 : wm_rep (wd a) (n + 1) (N a) := by rw [← hn]; exact ra
    have hb1 := wm_bl_words ra1
    have hb2 : wm_bl (N a) ≤ 32 * ln a := by rw [wm_bl_le, ← wm_p32]; exact wm_rep_lt ra
    have hN0 : 0 < N a := by
      have := (wm_rep_0 ra).mpr
      omega
    obtain ⟨hf, hhf⟩ : ∃ z, z = (64 * cnt - wm_bl (N a)) / 2 := ⟨_, rfl⟩
    obtain ⟨hA1, hA2⟩ := wm_rt_norm (cnt := cnt) hN0 (by omega) hhf
    have hf31 : hf ≤ 31 := by omega
    refine lv_bipush (v := nI 64) hC.1 hC.2.1 d_Root_find_28 (by decide) ?_
    refine lv_iload hC.1 hC.2.1 d_Root_find_30 (lv_at hl 0 rfl) ?_
    refine nv_imul hC d_Root_find_32 ?_
    refine lv_aload_n hC.1 hC.2.1 d_Root_find_33 rfl (lv_at hl 1 rfl) ?_
    refine wm_callVi hC hK hM (As := []) (rest := [.int (nI (64 * cnt))]) (wm_at_o (by omega)) rfl (c_Whole_size l D ad cA cR _ (u3.1) (u3.2) a (N a) (by omega) ra3) kc_Whole_size km_Root_18 ki_Whole kn_Whole_size ke_Whole_size kd_Whole_size ⟨rfl, rfl⟩ ⟨Nat.le_of_ble_eq_true rfl, Nat.le_of_ble_eq_true rfl⟩ rfl hl.1 (Nat.le_of_ble_eq_true rfl) d_Root_find_34 (fun r u H locs hp hM => ?_)
    obtain ⟨rfl, rfl⟩ := hp
    have hM : wm_M D ad cA cR s (u3.1) (u3.2) H locs := by
      exact hM
    refine nv_isub hC (by omega) d_Root_find_37 ?_
    refine lv_iconst (v := nI 2) hC.1 hC.2.1 d_Root_find_38 (by decide) ?_
    refine lv_idiv hC.1 hC.2.1 d_Root_find_39 (by decide) ?_
    refine nv_top (y := nI (((64 * cnt) - (wm_bl (N a))) / 2)) (pk_div (by omega) (by decide) (by decide)) ?_
    refine nv_top (y := nI (hf)) (by rw [hhf]) ?_
    refine lv_istore (lv' := [(5, .int (nI (hf))), (4, .int (nI (cnt))), (0, .ref (ad a)), (1, .ref (ad 16)), (2, .ref (ad 17)), (3, .ref (ad 18))]) hC.1 hC.2.1 d_Root_find_40 hl (by decide) rfl (fun ls hl => ?_)
    refine lv_aload_n hC.1 hC.2.1 d_Root_find_42 rfl (lv_at hl 4 rfl) ?_
    refine lv_aload_n hC.1 hC.2.1 d_Root_find_43 rfl (lv_at hl 2 rfl) ?_
    refine lv_iconst (v := nI 2) hC.1 hC.2.1 d_Root_find_44 (by decide) ?_
    refine lv_iload hC.1 hC.2.1 d_Root_find_45 (lv_at hl 0 rfl) ?_
    refine nv_imul hC d_Root_find_47 ?_
    refine wm_callVv hC hK hM (As := [.ref (ad a), .int (nI (2 * hf))]) (rest := []) (wm_at_o (by decide)) rfl (c_Whole_becomeShiftedLeft l D ad cA cR _ (u3.1) (u3.2) 17 a (N a) (2 * hf) (by decide) (by omega) (by omega) (wm_rep_ze (ok3 17 (by decide))) ra3 (by omega) (by omega)) kc_Whole_becomeShiftedLeft km_Root_22 ki_Whole kn_Whole_becomeShiftedLeft ke_Whole_becomeShiftedLeft kd_Whole_becomeShiftedLeft ⟨rfl, rfl⟩ ⟨Nat.le_of_ble_eq_true rfl, Nat.le_of_ble_eq_true rfl⟩ rfl hl.1 (Nat.le_of_ble_eq_true rfl) d_Root_find_48 (fun u4 H locs hp4 hM => ?_)
    have ok4 := wm_ok_up ok3 hp4
    have r17 := wm_ok_self ok4 (by decide)
    have r18 : wm_rep (u4.2 18) (u4.1 18) 0 := by
      have h := wm_ok_get ok4 (j := 18) (by decide) (by decide)
      rw [va_up_self] at h
      exact h
    have z18 := wm_rep_z r18
    obtain ⟨A, hAd⟩ : ∃ z, z = N a * 2 ^ (2 * hf) := ⟨_, rfl⟩
    rw [← hAd] at r17 hA1 hA2
    refine lv_aload_n hC.1 hC.2.1 d_Root_find_51 rfl (lv_at hl 4 rfl) ?_
    refine wm_wds hC hK hM (j := 17) (by decide) kf_Root_26 d_Root_find_52 ?_
    refine lv_aload_n hC.1 hC.2.1 d_Root_find_55 rfl (lv_at hl 5 rfl) ?_
    refine wm_wds hC hK hM (j := 18) (by decide) kf_Root_26 d_Root_find_56 ?_
    refine lv_iload hC.1 hC.2.1 d_Root_find_59 (lv_at hl 1 rfl) ?_
    refine wm_callSv hC hK hM (As := [.ref (ad (19 + 17)), .ref (ad (19 + 18)), .int (nI (cnt))]) (rest := []) (c_Root_firstWord l D ad cA cR _ (u4.1) (u4.2) c0 cnt hc0 (by omega) (by rw [z18 (c0 + 1) (by omega)]; decide)) kc_Root_firstWord km_Root_30 ki_Root ks_Root_firstWord kd_Root_firstWord ⟨rfl, rfl⟩ ⟨Nat.le_of_ble_eq_true rfl, Nat.le_of_ble_eq_true rfl⟩ rfl hl.1 (Nat.le_of_ble_eq_true rfl) d_Root_find_61 (fun u5 H locs hp5 hM => ?_)
    obtain ⟨w0, e1, e2, e3, rfl⟩ := hp5
    rw [hc0] at hA1 hA2
    have hJ := wm_J_first r17 hA1 hA2 z18 (by omega) e1 e2 e3
    generalize upd (upd (u4.2 17) _ _) _ _ = F0 at hJ hM
    generalize upd (upd (u4.2 18) _ _) _ _ = G0 at hJ hM
    rw [← hc0] at hJ
    have hM : wm_M D ad cA cR s (u4.1) (va_up (va_up u4.2 17 F0) 18 G0) H locs := by
      exact hM
    refine lv_iload hC.1 hC.2.1 d_Root_find_64 (lv_at hl 1 rfl) ?_
    refine lv_iconst (v := nI 2) hC.1 hC.2.1 d_Root_find_66 (by decide) ?_
    refine lv_isub hC.1 hC.2.1 d_Root_find_67 ?_
    refine nv_top (y := nI (c0) + (-1)) (by rw [hc0]; exact nv_sub2) ?_
    refine lv_istore (lv' := [(6, .int (nI (c0) + (-1))), (5, .int (nI (hf))), (4, .int (nI (cnt))), (0, .ref (ad a)), (1, .ref (ad 16)), (2, .ref (ad 17)), (3, .ref (ad 18))]) hC.1 hC.2.1 d_Root_find_68 hl (by decide) rfl (fun ls hl => ?_)
    refine lp_Root_find hC hK u4.1 u4.2 A cnt hf (by omega) (fun s1 fl fd hJ H locs ls hM hl => ?_) (c0 + 1) c0 w0 F0 G0 (by omega) hJ (Nat.le_refl _) _ _ _ hM (lv_sub hl [4, 5, 6, 2, 1, 0] rfl)
    obtain ⟨j1, j2, j3, j4, j5⟩ := hJ
    rw [Nat.mul_zero, Nat.pow_zero, Nat.mul_one] at j1 j2
    rw [Nat.pow_zero, Nat.mul_one] at j3
    rw [Nat.sub_zero] at j5
    refine lv_aload_n hC.1 hC.2.1 d_Root_find_96 rfl (lv_at hl 0 rfl) ?_
    refine lv_aload_n hC.1 hC.2.1 d_Root_find_97 rfl (lv_at hl 1 rfl) ?_
    refine lv_aload_n hC.1 hC.2.1 d_Root_find_98 rfl (lv_at hl 2 rfl) ?_
    refine lv_iload hC.1 hC.2.1 d_Root_find_99 (lv_at hl 3 rfl) ?_
    refine lv_iload hC.1 hC.2.1 d_Root_find_101 (lv_at hl 4 rfl) ?_
    refine wm_callSv hC hK hM (As := [.ref (ad 16), .ref (ad 17), .ref (ad 18), .int (nI (cnt)), .int (nI (hf))]) (rest := []) (c_Root_shiftBack l D ad cA cR _ (u4.1) (va_up (va_up u4.2 17 fl) 18 fd) (va_up (va_up (va_up N 16 0) 17 0) 18 0) cnt hf s1 (wm_v fl 2050) (fun j hj => by rw [va_up_ne _ _ (by omega), va_up_ne _ _ (by omega)]; exact wm_ok_get ok4 (by omega) (by omega)) (ok4 17 (by decide)).1 (ok4 18 (by decide)).1 (by omega) hf31 (by rw [va_up_ne _ _ (by decide), va_up_self]) (by rw [va_up_self]; exact j3) (by omega) j5) kc_Root_shiftBack km_Root_40 ki_Root ks_Root_shiftBack kd_Root_shiftBack ⟨rfl, rfl⟩ ⟨Nat.le_of_ble_eq_true rfl, Nat.le_of_ble_eq_true rfl⟩ rfl hl.1 (Nat.le_of_ble_eq_true rfl) d_Root_find_103 (fun u6 H locs hp6 hM => ?_)
    obtain ⟨h, ok6⟩ := hp6
    have hpp : 0 < 2 ^ hf := Nat.pow_pos (by decide)
    have e2p : 2 ^ (2 * hf) = 2 ^ hf * 2 ^ hf := by rw [← Nat.pow_add]; congr 1; omega
    rw [hAd, e2p] at j1
    obtain ⟨b1, b2, b3⟩ := wm_rt_back (p := 2 ^ hf) (s := s1 / 2 ^ hf) (t := s1 % 2 ^ hf) j1 (by omega) (by have := Nat.mod_add_div s1 (2 ^ hf); rw [Nat.mul_comm (2 ^ hf)] at this; omega) (Nat.mod_lt _ hpp)
    rw [e2p, b3] at ok6
    refine wm_vret hC hK hM hr hlk ⟨h, s1 / 2 ^ hf, b1, wm_sq_lt b1 b2, wm_ok_congr ok6 (fun j hj => ?_)⟩ d_Root_find_106
    simp only [va_up]
    repeat' split
    all_goals first | rfl | omega
  · have hN0 : N a = 0 := (wm_rep_0 ra).mp (by omega)
    refine wm_vret hC hK hM hr hlk ⟨0, 0, by omega, by omega, wm_ok_congr ok3 (fun j hj => ?_)⟩ d_Root_find_27
    rw [hN0]
    simp only [va_up]
    repeat' split
    all_goals first | rfl | omega
