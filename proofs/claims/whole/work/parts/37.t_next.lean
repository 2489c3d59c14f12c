set_option maxHeartbeats 4000000 in
set_option maxRecDepth 100000 in
theorem lp_Root_nextWord {p : Program} {l : Launch} {e : Env} {s : State} {m : MethodId} {args : Array Value} {below : List Frame} {meth : Method} {c : Code} {Q : State → Prop} {D : va_G} {ad : Nat → Nat} {cA cR : ClassId} (hC : CallFix p m c b_Root_nextWord 11 s args lw_T R_Root) (hK : va_K D classes (wm_ty cA cR) s) (ln : Nat → Nat) (wd : Nat → Nat → Int32) (a0 K s0 : Nat) (hfit : 2 * a0 + K + 3 < 2050) (hD : wm_v (wm_off (wd 18) a0) (K + 3) = 2 * (s0 * 4294967296)) (g : Nat) (hg : g < 4294967296) (k2 : wm_v (wm_off (wd 17) (2 * a0)) (K + 4) < (g + 1) * (2 * (s0 * 4294967296) + (g + 1))) (h2 : ∀ w, w + 2 = g → w * (2 * (s0 * 4294967296) + w) ≤ wm_v (wm_off (wd 17) (2 * a0)) (K + 4))
    (hex : ∀ (w : Nat) (tp : Int) (f : Nat → Int32), (w ≤ g) → (tp * ((4294967296 ^ (K + 3) : Nat) : Int) + ((wm_v (wm_off f (2 * a0)) (K + 3) : Nat) : Int) = ((wm_v (wm_off (wd 17) (2 * a0)) (K + 4) : Nat) : Int) - ((w * (2 * (s0 * 4294967296) + w) : Nat) : Int)) → (0 ≤ tp) → (wm_v (wm_off (wd 17) (2 * a0)) (K + 4) < (w + 1) * (2 * (s0 * 4294967296) + (w + 1))) → (∀ k, (k < 2 * a0 ∨ 2 * a0 + (K + 3) ≤ k) → f k = wd 17 k) → ∀ (H : Heap) (locs : List Loc) (ls : Array Slot), wm_M D ad cA cR s (ln) (va_up wd 17 f) H locs → lv_has ls 11 [(0, .ref (ad (19 + 17))), (1, .ref (ad (19 + 18))), (2, .int (nI (a0))), (4, .int (nI (2 * a0 + (K + 3)))), (6, .long (lN (w))), (8, .long (lz_i (tp)))] → W p l e ({ frames := 3, cells := 0, slots := 0, locals := 84 }) s m args below meth c H locs 0 0 Q (F0 m 111 ls [])) :
    ∀ (n : Nat) (i : Nat) (w : Nat) (tp : Int) (f : Nat → Int32), (i ≤ 3) → (w + i = g) → (tp * ((4294967296 ^ (K + 3) : Nat) : Int) + ((wm_v (wm_off f (2 * a0)) (K + 3) : Nat) : Int) = ((wm_v (wm_off (wd 17) (2 * a0)) (K + 4) : Nat) : Int) - ((w * (2 * (s0 * 4294967296) + w) : Nat) : Int)) → (-8589934592 ≤ tp) → (tp ≤ 8589934592 + (i : Int) * 17179869184) → (i = 0 ∨ wm_v (wm_off (wd 17) (2 * a0)) (K + 4) < (w + 1) * (2 * (s0 * 4294967296) + (w + 1))) → (∀ k, (k < 2 * a0 ∨ 2 * a0 + (K + 3) ≤ k) → f k = wd 17 k) → 4 ≤ i + n → ∀ (H : Heap) (locs : List Loc) (ls : Array Slot), wm_M D ad cA cR s (ln) (va_up wd 17 f) H locs → lv_has ls 11 [(0, .ref (ad (19 + 17))), (1, .ref (ad (19 + 18))), (2, .int (nI (a0))), (4, .int (nI (2 * a0 + (K + 3)))), (5, .int (nI (K + 3))), (6, .long (lN (w))), (8, .long (lz_i (tp))), (10, .int (nI (i)))] → W p l e ({ frames := 3, cells := 0, slots := 0, locals := 84 }) s m args below meth c H locs 0 0 Q (F0 m 62 ls []) := by
  intro n
  induction n with
  | zero =>
    intro i w tp f hi3 hwi hI hb1 hb2 hfail hf hn
    exact absurd hn (by omega)
  | succ n ih =>
    intro i w tp f hi3 hwi hI hb1 hb2 hfail hf hn H locs ls hM hl
    have hX := wm_v_lt (wm_off f (2 * a0)) (K + 3)
    obtain ⟨sg1, sg2⟩ := wm_sg hI hX
    refine lv_iload hC.1 hC.2.1 d_Root_nextWord_62 (lv_at hl 7 rfl) ?_
    refine lv_iconst (v := nI 3) hC.1 hC.2.1 d_Root_nextWord_64 (by decide) ?_
    refine nv_icmp_ge (tgt := 111) hC (by omega) (by omega) d_Root_nextWord_65 (by decide) (fun hc => ?_) (fun hc => ?_)
    · rcases hfail with z | z
      · omega
      · exact absurd (h2 (w + 1) (by omega)) (Nat.not_le.mpr z)
    · refine lv_lload hC.1 hC.2.1 d_Root_nextWord_68 (lv_at hl 6 rfl) ?_
      refine lv_lconst (v := lN 0) hC.1 hC.2.1 d_Root_nextWord_70 (by decide) ?_
      refine W.lcmp hC.1 hC.2.1 d_Root_nextWord_71 ?_
      refine lv_if_ge (tgt := 111) hC.1 hC.2.1 d_Root_nextWord_72 (by decide) (fun hs => ?_) (fun hs => ?_)
      · rw [lz_ge0 (by omega) (by omega)] at hs
        exact hex w tp f (by omega) hI hs (by
        rcases hfail with z | z
        · rw [show w = g by omega]; exact k2
        · exact z) hf H locs ls hM (lv_sub hl [0, 1, 2, 3, 5, 6] rfl)
      · rw [lz_ge0 (by omega) (by omega)] at hs
        have hlt := sg1 (by omega)
        have hw1 : 1 ≤ w := by
          rcases Nat.eq_zero_or_pos w with z | z
          · rw [z, Nat.zero_mul] at hlt; exact absurd hlt (Nat.not_lt_zero _)
          · exact z
        have hi2 : i < 2 := by
          rcases Nat.lt_or_ge i 2 with z | z
          · exact z
          · exact absurd (h2 w (by omega)) (Nat.not_le.mpr hlt)
        obtain ⟨w1, rfl⟩ : ∃ z, w = z + 1 := ⟨w - 1, by omega⟩
        refine lv_lload hC.1 hC.2.1 d_Root_nextWord_75 (lv_at hl 5 rfl) ?_
        refine lv_lconst (v := lN 1) hC.1 hC.2.1 d_Root_nextWord_77 (by decide) ?_
        refine nv_lsub hC (by omega) d_Root_nextWord_78 ?_
        refine lv_lstore (lv' := [(6, .long (lN (w1))), (0, .ref (ad (19 + 17))), (1, .ref (ad (19 + 18))), (2, .int (nI (a0))), (4, .int (nI (2 * a0 + (K + 3)))), (5, .int (nI (K + 3))), (8, .long (lz_i (tp))), (10, .int (nI (i)))]) hC.1 hC.2.1 d_Root_nextWord_79 hl (by decide) rfl (fun ls hl => ?_)
        refine lv_lload hC.1 hC.2.1 d_Root_nextWord_81 (lv_at hl 6 rfl) ?_
        refine lv_aload_n hC.1 hC.2.1 d_Root_nextWord_83 rfl (lv_at hl 1 rfl) ?_
        refine lv_iconst (v := nI 2) hC.1 hC.2.1 d_Root_nextWord_84 (by decide) ?_
        refine lv_iload_n hC.1 hC.2.1 d_Root_nextWord_85 rfl (lv_at hl 3 rfl) ?_
        refine nv_imul hC d_Root_nextWord_86 ?_
        refine lv_aload_n hC.1 hC.2.1 d_Root_nextWord_87 rfl (lv_at hl 2 rfl) ?_
        refine lv_iload_n hC.1 hC.2.1 d_Root_nextWord_88 rfl (lv_at hl 3 rfl) ?_
        refine lv_iload hC.1 hC.2.1 d_Root_nextWord_89 (lv_at hl 5 rfl) ?_
        refine lv_ldc2 (v := lN 2) hC.1 hC.2.1 hC.2.2.2.1 (hC.2.2.2.2 _ kl_Root_68) d_Root_nextWord_91 ?_
        refine lv_lload hC.1 hC.2.1 d_Root_nextWord_94 (lv_at hl 0 rfl) ?_
        refine nv_lmul hC d_Root_nextWord_96 ?_
        refine lv_lconst (v := lN 1) hC.1 hC.2.1 d_Root_nextWord_97 (by decide) ?_
        refine nv_ladd hC d_Root_nextWord_98 ?_
        refine wm_callSl hC hK hM (As := [.ref (ad (19 + 17)), .int (nI (2 * a0)), .ref (ad (19 + 18)), .int (nI (a0)), .int (nI (K + 3)), .long (lN ((2 * w1) + 1))]) (rest := [.long (lz_i (tp))]) (c_Rows_addStretch l D ad cA cR _ ln (va_up wd 17 f) 17 18 (2 * a0) a0 (K + 3) (2 * w1 + 1) (by decide) (by decide) (by decide) (by omega) (by omega) (by omega)) kc_Rows_addStretch km_Root_70 ki_Rows ks_Rows_addStretch kd_Rows_addStretch ⟨rfl, rfl⟩ ⟨Nat.le_of_ble_eq_true rfl, Nat.le_of_ble_eq_true rfl⟩ rfl hl.1 (Nat.le_of_ble_eq_true rfl) d_Root_nextWord_99 (fun r u H locs hp hM => ?_)
        obtain ⟨c2, f2, rfl, rfl, hS2, hc2, hf2⟩ := hp
        rw [va_up_self] at hS2 hf2
        rw [va_up_ne _ _ (by decide), hD] at hS2
        have hI2 := wm_sg_step hI hS2
        have hM : wm_M D ad cA cR s (ln) (va_up wd 17 f2) H locs := by
          rw [wm_uu] at hM; exact hM
        refine nv_topl (y := lz_i ((c2 : Int))) (lz_n c2) ?_
        refine nz_ladd hC d_Root_nextWord_102 ?_
        refine lv_lstore (lv' := [(8, .long (lz_i (tp + ((c2 : Int))))), (6, .long (lN (w1))), (0, .ref (ad (19 + 17))), (1, .ref (ad (19 + 18))), (2, .int (nI (a0))), (4, .int (nI (2 * a0 + (K + 3)))), (5, .int (nI (K + 3))), (10, .int (nI (i)))]) hC.1 hC.2.1 d_Root_nextWord_103 hl (by decide) rfl (fun ls hl => ?_)
        refine lv_iinc (v := nI (i + 1)) (lv' := [(10, .int (nI (i + 1))), (8, .long (lz_i (tp + ((c2 : Int))))), (6, .long (lN (w1))), (0, .ref (ad (19 + 17))), (1, .ref (ad (19 + 18))), (2, .int (nI (a0))), (4, .int (nI (2 * a0 + (K + 3)))), (5, .int (nI (K + 3)))]) hC.1 hC.2.1 d_Root_nextWord_105 hl (k := 7) rfl (nv_inc _) (by decide) rfl (fun ls hl => ?_)
        refine lv_goto (tgt := 62) hC.1 hC.2.1 d_Root_nextWord_108 (by decide) ?_
        exact ih (i + 1) w1 (tp + (c2 : Int)) f2 (by omega) (by omega) hI2 (by omega) (by omega) (Or.inr hlt) (fun k hk => by rw [hf2 k (by omega)]; exact hf k hk) (by omega) H locs ls hM (lv_sub hl [3, 4, 5, 6, 7, 2, 1, 0] rfl)
set_option maxHeartbeats 4000000 in
set_option maxRecDepth 100000 in
theorem c_Root_nextWord (l : Launch) (D : va_G) (ad : Nat → Nat) (cA cR : ClassId) (sz : Nat) (ln : Nat → Nat) (wd : Nat → Nat → Int32) (a0 K cnt s0 : Nat) (hcnt : cnt = a0 + (K + 2)) (hfit : 2 * a0 + K + 3 < 2050) (hD : wm_v (wm_off (wd 18) a0) (K + 3) = 2 * (s0 * 4294967296)) (hs1 : 4294967296 ^ (K + 1) ≤ 2 * s0) (hs2 : s0 < 4294967296 ^ (K + 1)) (hT : wm_v (wm_off (wd 17) (2 * a0)) (K + 4) < (2 * s0 + 1) * (4294967296 * 4294967296)) : Met l y_Root_nextWord (Cond.code y_Root_nextWord b_Root_nextWord 11 none :: lw_T) ({ frames := 3, cells := 0, slots := 0, locals := 84 }) (va_Pc [.ref (ad (19 + 17)), .ref (ad (19 + 18)), .int (nI (a0)), .int (nI (cnt))] (wm_B D ad cA cR sz ln wd)) (va_Qv (fun u : wm_St => ∃ (w : Nat) (f g : Nat → Int32), u = (ln, va_up (va_up wd 17 f) 18 g) ∧ w < 4294967296 ∧ wm_v (wm_off f (2 * a0)) (K + 4) + w * (2 * (s0 * 4294967296) + w) = wm_v (wm_off (wd 17) (2 * a0)) (K + 4) ∧ wm_v (wm_off (wd 17) (2 * a0)) (K + 4) < (w + 1) * (2 * (s0 * 4294967296) + (w + 1)) ∧ wm_v (wm_off g a0) (K + 3) = 2 * (s0 * 4294967296 + w) ∧ (∀ k, (k < 2 * a0 ∨ 2 * a0 + (K + 3) < k) → f k = wd 17 k) ∧ ∀ k, (k < a0 ∨ a0 + (K + 2) < k) → g k = wd 18 k) (wm_E D ad cA cR sz) (wm_A ad sz)) 0 0 (wm_A ad sz) := by
  refine wm_met l (by decide) (Nat.le_of_ble_eq_true rfl) ?_
  intro p e s m below meth c ls hsz hC hK hr hlk hM hl
  subst hsz
  have hC : CallFix p m c b_Root_nextWord 11 s _ lw_T R_Root := hC
  have hl : lv_has ls 11 [(0, .ref (ad (19 + 17))), (1, .ref (ad (19 + 18))), (2, .int (nI (a0))), (3, .int (nI (cnt)))] := hl
  subst hcnt
  obtain ⟨ht, hh, hgg⟩ := wm_rg (t := wm_off (wd 17) (2 * a0)) (d := wm_off (wd 18) a0) (g := wm_gs ((wm_hv (wm_u ((wm_off (wd 17) (2 * a0)) (K + 3))) (wm_u ((wm_off (wd 17) (2 * a0)) (K + 2))) * 2 ^ 32 + wm_hv (wm_u ((wm_off (wd 17) (2 * a0)) (K + 2))) (wm_u ((wm_off (wd 17) (2 * a0)) (K + 1)))) * 4294967296 + wm_hv (wm_u ((wm_off (wd 17) (2 * a0)) (K + 1))) (wm_u ((wm_off (wd 17) (2 * a0)) K))) (wm_hv (wm_u ((wm_off (wd 18) a0) (K + 2))) (wm_u ((wm_off (wd 18) a0) (K + 1))) * 4294967296 + wm_hv (wm_u ((wm_off (wd 18) a0) (K + 1))) (wm_u ((wm_off (wd 18) a0) K)))) hD hs1 hs2 hT
  obtain ⟨k1, k2⟩ := hgg rfl
  obtain ⟨g, hg⟩ : ∃ z, z = wm_gs ((wm_hv (wm_u ((wm_off (wd 17) (2 * a0)) (K + 3))) (wm_u ((wm_off (wd 17) (2 * a0)) (K + 2))) * 2 ^ 32 + wm_hv (wm_u ((wm_off (wd 17) (2 * a0)) (K + 2))) (wm_u ((wm_off (wd 17) (2 * a0)) (K + 1)))) * 4294967296 + wm_hv (wm_u ((wm_off (wd 17) (2 * a0)) (K + 1))) (wm_u ((wm_off (wd 17) (2 * a0)) K))) (wm_hv (wm_u ((wm_off (wd 18) a0) (K + 2))) (wm_u ((wm_off (wd 18) a0) (K + 1))) * 4294967296 + wm_hv (wm_u ((wm_off (wd 18) a0) (K + 1))) (wm_u ((wm_off (wd 18) a0) K))) := ⟨_, rfl⟩
  have hg4 : g < 4294967296 := by rw [hg]; exact wm_gs_lt _ _
  rw [← hg] at k1 k2
  obtain ⟨z0, z1⟩ := wm_even0 (n := K + 1) hD
  have hd0 : wd 18 a0 = 0 := z0
  refine lv_iload_n hC.1 hC.2.1 d_Root_nextWord_0 rfl (lv_at hl 2 rfl) ?_
  refine lv_iload_n hC.1 hC.2.1 d_Root_nextWord_1 rfl (lv_at hl 3 rfl) ?_
  refine nv_iadd hC d_Root_nextWord_2 ?_
  refine lv_iconst (v := nI 1) hC.1 hC.2.1 d_Root_nextWord_3 (by decide) ?_
  refine nv_iadd hC d_Root_nextWord_4 ?_
  refine nv_top (y := nI (2 * a0 + (K + 3))) (congrArg nI (by omega)) ?_
  refine lv_istore (lv' := [(4, .int (nI (2 * a0 + (K + 3)))), (0, .ref (ad (19 + 17))), (1, .ref (ad (19 + 18))), (2, .int (nI (a0))), (3, .int (nI (a0 + (K + 2))))]) hC.1 hC.2.1 d_Root_nextWord_5 hl (by decide) rfl (fun ls hl => ?_)
  refine lv_iload_n hC.1 hC.2.1 d_Root_nextWord_7 rfl (lv_at hl 4 rfl) ?_
  refine lv_iload_n hC.1 hC.2.1 d_Root_nextWord_8 rfl (lv_at hl 3 rfl) ?_
  refine nv_isub hC (by omega) d_Root_nextWord_9 ?_
  refine lv_iconst (v := nI 1) hC.1 hC.2.1 d_Root_nextWord_10 (by decide) ?_
  refine nv_iadd hC d_Root_nextWord_11 ?_
  refine nv_top (y := nI (K + 3)) (congrArg nI (by omega)) ?_
  refine lv_istore (lv' := [(5, .int (nI (K + 3))), (4, .int (nI (2 * a0 + (K + 3)))), (0, .ref (ad (19 + 17))), (1, .ref (ad (19 + 18))), (2, .int (nI (a0))), (3, .int (nI (a0 + (K + 2))))]) hC.1 hC.2.1 d_Root_nextWord_12 hl (by decide) rfl (fun ls hl => ?_)
  refine lv_aload_n hC.1 hC.2.1 d_Root_nextWord_14 rfl (lv_at hl 2 rfl) ?_
  refine lv_aload_n hC.1 hC.2.1 d_Root_nextWord_15 rfl (lv_at hl 3 rfl) ?_
  refine lv_iload hC.1 hC.2.1 d_Root_nextWord_16 (lv_at hl 1 rfl) ?_
  refine lv_iload_n hC.1 hC.2.1 d_Root_nextWord_18 rfl (lv_at hl 5 rfl) ?_
  refine wm_callSl hC hK hM (As := [.ref (ad (19 + 17)), .ref (ad (19 + 18)), .int (nI (2 * a0 + (K + 3))), .int (nI (a0 + (K + 2)))]) (rest := []) (c_Root_guessWord l D ad cA cR _ ln wd 17 18 (2 * a0 + (K + 3)) (a0 + (K + 2)) (by decide) (by decide) (by omega) (by omega) (by omega) (by omega) ht hh) kc_Root_guessWord km_Root_60 ki_Root ks_Root_guessWord kd_Root_guessWord ⟨rfl, rfl⟩ ⟨Nat.le_of_ble_eq_true rfl, Nat.le_of_ble_eq_true rfl⟩ rfl hl.1 (Nat.le_of_ble_eq_true rfl) d_Root_nextWord_19 (fun r u H locs hp hM => ?_)
  obtain ⟨hr1, rfl⟩ := hp
  have hr1 : r = lN g := by rw [hg]; exact hr1
  subst hr1
  have hM : wm_M D ad cA cR s (ln) (wd) H locs := by
    exact hM
  have hM : wm_M D ad cA cR s (ln) (va_up wd 18 (wd 18)) H locs := by
    rw [wm_eta]; exact hM
  refine lv_lstore (lv' := [(6, .long (lN (g))), (5, .int (nI (K + 3))), (4, .int (nI (2 * a0 + (K + 3)))), (0, .ref (ad (19 + 17))), (1, .ref (ad (19 + 18))), (2, .int (nI (a0))), (3, .int (nI (a0 + (K + 2))))]) hC.1 hC.2.1 d_Root_nextWord_22 hl (by decide) rfl (fun ls hl => ?_)
  refine lv_aload_n hC.1 hC.2.1 d_Root_nextWord_24 rfl (lv_at hl 4 rfl) ?_
  refine lv_iload_n hC.1 hC.2.1 d_Root_nextWord_25 rfl (lv_at hl 5 rfl) ?_
  refine lv_lload hC.1 hC.2.1 d_Root_nextWord_26 (lv_at hl 0 rfl) ?_
  refine nv_l2i hC d_Root_nextWord_28 ?_
  refine wm_ast_s hC hK hM (k := a0) (by decide) (by omega) d_Root_nextWord_29 (fun H locs hM => ?_)
  refine lv_aload_n hC.1 hC.2.1 d_Root_nextWord_30 rfl (lv_at hl 3 rfl) ?_
  refine lv_iload hC.1 hC.2.1 d_Root_nextWord_31 (lv_at hl 2 rfl) ?_
  refine wm_ald_o hC hK hM (j := 17) (k := 2 * a0 + (K + 3)) (by decide) (by omega) (by omega) d_Root_nextWord_33 ?_
  refine nv_low hC kl_Root_44 d_Root_nextWord_34 d_Root_nextWord_35 d_Root_nextWord_38 ?_
  refine lv_aload_n hC.1 hC.2.1 d_Root_nextWord_39 rfl (lv_at hl 3 rfl) ?_
  refine lv_iconst (v := nI 2) hC.1 hC.2.1 d_Root_nextWord_40 (by decide) ?_
  refine lv_iload_n hC.1 hC.2.1 d_Root_nextWord_41 rfl (lv_at hl 5 rfl) ?_
  refine nv_imul hC d_Root_nextWord_42 ?_
  refine lv_aload_n hC.1 hC.2.1 d_Root_nextWord_43 rfl (lv_at hl 4 rfl) ?_
  refine lv_iload_n hC.1 hC.2.1 d_Root_nextWord_44 rfl (lv_at hl 5 rfl) ?_
  refine lv_iload hC.1 hC.2.1 d_Root_nextWord_45 (lv_at hl 1 rfl) ?_
  refine lv_lload hC.1 hC.2.1 d_Root_nextWord_47 (lv_at hl 0 rfl) ?_
  refine wm_callSl hC hK hM (As := [.ref (ad (19 + 17)), .int (nI (2 * a0)), .ref (ad (19 + 18)), .int (nI (a0)), .int (nI (K + 3)), .long (lN (g))]) (rest := [.long (lN (wm_u (wd 17 (2 * a0 + (K + 3)))))]) (c_Rows_takeMultiple l D ad cA cR _ ln (va_up wd 18 (upd (wd 18) a0 (nI (g)))) 17 18 (2 * a0) a0 (K + 3) g (by decide) (by decide) (by decide) hg4 (by omega) (by omega)) kc_Rows_takeMultiple km_Root_64 ki_Rows ks_Rows_takeMultiple kd_Rows_takeMultiple ⟨rfl, rfl⟩ ⟨Nat.le_of_ble_eq_true rfl, Nat.le_of_ble_eq_true rfl⟩ rfl hl.1 (Nat.le_of_ble_eq_true rfl) d_Root_nextWord_49 (fun r u H locs hp hM => ?_)
  obtain ⟨cy, f, rfl, rfl, hS, hb, hf⟩ := hp
  rw [va_up_self, va_up_ne _ _ (by decide)] at hS
  rw [va_up_ne _ _ (by decide)] at hf
  rw [show wm_off (upd (wd 18) a0 (nI g)) a0 = upd (wm_off (wd 18) a0) 0 (nI g) from wm_off_upd (wd 18) a0 0 (nI g), wm_v_set0 (n := K + 2) z0, wm_un' hg4, hD] at hS
  have hTs := wm_v_s (wm_off (wd 17) (2 * a0)) (K + 3)
  have hI := wm_sg_start hS hTs
  have hh1 := wm_u_lt (wd 17 (2 * a0 + (K + 3)))
  obtain ⟨tp, htp⟩ : ∃ z : Int, z = ((wm_u (wd 17 (2 * a0 + (K + 3))) : Nat) : Int) - ((cy : Nat) : Int) := ⟨_, rfl⟩
  have hI : tp * ((4294967296 ^ (K + 3) : Nat) : Int) + ((wm_v (wm_off f (2 * a0)) (K + 3) : Nat) : Int) = ((wm_v (wm_off (wd 17) (2 * a0)) (K + 4) : Nat) : Int) - ((g * (2 * (s0 * 4294967296) + g) : Nat) : Int) := by rw [htp]; exact hI
  have hM : wm_M D ad cA cR s (ln) (va_up (va_up wd 18 (upd (wd 18) a0 (nI g))) 17 f) H locs := by
    exact hM
  refine nz_lsubn hC d_Root_nextWord_52 ?_
  refine nv_topl (y := lz_i (tp)) (by rw [htp]) ?_
  refine lv_lstore (lv' := [(8, .long (lz_i (tp))), (6, .long (lN (g))), (5, .int (nI (K + 3))), (4, .int (nI (2 * a0 + (K + 3)))), (0, .ref (ad (19 + 17))), (1, .ref (ad (19 + 18))), (2, .int (nI (a0))), (3, .int (nI (a0 + (K + 2))))]) hC.1 hC.2.1 d_Root_nextWord_53 hl (by decide) rfl (fun ls hl => ?_)
  refine lv_aload_n hC.1 hC.2.1 d_Root_nextWord_55 rfl (lv_at hl 5 rfl) ?_
  refine lv_iload_n hC.1 hC.2.1 d_Root_nextWord_56 rfl (lv_at hl 6 rfl) ?_
  refine lv_iconst (v := nI 0) hC.1 hC.2.1 d_Root_nextWord_57 (by decide) ?_
  refine wm_ast hC hK hM (j := 18) (k := a0) (by decide) (by omega) d_Root_nextWord_58 (fun H locs hM => ?_)
  have hback : upd (upd (wd 18) a0 (nI g)) a0 (nI 0) = wd 18 := by
    funext k
    by_cases e : k = a0
    · rw [e, pk_us, hd0]; rfl
    · rw [pk_un e, pk_un e]
  have hM : wm_M D ad cA cR s (ln) (va_up wd 17 f) H locs := by
    rw [va_up_ne _ _ (by decide), va_up_self, wm_comm _ (by decide), wm_uu, hback, wm_eta] at hM; exact hM
  refine lv_iconst (v := nI 0) hC.1 hC.2.1 d_Root_nextWord_59 (by decide) ?_
  refine lv_istore (lv' := [(10, .int (nI (0))), (8, .long (lz_i (tp))), (6, .long (lN (g))), (5, .int (nI (K + 3))), (4, .int (nI (2 * a0 + (K + 3)))), (0, .ref (ad (19 + 17))), (1, .ref (ad (19 + 18))), (2, .int (nI (a0))), (3, .int (nI (a0 + (K + 2))))]) hC.1 hC.2.1 d_Root_nextWord_60 hl (by decide) rfl (fun ls hl => ?_)
  refine lp_Root_nextWord hC hK ln wd a0 K s0 hfit hD g hg4 k2 (fun w hw => ?_) (fun w tp f hwg hI h0 hfail hf H locs ls hM hl => ?_) 4 0 g tp f (by decide) rfl hI (by omega) (by omega) (Or.inl rfl) hf (by decide) _ _ _ hM (lv_sub hl [5, 6, 7, 4, 3, 2, 1, 0] rfl)
  · have := wm_rt_2 (s := s0) (T := wm_v (wm_off (wd 17) (2 * a0)) (K + 4)) (g := w) (b := 4294967296) (Nat.le_trans (by rw [Nat.pow_succ]; have := wm_pp K; omega) hs1) (by omega) (by rw [hw]; exact k1)
    rw [Nat.mul_assoc] at this
    exact this
  · have hPb : (w + 1) * (2 * (s0 * 4294967296) + (w + 1)) ≤ w * (2 * (s0 * 4294967296) + w) + 4294967296 ^ (K + 3) := wm_rt_b (K := K) hs2 (by omega)
    obtain ⟨rfl, hX⟩ := wm_sg0 hI h0 (Nat.lt_of_lt_of_le hfail hPb)
    refine lv_aload_n hC.1 hC.2.1 d_Root_nextWord_111 rfl (lv_at hl 0 rfl) ?_
    refine lv_iload hC.1 hC.2.1 d_Root_nextWord_112 (lv_at hl 3 rfl) ?_
    refine lv_lload hC.1 hC.2.1 d_Root_nextWord_114 (lv_at hl 5 rfl) ?_
    refine nz_l2i hC d_Root_nextWord_116 ?_
    refine wm_ast_s hC hK hM (k := 2 * a0 + (K + 3)) (by decide) (by omega) d_Root_nextWord_117 (fun H locs hM => ?_)
    refine lv_aload_n hC.1 hC.2.1 d_Root_nextWord_118 rfl (lv_at hl 1 rfl) ?_
    refine lv_iload_n hC.1 hC.2.1 d_Root_nextWord_119 rfl (lv_at hl 2 rfl) ?_
    refine lv_lload hC.1 hC.2.1 d_Root_nextWord_120 (lv_at hl 4 rfl) ?_
    refine wm_callSv hC hK hM (As := [.ref (ad (19 + 18)), .int (nI (a0)), .long (lN (w))]) (rest := []) (c_Root_putWord l D ad cA cR _ ln (va_up wd 17 (upd f (2 * a0 + (K + 3)) (Int32.ofInt (0)))) 18 a0 w (by decide) (by omega) (by omega) (by rw [va_up_ne _ _ (by decide)]; exact z1)) kc_Root_putWord km_Root_50 ki_Root ks_Root_putWord kd_Root_putWord ⟨rfl, rfl⟩ ⟨Nat.le_of_ble_eq_true rfl, Nat.le_of_ble_eq_true rfl⟩ rfl hl.1 (Nat.le_of_ble_eq_true rfl) d_Root_nextWord_122 (fun u H locs hp hM => ?_)
    rw [va_up_ne _ _ (by decide)] at hp
    refine wm_vret hC hK hM hr hlk ⟨w, _, _, hp, by omega, ?_, hfail, ?_, ?_, ?_⟩ d_Root_nextWord_125
    · rw [wm_off_upd, show wm_v (upd (wm_off f (2 * a0)) (K + 3) (Int32.ofInt 0)) (K + 4) = wm_v (upd (wm_off f (2 * a0)) (K + 3) (Int32.ofInt 0)) (K + 3 + 1) from rfl, wm_v_upds, show wm_u (Int32.ofInt 0) = 0 by decide, Nat.zero_mul, Nat.add_zero]
      exact hX
    · rw [show wm_off (upd (upd (wd 18) a0 (nI (w * 2 ^ 1))) (a0 + 1) (nI (wm_u (wd 18 (a0 + 1)) + w / 2 ^ 31))) a0 = upd (upd (wm_off (wd 18) a0) 0 (nI (w * 2 ^ 1))) 1 (nI (wm_u (wd 18 (a0 + 1)) + w / 2 ^ 31)) from by rw [wm_off_upd, show upd (wd 18) a0 (nI (w * 2 ^ 1)) = upd (wd 18) (a0 + 0) (nI (w * 2 ^ 1)) from rfl, wm_off_upd]]
      have e := wm_v_set01 (n := K + 1) (x := nI (w * 2 ^ 1)) (y := nI (wm_u (wd 18 (a0 + 1)) + w / 2 ^ 31)) z0
      have hu := wm_u_lt (wd 18 (a0 + 1))
      have z1' : wm_u (wd 18 (a0 + 1)) % 2 = 0 := z1
      rw [wm_un, wm_un' (n := wm_u (wd 18 (a0 + 1)) + w / 2 ^ 31) (by omega), show wm_v (wm_off (wd 18) a0) (K + 1 + 2) = 2 * (s0 * 4294967296) from hD, show wm_u ((wm_off (wd 18) a0) 1) = wm_u (wd 18 (a0 + 1)) from rfl] at e
      rw [show K + 3 = K + 1 + 2 from rfl]
      omega
    · intro k hk
      rw [pk_un (by omega), hf k (by omega)]
    · intro k hk
      rw [pk_un (by omega), pk_un (by omega)]
