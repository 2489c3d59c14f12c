set_option maxHeartbeats 4000000 in
set_option maxRecDepth 100000 in
theorem lp_Mod_moved {p : Program} {l : Launch} {e : Env} {s : State} {m : MethodId} {args : Array Value} {below : List Frame} {meth : Method} {c : Code} {Q : State → Prop} {D : va_G} {ad : Nat → Nat} {cA : ClassId} (hC : CallFix p m c b_Mod_moved 16 s args lw_T R_Mod) (hK : va_K D classes (md_ty cA) s) (ln : Nat → Nat) (wd : Nat → Nat → Nat) (d f0 up e0 n1 A : Nat) (fx : mr_r 8200 (wd 2) n1 A) (hn1 : n1 ≤ 4096) (he : e0 ≤ 16 * n1) (hup : up ≤ 65536 ∨ e0 ≤ f0) (hf : f0 < 2 ^ 32)
    (hex : ∀ (i : Nat) (w : Nat → Nat → Nat), (f0 ≤ i) → (i = f0 ∨ i ≤ e0) → (e0 ≤ i) → (∀ j, j ≠ 4 → w j = wd j) → (mv_v (w 4) 8200 = A / 2 ^ f0 % 2 ^ (i - f0) * 2 ^ up) → (∀ q, q < 8200 → w 4 q < 65536) → ∀ (H : Heap) (locs : List Loc) (ls : Array Slot), md_M D ad cA s (ln) (w) H locs → lv_has ls 16 [(0, .ref (ad 5)), (1, .int (nI (d)))] → W p l e ({ frames := 2, cells := 0, slots := 0, locals := 47 }) s m args below meth c H locs 0 0 Q (F0 m 106 ls [])) :
    ∀ (n : Nat) (i : Nat) (w : Nat → Nat → Nat), (f0 ≤ i) → (i = f0 ∨ i ≤ e0) → (∀ j, j ≠ 4 → w j = wd j) → (mv_v (w 4) 8200 = A / 2 ^ f0 % 2 ^ (i - f0) * 2 ^ up) → (∀ q, q < 8200 → w 4 q < 65536) → e0 + 1 ≤ i + n ∧ 0 < n → ∀ (H : Heap) (locs : List Loc) (ls : Array Slot), md_M D ad cA s (ln) (w) H locs → lv_has ls 16 [(0, .ref (ad 5)), (1, .int (nI (d))), (3, .long (lN (f0))), (7, .long (lN (up))), (11, .long (lN (e0))), (13, .long (lN (i)))] → W p l e ({ frames := 2, cells := 0, slots := 0, locals := 47 }) s m args below meth c H locs 0 0 Q (F0 m 44 ls []) := by
  intro n
  induction n with
  | zero =>
    intro i w hi hi2 hw hV hd hn
    exact absurd hn (by omega)
  | succ n ih =>
    intro i w hi hi2 hw hV hd hn H locs ls hM hl
    refine lv_lload hC.1 hC.2.1 d_Mod_moved_44 (lv_at hl 5 rfl) ?_
    refine lv_lload hC.1 hC.2.1 d_Mod_moved_46 (lv_at hl 4 rfl) ?_
    refine nv_lc_ge (tgt := 106) hC (by omega) (by omega) d_Mod_moved_48 d_Mod_moved_49 (by decide) (fun hi3 => ?_) (fun hi3 => ?_)
    · exact hex i w hi hi2 hi3 hw hV hd H locs ls hM (lv_sub hl [0, 1] rfl)
    · obtain ⟨t0, ht0⟩ : ∃ z, z = i - f0 + up := ⟨_, rfl⟩
      have ht1 : t0 / 16 < 8200 := by omega
      have hs : t0 % 16 < 16 := Nat.mod_lt _ (by decide)
      obtain ⟨b, hb⟩ : ∃ z, z = A / 2 ^ i % 2 := ⟨_, rfl⟩
      have hb2 : b < 2 := by rw [hb]; exact Nat.mod_lt _ (by decide)
      have hbit : w 2 (i / 16) / 2 ^ (i % 16) % 2 = b := by
        rw [hw 2 (by decide), hb, ← mv_bit (n := 8200) fx.2.1 (by omega), mr_v fx fx.1 (Nat.le_refl _)]
      have hlt : mv_v (w 4) 8200 < 2 ^ t0 := by rw [hV, ht0]; exact mv_mvlt
      have hdl := mv_top_lt hd ht1 hlt
      have hd3 := md_bit16 hdl hs hb2
      have hd4 : b * 2 ^ (t0 % 16) < 2 ^ 32 := by omega
      clear hb
      refine lv_lload hC.1 hC.2.1 d_Mod_moved_52 (lv_at hl 5 rfl) ?_
      refine lv_lload_n hC.1 hC.2.1 d_Mod_moved_54 rfl (lv_at hl 2 rfl) ?_
      refine nv_lsub hC (by omega) d_Mod_moved_55 ?_
      refine lv_lload hC.1 hC.2.1 d_Mod_moved_56 (lv_at hl 3 rfl) ?_
      refine nv_ladd hC d_Mod_moved_58 ?_
      refine nv_l2i hC d_Mod_moved_59 ?_
      refine nv_top (y := nI (t0)) (congrArg nI ht0.symm) ?_
      refine lv_istore (lv' := [(15, .int (nI (t0))), (0, .ref (ad 5)), (1, .int (nI (d))), (3, .long (lN (f0))), (7, .long (lN (up))), (11, .long (lN (e0))), (13, .long (lN (i)))]) hC.1 hC.2.1 d_Mod_moved_60 hl (by decide) rfl (fun ls hl => ?_)
      refine lv_aload_n hC.1 hC.2.1 d_Mod_moved_62 rfl (lv_at hl 1 rfl) ?_
      refine md_f4 hC hK hM kf_Mod_23 d_Mod_moved_63 ?_
      refine lv_iload hC.1 hC.2.1 d_Mod_moved_66 (lv_at hl 0 rfl) ?_
      refine lv_iconst (v := nI 4) hC.1 hC.2.1 d_Mod_moved_68 (by decide) ?_
      refine nv_ishrp (q := 16) hC (by decide) (by omega) (by decide) d_Mod_moved_69 ?_
      refine lv_aload_n hC.1 hC.2.1 d_Mod_moved_70 rfl (lv_at hl 1 rfl) ?_
      refine md_f4 hC hK hM kf_Mod_23 d_Mod_moved_71 ?_
      refine lv_iload hC.1 hC.2.1 d_Mod_moved_74 (lv_at hl 0 rfl) ?_
      refine lv_iconst (v := nI 4) hC.1 hC.2.1 d_Mod_moved_76 (by decide) ?_
      refine nv_ishrp (q := 16) hC (by decide) (by omega) (by decide) d_Mod_moved_77 ?_
      refine md_ald hC hK hM (j := 4) (k := t0 / 16) (by decide) (md_lt2 (by decide) (by decide) (by omega)) d_Mod_moved_78 ?_
      refine lv_aload_n hC.1 hC.2.1 d_Mod_moved_79 rfl (lv_at hl 1 rfl) ?_
      refine md_f2 hC hK hM kf_Mod_17 d_Mod_moved_80 ?_
      refine lv_lload hC.1 hC.2.1 d_Mod_moved_83 (lv_at hl 6 rfl) ?_
      refine nv_l2i hC d_Mod_moved_85 ?_
      refine md_callSi hC hK hM (As := [.ref (ad 2), .int (nI (i))]) (rest := [.int (nI (w 4 (t0 / 16))), .int (nI (t0 / 16)), .ref (ad 4)]) (c_Mod_bitOf l D ad cA _ ln w 2 i (by decide) (by omega) (by rw [hw 2 (by decide)]; exact fx.2.1)) kc_Mod_bitOf km_Mod_68 ki_Mod ks_Mod_bitOf kd_Mod_bitOf ⟨rfl, rfl⟩ ⟨Nat.le_of_ble_eq_true rfl, Nat.le_of_ble_eq_true rfl⟩ rfl hl.1 (Nat.le_of_ble_eq_true rfl) d_Mod_moved_86 (fun r u H locs hp hM => ?_)
      obtain ⟨rfl, rfl⟩ := hp
      have hM : md_M D ad cA s (ln) (w) H locs := by
        exact hM
      refine nv_top (y := nI (b)) (congrArg nI hbit) ?_
      refine lv_iload hC.1 hC.2.1 d_Mod_moved_89 (lv_at hl 0 rfl) ?_
      refine lv_bipush (v := nI 15) hC.1 hC.2.1 d_Mod_moved_91 (by decide) ?_
      refine nv_iandp (k := 4) (q := 16) hC (by decide) (by decide) (by omega) (by decide) d_Mod_moved_93 ?_
      refine nv_ishl hC (by omega) hd4 d_Mod_moved_94 ?_
      refine nv_ior hC hdl (by omega) d_Mod_moved_95 ?_
      refine md_ast hC hK hM (j := 4) (k := t0 / 16) (v := w 4 (t0 / 16) + b * 2 ^ (t0 % 16)) (by decide) (md_lt2 (by decide) (by decide) (by omega)) d_Mod_moved_96 (fun H locs hM => ?_)
      refine lv_lload hC.1 hC.2.1 d_Mod_moved_97 (lv_at hl 6 rfl) ?_
      refine lv_lconst (v := lN 1) hC.1 hC.2.1 d_Mod_moved_99 (by decide) ?_
      refine nv_ladd hC d_Mod_moved_100 ?_
      refine lv_lstore (lv' := [(13, .long (lN (i + 1))), (15, .int (nI (t0))), (0, .ref (ad 5)), (1, .int (nI (d))), (3, .long (lN (f0))), (7, .long (lN (up))), (11, .long (lN (e0)))]) hC.1 hC.2.1 d_Mod_moved_101 hl (by decide) rfl (fun ls hl => ?_)
      refine lv_goto (tgt := 44) hC.1 hC.2.1 d_Mod_moved_103 (by decide) ?_
      exact ih (i + 1) (va_up w 4 (va_up (w 4) (t0 / 16) (w 4 (t0 / 16) + b * 2 ^ (t0 % 16)))) (by omega) (by omega) (fun j hj => by rw [va_up_ne _ _ hj]; exact hw j hj) (by
        rw [va_up_self, mv_setbit hd ht1 hlt, hV, ← hbit, hw 2 (by decide), ← mv_bit (n := 8200) fx.2.1 (by omega), mr_v fx fx.1 (Nat.le_refl _), ht0]
        exact mv_mvstep hi) (by rw [va_up_self]; exact mv_upd_d hd hd3) (by omega) H locs ls hM (lv_sub hl [2, 3, 4, 5, 6, 0] rfl)
set_option maxHeartbeats 4000000 in
set_option maxRecDepth 100000 in
theorem c_Mod_moved (l : Launch) (D : va_G) (ad : Nat → Nat) (cA : ClassId) (sz : Nat) (ln : Nat → Nat) (wd : Nat → Nat → Nat) (N : Nat → Nat) (hR : md_R N wd) (d a f0 n0 up : Nat) (hd : d < 16) (ha : a < 16) (hf : f0 < 2 ^ 32) (hn : n0 < 2 ^ 32) (hup : up ≤ 65536 ∨ n0 = 0) : Met l y_Mod_moved (Cond.code y_Mod_moved b_Mod_moved 16 (some .boolean) :: lw_T) ({ frames := 2, cells := 0, slots := 0, locals := 47 }) (va_Pc [.ref (ad 5), .int (nI (d)), .int (nI (a)), .long (lN (f0)), .long (lN (n0)), .long (lN (up))] (md_B D ad cA sz ln wd)) (va_Qi (fun (r : Int32) (u : md_St) => r = (sp_putv N d (N a / 2 ^ f0 % 2 ^ n0 * 2 ^ up)).1 ∧ md_R (sp_putv N d (N a / 2 ^ f0 % 2 ^ n0 * 2 ^ up)).2 u.2) (md_E D ad cA sz) (md_A ad sz)) 0 0 (md_A ad sz) := by
  refine md_met l (by decide) (Nat.le_of_ble_eq_true rfl) ?_
  intro p e s m below meth c ls hsz hC hK hr hlk hM hl
  subst hsz
  have hC : CallFix p m c b_Mod_moved 16 s _ lw_T R_Mod := hC
  have hl : lv_has ls 16 [(0, .ref (ad 5)), (1, .int (nI (d))), (2, .int (nI (a))), (3, .long (lN (f0))), (5, .long (lN (n0))), (7, .long (lN (up)))] := hl
  have hR0 := hR
  refine lv_aload_n hC.1 hC.2.1 d_Mod_moved_0 rfl (lv_at hl 0 rfl) ?_
  refine lv_iload_n hC.1 hC.2.1 d_Mod_moved_1 rfl (lv_at hl 2 rfl) ?_
  refine md_callVv hC hK hM (As := [.int (nI (a))]) (rest := []) md_at_m rfl (c_Mod_loadX l D ad cA _ ln wd a _ ha (hR0 a ha)) kc_Mod_loadX km_Mod_45 ki_Mod kn_Mod_loadX ke_Mod_loadX kd_Mod_loadX ⟨rfl, rfl⟩ ⟨Nat.le_of_ble_eq_true rfl, Nat.le_of_ble_eq_true rfl⟩ rfl hl.1 (Nat.le_of_ble_eq_true rfl) d_Mod_moved_2 (fun u1 H locs hp1 hM => ?_)
  obtain ⟨fx, hw1, hl1⟩ := hp1
  have hR1 := md_R_of hR0 (hw1 0 (by decide)) (hw1 1 (by decide))
  have ex : u1.1 0 = wd 1 a := by rw [hl1, va_up_self]
  have exb := (hR0 a ha).1
  refine lv_aload_n hC.1 hC.2.1 d_Mod_moved_5 rfl (lv_at hl 0 rfl) ?_
  refine md_callVv hC hK hM (As := []) (rest := []) md_at_m rfl (c_Mod_clearZ l D ad cA _ (u1.1) (u1.2) ) kc_Mod_clearZ km_Mod_49 ki_Mod kn_Mod_clearZ ke_Mod_clearZ kd_Mod_clearZ ⟨rfl, rfl⟩ ⟨Nat.le_of_ble_eq_true rfl, Nat.le_of_ble_eq_true rfl⟩ rfl hl.1 (Nat.le_of_ble_eq_true rfl) d_Mod_moved_6 (fun u2 H locs hp2 hM => ?_)
  obtain ⟨fz, hw2, hl2⟩ := hp2
  rw [← hw2 2 (by decide)] at fx
  have ex : u2.1 0 = wd 1 a := by rw [hl2, va_up_ne _ _ (by decide)]; exact ex
  have hR2 := md_R_of hR1 (hw2 0 (by decide)) (hw2 1 (by decide))
  have ez : u2.1 2 = 0 := by rw [hl2, va_up_self]
  refine lv_ldc2 (v := lN 16) hC.1 hC.2.1 hC.2.2.2.1 (hC.2.2.2.2 _ kl_Mod_79) d_Mod_moved_9 ?_
  refine lv_aload_n hC.1 hC.2.1 d_Mod_moved_12 rfl (lv_at hl 0 rfl) ?_
  refine md_n0 hC hK hM kf_Mod_26 d_Mod_moved_13 ?_
  refine nv_top (y := nI (wd 1 a)) (by rw [ex]) ?_
  refine nv_i2l hC (by omega) d_Mod_moved_16 ?_
  refine nv_lmul hC d_Mod_moved_17 ?_
  refine lv_lstore (lv' := [(9, .long (lN (16 * (wd 1 a)))), (0, .ref (ad 5)), (1, .int (nI (d))), (2, .int (nI (a))), (3, .long (lN (f0))), (5, .long (lN (n0))), (7, .long (lN (up)))]) hC.1 hC.2.1 d_Mod_moved_18 hl (by decide) rfl (fun ls hl => ?_)
  refine lv_lload_n hC.1 hC.2.1 d_Mod_moved_20 rfl (lv_at hl 4 rfl) ?_
  refine lv_lload hC.1 hC.2.1 d_Mod_moved_21 (lv_at hl 5 rfl) ?_
  refine nv_ladd hC d_Mod_moved_23 ?_
  refine lv_lload hC.1 hC.2.1 d_Mod_moved_24 (lv_at hl 0 rfl) ?_
  refine nv_lc_ge (tgt := 37) hC (by omega) (by omega) d_Mod_moved_26 d_Mod_moved_27 (by decide) (fun hal => ?_) (fun hal => ?_)
  · refine lv_lload hC.1 hC.2.1 d_Mod_moved_37 (lv_at hl 0 rfl) ?_
    refine lv_lstore (lv' := [(11, .long (lN (16 * (wd 1 a)))), (9, .long (lN (16 * (wd 1 a)))), (0, .ref (ad 5)), (1, .int (nI (d))), (2, .int (nI (a))), (3, .long (lN (f0))), (5, .long (lN (n0))), (7, .long (lN (up)))]) hC.1 hC.2.1 d_Mod_moved_39 hl (by decide) rfl (fun ls hl => ?_)
    refine lv_lload_n hC.1 hC.2.1 d_Mod_moved_41 rfl (lv_at hl 5 rfl) ?_
    refine lv_lstore (lv' := [(13, .long (lN (f0))), (11, .long (lN (16 * (wd 1 a)))), (9, .long (lN (16 * (wd 1 a)))), (0, .ref (ad 5)), (1, .int (nI (d))), (2, .int (nI (a))), (3, .long (lN (f0))), (5, .long (lN (n0))), (7, .long (lN (up)))]) hC.1 hC.2.1 d_Mod_moved_42 hl (by decide) rfl (fun ls hl => ?_)
    have hA : N a < 2 ^ (16 * wd 1 a) := by rw [Nat.pow_mul]; exact mr_lt fx
    refine lp_Mod_moved hC hK u2.1 u2.2 d f0 up (16 * (wd 1 a)) _ _ fx exb (by omega) (by omega) hf (fun i w1 hi hi2 hi3 hq1 hV hq3 H locs ls hM hl => ?_) (16 * (wd 1 a) + 1) f0 u2.2 (Nat.le_refl _) (Or.inl rfl) (fun _ _ => rfl) (by rw [mv_z (Nat.zero_le _) (fun q h1 h2 => fz q h2), mv_0, Nat.sub_self, Nat.pow_zero, Nat.mod_one, Nat.zero_mul]) (fun q hq => by rw [fz q hq]; decide) (by omega) _ _ _ hM (lv_sub hl [3, 4, 6, 8, 1, 0] rfl)
    have hR3 := md_R_of hR2 (hq1 0 (by decide)) (hq1 1 (by decide))
    rw [(mv_mvend (f0 := f0) (n := n0) (i := i) hA (Or.inr ⟨hi3, hal⟩))] at hV
    refine lv_aload_n hC.1 hC.2.1 d_Mod_moved_106 rfl (lv_at hl 0 rfl) ?_
    refine lv_iload_n hC.1 hC.2.1 d_Mod_moved_107 rfl (lv_at hl 1 rfl) ?_
    refine lv_aload_n hC.1 hC.2.1 d_Mod_moved_108 rfl (lv_at hl 0 rfl) ?_
    refine md_f4 hC hK hM kf_Mod_23 d_Mod_moved_109 ?_
    refine lv_sipush (v := nI 8200) hC.1 hC.2.1 d_Mod_moved_112 (by decide) ?_
    refine md_callVi hC hK hM (As := [.int (nI (d)), .ref (ad 4), .int (nI (8200))]) (rest := []) md_at_m rfl (c_Mod_put l D ad cA _ (u2.1) w1 N d 4 _ _ hR3 hd (by decide) (by decide) hq3 hV) kc_Mod_put km_Mod_54 ki_Mod kn_Mod_put ke_Mod_put kd_Mod_put ⟨rfl, rfl⟩ ⟨Nat.le_of_ble_eq_true rfl, Nat.le_of_ble_eq_true rfl⟩ rfl hl.1 (Nat.le_of_ble_eq_true rfl) d_Mod_moved_115 (fun rk uk H locs hpk hM => ?_)
    exact md_zret hC hK hM hr hlk (md_kn hpk.1) ⟨hpk.1, hpk.2.1⟩ d_Mod_moved_118
  · refine lv_lload_n hC.1 hC.2.1 d_Mod_moved_30 rfl (lv_at hl 4 rfl) ?_
    refine lv_lload hC.1 hC.2.1 d_Mod_moved_31 (lv_at hl 5 rfl) ?_
    refine nv_ladd hC d_Mod_moved_33 ?_
    refine lv_goto (tgt := 39) hC.1 hC.2.1 d_Mod_moved_34 (by decide) ?_
    refine lv_lstore (lv' := [(11, .long (lN (f0 + n0))), (9, .long (lN (16 * (wd 1 a)))), (0, .ref (ad 5)), (1, .int (nI (d))), (2, .int (nI (a))), (3, .long (lN (f0))), (5, .long (lN (n0))), (7, .long (lN (up)))]) hC.1 hC.2.1 d_Mod_moved_39 hl (by decide) rfl (fun ls hl => ?_)
    refine lv_lload_n hC.1 hC.2.1 d_Mod_moved_41 rfl (lv_at hl 5 rfl) ?_
    refine lv_lstore (lv' := [(13, .long (lN (f0))), (11, .long (lN (f0 + n0))), (9, .long (lN (16 * (wd 1 a)))), (0, .ref (ad 5)), (1, .int (nI (d))), (2, .int (nI (a))), (3, .long (lN (f0))), (5, .long (lN (n0))), (7, .long (lN (up)))]) hC.1 hC.2.1 d_Mod_moved_42 hl (by decide) rfl (fun ls hl => ?_)
    have hA : N a < 2 ^ (16 * wd 1 a) := by rw [Nat.pow_mul]; exact mr_lt fx
    refine lp_Mod_moved hC hK u2.1 u2.2 d f0 up (f0 + n0) _ _ fx exb (by omega) (by omega) hf (fun i w1 hi hi2 hi3 hq1 hV hq3 H locs ls hM hl => ?_) (f0 + n0 + 1) f0 u2.2 (Nat.le_refl _) (Or.inl rfl) (fun _ _ => rfl) (by rw [mv_z (Nat.zero_le _) (fun q h1 h2 => fz q h2), mv_0, Nat.sub_self, Nat.pow_zero, Nat.mod_one, Nat.zero_mul]) (fun q hq => by rw [fz q hq]; decide) (by omega) _ _ _ hM (lv_sub hl [3, 4, 6, 8, 1, 0] rfl)
    have hR3 := md_R_of hR2 (hq1 0 (by decide)) (hq1 1 (by decide))
    rw [(mv_mvend (f0 := f0) (n := n0) (i := i) hA (Or.inl (by omega)))] at hV
    refine lv_aload_n hC.1 hC.2.1 d_Mod_moved_106 rfl (lv_at hl 0 rfl) ?_
    refine lv_iload_n hC.1 hC.2.1 d_Mod_moved_107 rfl (lv_at hl 1 rfl) ?_
    refine lv_aload_n hC.1 hC.2.1 d_Mod_moved_108 rfl (lv_at hl 0 rfl) ?_
    refine md_f4 hC hK hM kf_Mod_23 d_Mod_moved_109 ?_
    refine lv_sipush (v := nI 8200) hC.1 hC.2.1 d_Mod_moved_112 (by decide) ?_
    refine md_callVi hC hK hM (As := [.int (nI (d)), .ref (ad 4), .int (nI (8200))]) (rest := []) md_at_m rfl (c_Mod_put l D ad cA _ (u2.1) w1 N d 4 _ _ hR3 hd (by decide) (by decide) hq3 hV) kc_Mod_put km_Mod_54 ki_Mod kn_Mod_put ke_Mod_put kd_Mod_put ⟨rfl, rfl⟩ ⟨Nat.le_of_ble_eq_true rfl, Nat.le_of_ble_eq_true rfl⟩ rfl hl.1 (Nat.le_of_ble_eq_true rfl) d_Mod_moved_115 (fun rk uk H locs hpk hM => ?_)
    exact md_zret hC hK hM hr hlk (md_kn hpk.1) ⟨hpk.1, hpk.2.1⟩ d_Mod_moved_118
set_option maxHeartbeats 4000000 in
set_option maxRecDepth 100000 in
theorem c_Mod_shift (l : Launch) (D : va_G) (ad : Nat → Nat) (cA : ClassId) (sz : Nat) (ln : Nat → Nat) (wd : Nat → Nat → Nat) (N : Nat → Nat) (hR : md_R N wd) (x y n0 : Int32) : Met l y_Mod_shift (Cond.code y_Mod_shift b_Mod_shift 6 (some .boolean) :: lw_T) ({ frames := 3, cells := 0, slots := 0, locals := 82 }) (va_Pc [.ref (ad 5), .int (x), .int (y), .int (n0)] (md_B D ad cA sz ln wd)) (va_Qi (fun (r : Int32) (u : md_St) => r = (sp_shift N x y n0).1 ∧ md_R (sp_shift N x y n0).2 u.2) (md_E D ad cA sz) (md_A ad sz)) 0 0 (md_A ad sz) := by
  refine md_met l (by decide) (Nat.le_of_ble_eq_true rfl) ?_
  intro p e s m below meth c ls hsz hC hK hr hlk hM hl
  subst hsz
  have hC : CallFix p m c b_Mod_shift 6 s _ lw_T R_Mod := hC
  have hl : lv_has ls 6 [(0, .ref (ad 5)), (1, .int (x)), (2, .int (y)), (3, .int (n0))] := hl
  have hR0 := hR
  refine lv_iload_n hC.1 hC.2.1 d_Mod_shift_0 rfl (lv_at hl 1 rfl) ?_
  refine md_callPi hC hK hM (As := [.int (x)]) (rest := []) (c_Mod_isRegister l _ x) kc_Mod_isRegister km_Mod_41 ki_Mod ks_Mod_isRegister kd_Mod_isRegister ⟨rfl, rfl⟩ ⟨Nat.le_of_ble_eq_true rfl, Nat.le_of_ble_eq_true rfl⟩ rfl hl.1 (Nat.le_of_ble_eq_true rfl) d_Mod_shift_1 (fun r H locs hp hM => ?_)
  rcases hp with ⟨d, hd, rfl, rfl⟩ | ⟨hno, rfl⟩
  · refine nv_if_eq (tgt := 14) hC (by omega) d_Mod_shift_4 (by decide) (fun hz => ?_) (fun hz => ?_)
    · exact absurd hz (by decide)
    · refine lv_iload_n hC.1 hC.2.1 d_Mod_shift_7 rfl (lv_at hl 2 rfl) ?_
      refine md_callPi hC hK hM (As := [.int (y)]) (rest := []) (c_Mod_isRegister l _ y) kc_Mod_isRegister km_Mod_41 ki_Mod ks_Mod_isRegister kd_Mod_isRegister ⟨rfl, rfl⟩ ⟨Nat.le_of_ble_eq_true rfl, Nat.le_of_ble_eq_true rfl⟩ rfl hl.1 (Nat.le_of_ble_eq_true rfl) d_Mod_shift_8 (fun r H locs hp hM => ?_)
      rcases hp with ⟨a, ha, rfl, rfl⟩ | ⟨hno, rfl⟩
      · refine nv_if_ne (tgt := 16) hC (by omega) d_Mod_shift_11 (by decide) (fun hz => ?_) (fun hz => ?_)
        · have hLa := md_R_L hR ha
          refine lv_iload_n hC.1 hC.2.1 d_Mod_shift_16 rfl (lv_at hl 3 rfl) ?_
          refine lv_if_ge (tgt := 34) hC.1 hC.2.1 d_Mod_shift_17 (by decide) (fun hn => ?_) (fun hn => ?_)
          · obtain ⟨k, hk, rfl⟩ := nI_of (Int32.not_lt.mpr hn)
            have hbb : wm_bl (N a) ≤ 65536 := sp_bl.mpr hLa
            refine lv_aload_n hC.1 hC.2.1 d_Mod_shift_34 rfl (lv_at hl 0 rfl) ?_
            refine lv_iload_n hC.1 hC.2.1 d_Mod_shift_35 rfl (lv_at hl 2 rfl) ?_
            refine md_callVi hC hK hM (As := [.int (nI (a))]) (rest := []) md_at_m rfl (c_Mod_bitsOf l D ad cA _ ln wd a _ ha (hR a ha)) kc_Mod_bitsOf km_Mod_87 ki_Mod kn_Mod_bitsOf ke_Mod_bitsOf kd_Mod_bitsOf ⟨rfl, rfl⟩ ⟨Nat.le_of_ble_eq_true rfl, Nat.le_of_ble_eq_true rfl⟩ rfl hl.1 (Nat.le_of_ble_eq_true rfl) d_Mod_shift_36 (fun r u H locs hp hM => ?_)
            obtain ⟨rfl, rfl⟩ := hp
            have hM : md_M D ad cA s (ln) (wd) H locs := by
              exact hM
            refine nv_i2l hC (by omega) d_Mod_shift_39 ?_
            refine lv_lstore (lv' := [(4, .long (lN (wm_bl (N a)))), (0, .ref (ad 5)), (1, .int (nI (d))), (2, .int (nI (a))), (3, .int (nI (k)))]) hC.1 hC.2.1 d_Mod_shift_40 hl (by decide) rfl (fun ls hl => ?_)
            refine lv_lload hC.1 hC.2.1 d_Mod_shift_42 (lv_at hl 0 rfl) ?_
            refine lv_lconst (v := lN 0) hC.1 hC.2.1 d_Mod_shift_44 (by decide) ?_
            refine nv_lc_le (tgt := 63) hC (by omega) (by omega) d_Mod_shift_45 d_Mod_shift_46 (by decide) (fun h0 => ?_) (fun h0 => ?_)
            · refine lv_aload_n hC.1 hC.2.1 d_Mod_shift_63 rfl (lv_at hl 1 rfl) ?_
              refine lv_iload_n hC.1 hC.2.1 d_Mod_shift_64 rfl (lv_at hl 2 rfl) ?_
              refine lv_iload_n hC.1 hC.2.1 d_Mod_shift_65 rfl (lv_at hl 3 rfl) ?_
              refine lv_lconst (v := lN 0) hC.1 hC.2.1 d_Mod_shift_66 (by decide) ?_
              refine lv_lload hC.1 hC.2.1 d_Mod_shift_67 (lv_at hl 0 rfl) ?_
              refine lv_iload_n hC.1 hC.2.1 d_Mod_shift_69 rfl (lv_at hl 4 rfl) ?_
              refine nv_i2l hC (by omega) d_Mod_shift_70 ?_
              refine md_callVi hC hK hM (As := [.int (nI (d)), .int (nI (a)), .long (lN (0)), .long (lN (wm_bl (N a))), .long (lN (k))]) (rest := []) md_at_m rfl (c_Mod_moved l D ad cA _ ln wd N hR d a 0 (wm_bl (N a)) k hd ha (by decide) (by omega) (Or.inr (by omega))) kc_Mod_moved km_Mod_83 ki_Mod kn_Mod_moved ke_Mod_moved kd_Mod_moved ⟨rfl, rfl⟩ ⟨Nat.le_of_ble_eq_true rfl, Nat.le_of_ble_eq_true rfl⟩ rfl hl.1 (Nat.le_of_ble_eq_true rfl) d_Mod_shift_71 (fun rk uk H locs hpk hM => ?_)
              have hX : N a / 2 ^ 0 % 2 ^ wm_bl (N a) * 2 ^ k = N a * 2 ^ k := by rw [Nat.pow_zero, Nat.div_one, Nat.mod_eq_of_lt (wm_bl_lt _)]
              rw [hX] at hpk
              exact md_zret hC hK hM hr hlk (md_kn hpk.1) (by simp only [sp_shift, sp_ix_ok hd, sp_ix_ok ha]; rw [if_neg (Int32.not_lt.mpr hn), nI_clamp hk]; exact hpk) d_Mod_shift_74
            · refine lv_lload hC.1 hC.2.1 d_Mod_shift_49 (lv_at hl 0 rfl) ?_
              refine lv_iload_n hC.1 hC.2.1 d_Mod_shift_51 rfl (lv_at hl 4 rfl) ?_
              refine nv_i2l hC (by omega) d_Mod_shift_52 ?_
              refine nv_ladd hC d_Mod_shift_53 ?_
              refine lv_ldc2 (v := lN 65536) hC.1 hC.2.1 hC.2.2.2.1 (hC.2.2.2.2 _ kl_Mod_81) d_Mod_shift_54 ?_
              refine nv_lc_le (tgt := 63) hC (by omega) (by omega) d_Mod_shift_57 d_Mod_shift_58 (by decide) (fun h1 => ?_) (fun h1 => ?_)
              · refine lv_aload_n hC.1 hC.2.1 d_Mod_shift_63 rfl (lv_at hl 1 rfl) ?_
                refine lv_iload_n hC.1 hC.2.1 d_Mod_shift_64 rfl (lv_at hl 2 rfl) ?_
                refine lv_iload_n hC.1 hC.2.1 d_Mod_shift_65 rfl (lv_at hl 3 rfl) ?_
                refine lv_lconst (v := lN 0) hC.1 hC.2.1 d_Mod_shift_66 (by decide) ?_
                refine lv_lload hC.1 hC.2.1 d_Mod_shift_67 (lv_at hl 0 rfl) ?_
                refine lv_iload_n hC.1 hC.2.1 d_Mod_shift_69 rfl (lv_at hl 4 rfl) ?_
                refine nv_i2l hC (by omega) d_Mod_shift_70 ?_
                refine md_callVi hC hK hM (As := [.int (nI (d)), .int (nI (a)), .long (lN (0)), .long (lN (wm_bl (N a))), .long (lN (k))]) (rest := []) md_at_m rfl (c_Mod_moved l D ad cA _ ln wd N hR d a 0 (wm_bl (N a)) k hd ha (by decide) (by omega) (Or.inl (by omega))) kc_Mod_moved km_Mod_83 ki_Mod kn_Mod_moved ke_Mod_moved kd_Mod_moved ⟨rfl, rfl⟩ ⟨Nat.le_of_ble_eq_true rfl, Nat.le_of_ble_eq_true rfl⟩ rfl hl.1 (Nat.le_of_ble_eq_true rfl) d_Mod_shift_71 (fun rk uk H locs hpk hM => ?_)
                have hX : N a / 2 ^ 0 % 2 ^ wm_bl (N a) * 2 ^ k = N a * 2 ^ k := by rw [Nat.pow_zero, Nat.div_one, Nat.mod_eq_of_lt (wm_bl_lt _)]
                rw [hX] at hpk
                exact md_zret hC hK hM hr hlk (md_kn hpk.1) (by simp only [sp_shift, sp_ix_ok hd, sp_ix_ok ha]; rw [if_neg (Int32.not_lt.mpr hn), nI_clamp hk]; exact hpk) d_Mod_shift_74
              · refine lv_iconst (v := nI 0) hC.1 hC.2.1 d_Mod_shift_61 (by decide) ?_
                have hbig : ¬ N a * 2 ^ k < sp_L := Nat.not_lt.mpr (sp_shl_big (by
                  rcases Nat.eq_zero_or_pos (N a) with z | z
                  · rw [z, wm_bl_0] at h0; omega
                  · exact z) (by omega))
                exact md_zret hC hK hM hr hlk rfl ⟨by simp only [sp_shift, sp_ix_ok hd, sp_ix_ok ha]; rw [if_neg (Int32.not_lt.mpr hn), nI_clamp hk, sp_putv, if_neg hbig], by simp only [sp_shift, sp_ix_ok hd, sp_ix_ok ha]; rw [if_neg (Int32.not_lt.mpr hn), nI_clamp hk, sp_putv, if_neg hbig]; exact hR⟩ d_Mod_shift_62
          · have hn2 := Int32.not_le.mp hn
            obtain ⟨hm1, hm2, hm3⟩ := md_neg64 hn2
            refine lv_aload_n hC.1 hC.2.1 d_Mod_shift_20 rfl (lv_at hl 0 rfl) ?_
            refine lv_iload_n hC.1 hC.2.1 d_Mod_shift_21 rfl (lv_at hl 1 rfl) ?_
            refine lv_iload_n hC.1 hC.2.1 d_Mod_shift_22 rfl (lv_at hl 2 rfl) ?_
            refine lv_iload_n hC.1 hC.2.1 d_Mod_shift_23 rfl (lv_at hl 3 rfl) ?_
            refine lv_i2l hC.1 hC.2.1 d_Mod_shift_24 rfl ?_
            refine lv_lneg hC.1 hC.2.1 d_Mod_shift_25 ?_
            refine nv_topl (y := lN ((-(n0).toInt).toNat)) hm1 ?_
            refine lv_ldc2 (v := lN 65536) hC.1 hC.2.1 hC.2.2.2.1 (hC.2.2.2.2 _ kl_Mod_81) d_Mod_shift_26 ?_
            refine lv_lconst (v := lN 0) hC.1 hC.2.1 d_Mod_shift_29 (by decide) ?_
            refine md_callVi hC hK hM (As := [.int (nI (d)), .int (nI (a)), .long (lN ((-(n0).toInt).toNat)), .long (lN (65536)), .long (lN (0))]) (rest := []) md_at_m rfl (c_Mod_moved l D ad cA _ ln wd N hR d a (-(n0).toInt).toNat 65536 0 hd ha (by omega) (by decide) (Or.inl (by decide))) kc_Mod_moved km_Mod_83 ki_Mod kn_Mod_moved ke_Mod_moved kd_Mod_moved ⟨rfl, rfl⟩ ⟨Nat.le_of_ble_eq_true rfl, Nat.le_of_ble_eq_true rfl⟩ rfl hl.1 (Nat.le_of_ble_eq_true rfl) d_Mod_shift_30 (fun rk uk H locs hpk hM => ?_)
            have hX : N a / 2 ^ (-n0.toInt).toNat % 2 ^ 65536 * 2 ^ 0 = N a / 2 ^ (-n0.toInt).toNat := by rw [Nat.pow_zero, Nat.mul_one]; exact Nat.mod_eq_of_lt (Nat.lt_of_le_of_lt (Nat.div_le_self _ _) hLa)
            rw [hX, sp_putv, if_pos (Nat.lt_of_le_of_lt (Nat.div_le_self _ _) hLa)] at hpk
            exact md_zret hC hK hM hr hlk (md_k1 hpk.1) (by simp only [sp_shift, sp_ix_ok hd, sp_ix_ok ha]; rw [if_pos hn2]; exact hpk) d_Mod_shift_33
        · exact absurd hz (by decide)
      · refine nv_if_ne (tgt := 16) hC (by omega) d_Mod_shift_11 (by decide) (fun hz => ?_) (fun hz => ?_)
        · exact absurd rfl hz
        · refine lv_iconst (v := nI 0) hC.1 hC.2.1 d_Mod_shift_14 (by decide) ?_
          exact md_zret hC hK hM hr hlk rfl ⟨by simp only [sp_shift, sp_3, sp_no, sp_ix_ok hd, sp_ix_no hno], by simp only [sp_shift, sp_3, sp_no, sp_ix_ok hd, sp_ix_no hno]; exact hR⟩ d_Mod_shift_15
  · refine nv_if_eq (tgt := 14) hC (by omega) d_Mod_shift_4 (by decide) (fun hz => ?_) (fun hz => ?_)
    · refine lv_iconst (v := nI 0) hC.1 hC.2.1 d_Mod_shift_14 (by decide) ?_
      exact md_zret hC hK hM hr hlk rfl ⟨by simp only [sp_shift, sp_3, sp_no, sp_ix_no hno], by simp only [sp_shift, sp_3, sp_no, sp_ix_no hno]; exact hR⟩ d_Mod_shift_15
    · exact absurd rfl hz
set_option maxHeartbeats 4000000 in
set_option maxRecDepth 100000 in
theorem c_Mod_part (l : Launch) (D : va_G) (ad : Nat → Nat) (cA : ClassId) (sz : Nat) (ln : Nat → Nat) (wd : Nat → Nat → Nat) (N : Nat → Nat) (hR : md_R N wd) (x y f0 n0 : Int32) : Met l y_Mod_part (Cond.code y_Mod_part b_Mod_part 5 (some .boolean) :: lw_T) ({ frames := 3, cells := 0, slots := 0, locals := 82 }) (va_Pc [.ref (ad 5), .int (x), .int (y), .int (f0), .int (n0)] (md_B D ad cA sz ln wd)) (va_Qi (fun (r : Int32) (u : md_St) => r = (sp_part N x y f0 n0).1 ∧ md_R (sp_part N x y f0 n0).2 u.2) (md_E D ad cA sz) (md_A ad sz)) 0 0 (md_A ad sz) := by
  refine md_met l (by decide) (Nat.le_of_ble_eq_true rfl) ?_
  intro p e s m below meth c ls hsz hC hK hr hlk hM hl
  subst hsz
  have hC : CallFix p m c b_Mod_part 5 s _ lw_T R_Mod := hC
  have hl : lv_has ls 5 [(0, .ref (ad 5)), (1, .int (x)), (2, .int (y)), (3, .int (f0)), (4, .int (n0))] := hl
  have hR0 := hR
  refine lv_iload_n hC.1 hC.2.1 d_Mod_part_0 rfl (lv_at hl 1 rfl) ?_
  refine md_callPi hC hK hM (As := [.int (x)]) (rest := []) (c_Mod_isRegister l _ x) kc_Mod_isRegister km_Mod_41 ki_Mod ks_Mod_isRegister kd_Mod_isRegister ⟨rfl, rfl⟩ ⟨Nat.le_of_ble_eq_true rfl, Nat.le_of_ble_eq_true rfl⟩ rfl hl.1 (Nat.le_of_ble_eq_true rfl) d_Mod_part_1 (fun r H locs hp hM => ?_)
  rcases hp with ⟨d, hd, rfl, rfl⟩ | ⟨hno, rfl⟩
  · refine nv_if_eq (tgt := 23) hC (by omega) d_Mod_part_4 (by decide) (fun hz => ?_) (fun hz => ?_)
    · exact absurd hz (by decide)
    · refine lv_iload_n hC.1 hC.2.1 d_Mod_part_7 rfl (lv_at hl 2 rfl) ?_
      refine md_callPi hC hK hM (As := [.int (y)]) (rest := []) (c_Mod_isRegister l _ y) kc_Mod_isRegister km_Mod_41 ki_Mod ks_Mod_isRegister kd_Mod_isRegister ⟨rfl, rfl⟩ ⟨Nat.le_of_ble_eq_true rfl, Nat.le_of_ble_eq_true rfl⟩ rfl hl.1 (Nat.le_of_ble_eq_true rfl) d_Mod_part_8 (fun r H locs hp hM => ?_)
      rcases hp with ⟨a, ha, rfl, rfl⟩ | ⟨hno, rfl⟩
      · refine nv_if_eq (tgt := 23) hC (by omega) d_Mod_part_11 (by decide) (fun hz => ?_) (fun hz => ?_)
        · exact absurd hz (by decide)
        · have hLa := md_R_L hR ha
          refine lv_iload_n hC.1 hC.2.1 d_Mod_part_14 rfl (lv_at hl 3 rfl) ?_
          refine lv_if_lt (tgt := 23) hC.1 hC.2.1 d_Mod_part_15 (by decide) (fun h1 => ?_) (fun h1 => ?_)
          · refine lv_iconst (v := nI 0) hC.1 hC.2.1 d_Mod_part_23 (by decide) ?_
            have hcd : f0 < 0 ∨ n0 < 0 := Or.inl h1
            exact md_zret hC hK hM hr hlk rfl ⟨by simp only [sp_part, sp_ix_ok hd, sp_ix_ok ha]; rw [if_pos hcd]; rfl, by simp only [sp_part, sp_ix_ok hd, sp_ix_ok ha]; rw [if_pos hcd]; exact hR⟩ d_Mod_part_24
          · refine lv_iload hC.1 hC.2.1 d_Mod_part_18 (lv_at hl 4 rfl) ?_
            refine lv_if_ge (tgt := 25) hC.1 hC.2.1 d_Mod_part_20 (by decide) (fun h2 => ?_) (fun h2 => ?_)
            · obtain ⟨fr, hfr, ef⟩ := nI_of h1
              obtain ⟨k, hk, en⟩ := nI_of (Int32.not_lt.mpr h2)
              subst ef en
              refine lv_aload_n hC.1 hC.2.1 d_Mod_part_25 rfl (lv_at hl 0 rfl) ?_
              refine lv_iload_n hC.1 hC.2.1 d_Mod_part_26 rfl (lv_at hl 1 rfl) ?_
              refine lv_iload_n hC.1 hC.2.1 d_Mod_part_27 rfl (lv_at hl 2 rfl) ?_
              refine lv_iload_n hC.1 hC.2.1 d_Mod_part_28 rfl (lv_at hl 3 rfl) ?_
              refine nv_i2l hC (by omega) d_Mod_part_29 ?_
              refine lv_iload hC.1 hC.2.1 d_Mod_part_30 (lv_at hl 4 rfl) ?_
              refine nv_i2l hC (by omega) d_Mod_part_32 ?_
              refine lv_lconst (v := lN 0) hC.1 hC.2.1 d_Mod_part_33 (by decide) ?_
              refine md_callVi hC hK hM (As := [.int (nI (d)), .int (nI (a)), .long (lN (fr)), .long (lN (k)), .long (lN (0))]) (rest := []) md_at_m rfl (c_Mod_moved l D ad cA _ ln wd N hR d a fr k 0 hd ha (by omega) (by omega) (Or.inl (by decide))) kc_Mod_moved km_Mod_83 ki_Mod kn_Mod_moved ke_Mod_moved kd_Mod_moved ⟨rfl, rfl⟩ ⟨Nat.le_of_ble_eq_true rfl, Nat.le_of_ble_eq_true rfl⟩ rfl hl.1 (Nat.le_of_ble_eq_true rfl) d_Mod_part_34 (fun rk uk H locs hpk hM => ?_)
              have hcd : ¬ (nI fr < 0 ∨ nI k < 0) := fun z => by
                rcases z with z | z
                · exact h1 z
                · exact absurd z (Int32.not_lt.mpr h2)
              have hX : N a / 2 ^ fr % 2 ^ k * 2 ^ 0 = N a / 2 ^ fr % 2 ^ k := by rw [Nat.pow_zero, Nat.mul_one]
              rw [hX, sp_putv, if_pos (Nat.lt_of_le_of_lt (Nat.mod_le _ _) (Nat.lt_of_le_of_lt (Nat.div_le_self _ _) hLa))] at hpk
              exact md_zret hC hK hM hr hlk (md_k1 hpk.1) (by simp only [sp_part, sp_ix_ok hd, sp_ix_ok ha]; rw [if_neg hcd, nI_clamp hfr, nI_clamp hk]; exact hpk) d_Mod_part_37
            · refine lv_iconst (v := nI 0) hC.1 hC.2.1 d_Mod_part_23 (by decide) ?_
              have hcd : f0 < 0 ∨ n0 < 0 := Or.inr (Int32.not_le.mp h2)
              exact md_zret hC hK hM hr hlk rfl ⟨by simp only [sp_part, sp_ix_ok hd, sp_ix_ok ha]; rw [if_pos hcd]; rfl, by simp only [sp_part, sp_ix_ok hd, sp_ix_ok ha]; rw [if_pos hcd]; exact hR⟩ d_Mod_part_24
      · refine nv_if_eq (tgt := 23) hC (by omega) d_Mod_part_11 (by decide) (fun hz => ?_) (fun hz => ?_)
        · refine lv_iconst (v := nI 0) hC.1 hC.2.1 d_Mod_part_23 (by decide) ?_
          exact md_zret hC hK hM hr hlk rfl ⟨by simp only [sp_part, sp_3, sp_no, sp_ix_ok hd, sp_ix_no hno], by simp only [sp_part, sp_3, sp_no, sp_ix_ok hd, sp_ix_no hno]; exact hR⟩ d_Mod_part_24
        · exact absurd rfl hz
  · refine nv_if_eq (tgt := 23) hC (by omega) d_Mod_part_4 (by decide) (fun hz => ?_) (fun hz => ?_)
    · refine lv_iconst (v := nI 0) hC.1 hC.2.1 d_Mod_part_23 (by decide) ?_
      exact md_zret hC hK hM hr hlk rfl ⟨by simp only [sp_part, sp_3, sp_no, sp_ix_no hno], by simp only [sp_part, sp_3, sp_no, sp_ix_no hno]; exact hR⟩ d_Mod_part_24
    · exact absurd rfl hz
