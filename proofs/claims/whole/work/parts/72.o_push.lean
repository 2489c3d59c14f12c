set_option maxHeartbeats 4000000 in
set_option maxRecDepth 100000 in
theorem lp_Mod_push_a {p : Program} {l : Launch} {e : Env} {R : Room} {s : State} {m : MethodId} {args : Array Value} {below : List Frame} {meth : Method} {c : Code} {Q : State → Prop} {D : va_G} {ad : Nat → Nat} {cA : ClassId} (hC : CallFix p m c b_Mod_push 5 s args lw_T R_Mod) (hK : va_K D classes (md_ty cA) s) (ln : Nat → Nat) (wd : Nat → Nat → Nat) (d p0 : Nat) (hp0 : p0 < 2 ^ 64)
    (hex : ∀ (w : Nat → Nat → Nat), (∀ j, j ≠ 4 → w j = wd j) → (∀ q, q < 4 → w 4 q = (fun q => p0 / 2 ^ (16 * q) % 65536) q) → (∀ q, q < 8200 → w 4 q < 65536) → ∀ (H : Heap) (locs : List Loc) (ls : Array Slot), md_M D ad cA s (ln) (w) H locs → lv_has ls 5 [(0, .ref (ad 5)), (1, .int (nI (d)))] → W p l e R s m args below meth c H locs 0 0 Q (F0 m 52 ls [])) :
    ∀ (n : Nat) (k : Nat) (w : Nat → Nat → Nat), (k ≤ 4) → (∀ j, j ≠ 4 → w j = wd j) → (∀ q, q < k → w 4 q = (fun q => p0 / 2 ^ (16 * q) % 65536) q) → (∀ q, q < 8200 → w 4 q < 65536) → 4 + 1 ≤ k + n → ∀ (H : Heap) (locs : List Loc) (ls : Array Slot), md_M D ad cA s (ln) (w) H locs → lv_has ls 5 [(0, .ref (ad 5)), (1, .int (nI (d))), (2, .long (lN (p0))), (4, .int (nI (k)))] → W p l e R s m args below meth c H locs 0 0 Q (F0 m 21 ls []) := by
  intro n
  induction n with
  | zero =>
    intro k w hk hw hf hd hn
    exact absurd hn (by omega)
  | succ n ih =>
    intro k w hk hw hf hd hn H locs ls hM hl
    refine lv_iload hC.1 hC.2.1 d_Mod_push_21 (lv_at hl 3 rfl) ?_
    refine lv_iconst (v := nI 4) hC.1 hC.2.1 d_Mod_push_23 (by decide) ?_
    refine nv_icmp_ge (tgt := 52) hC (by omega) (by omega) d_Mod_push_24 (by decide) (fun hk2 => ?_) (fun hk2 => ?_)
    · obtain rfl : k = 4 := by omega
      exact hex w hw hf hd H locs ls hM (lv_sub hl [0, 1] rfl)
    · refine lv_aload_n hC.1 hC.2.1 d_Mod_push_27 rfl (lv_at hl 0 rfl) ?_
      refine md_f4 hC hK hM kf_Mod_23 d_Mod_push_28 ?_
      refine lv_iload hC.1 hC.2.1 d_Mod_push_31 (lv_at hl 3 rfl) ?_
      refine lv_lload_n hC.1 hC.2.1 d_Mod_push_33 rfl (lv_at hl 2 rfl) ?_
      refine lv_bipush (v := nI 16) hC.1 hC.2.1 d_Mod_push_34 (by decide) ?_
      refine lv_iload hC.1 hC.2.1 d_Mod_push_36 (lv_at hl 3 rfl) ?_
      refine nv_imul hC d_Mod_push_38 ?_
      refine nv_dig hC kl_Mod_52 hp0 (by omega) d_Mod_push_39 d_Mod_push_40 d_Mod_push_43 ?_
      refine nv_l2i hC d_Mod_push_44 ?_
      refine md_ast hC hK hM (j := 4) (k := k) (v := p0 / 2 ^ (16 * k) % 65536) (by decide) (md_lt2 (by decide) (by decide) (by omega)) d_Mod_push_45 (fun H locs hM => ?_)
      refine lv_iinc (v := nI (k + 1)) (lv' := [(4, .int (nI (k + 1))), (0, .ref (ad 5)), (1, .int (nI (d))), (2, .long (lN (p0)))]) hC.1 hC.2.1 d_Mod_push_46 hl (k := 3) rfl (nv_inc _) (by decide) rfl (fun ls hl => ?_)
      refine lv_goto (tgt := 21) hC.1 hC.2.1 d_Mod_push_49 (by decide) ?_
      exact ih (k + 1) (va_up w 4 (va_up (w 4) k (p0 / 2 ^ (16 * k) % 65536))) (by omega) (fun j hj => by rw [va_up_ne _ _ hj]; exact hw j hj) (by rw [va_up_self]; exact md_fill hf rfl) (by rw [va_up_self]; exact mv_upd_d hd (Nat.mod_lt _ (by decide))) (by omega) H locs ls hM (lv_sub hl [1, 2, 3, 0] rfl)
set_option maxHeartbeats 4000000 in
set_option maxRecDepth 100000 in
theorem lp_Mod_push_b {p : Program} {l : Launch} {e : Env} {R : Room} {s : State} {m : MethodId} {args : Array Value} {below : List Frame} {meth : Method} {c : Code} {Q : State → Prop} {D : va_G} {ad : Nat → Nat} {cA : ClassId} (hC : CallFix p m c b_Mod_push 5 s args lw_T R_Mod) (hK : va_K D classes (md_ty cA) s) (ln : Nat → Nat) (wd : Nat → Nat → Nat) (d n0 : Nat) (e0 : ln 0 = n0) (hn0 : n0 ≤ 4096) (dx : mv_d (wd 2) 8200)
    (hex : ∀ (w : Nat → Nat → Nat), (∀ j, j ≠ 4 → w j = wd j) → (∀ q, q < n0 → w 4 (q + 4) = wd 2 q) → (∀ q, q < 4 → w 4 q = wd 4 q) → (∀ q, q < 8200 → w 4 q < 65536) → ∀ (H : Heap) (locs : List Loc) (ls : Array Slot), md_M D ad cA s (ln) (w) H locs → lv_has ls 5 [(0, .ref (ad 5)), (1, .int (nI (d)))] → W p l e R s m args below meth c H locs 0 0 Q (F0 m 86 ls [])) :
    ∀ (n : Nat) (k : Nat) (w : Nat → Nat → Nat), (k ≤ n0) → (∀ j, j ≠ 4 → w j = wd j) → (∀ q, q < k → w 4 (q + 4) = wd 2 q) → (∀ q, q < 4 → w 4 q = wd 4 q) → (∀ q, q < 8200 → w 4 q < 65536) → n0 + 1 ≤ k + n → ∀ (H : Heap) (locs : List Loc) (ls : Array Slot), md_M D ad cA s (ln) (w) H locs → lv_has ls 5 [(0, .ref (ad 5)), (1, .int (nI (d))), (4, .int (nI (k)))] → W p l e R s m args below meth c H locs 0 0 Q (F0 m 55 ls []) := by
  intro n
  induction n with
  | zero =>
    intro k w hk hw hf ho hd hn
    exact absurd hn (by omega)
  | succ n ih =>
    intro k w hk hw hf ho hd hn H locs ls hM hl
    refine lv_iload hC.1 hC.2.1 d_Mod_push_55 (lv_at hl 2 rfl) ?_
    refine lv_aload_n hC.1 hC.2.1 d_Mod_push_57 rfl (lv_at hl 0 rfl) ?_
    refine md_n0 hC hK hM kf_Mod_26 d_Mod_push_58 ?_
    refine nv_top (y := nI (n0)) (by rw [e0]) ?_
    refine nv_icmp_ge (tgt := 86) hC (by omega) (by omega) d_Mod_push_61 (by decide) (fun hk2 => ?_) (fun hk2 => ?_)
    · obtain rfl : k = n0 := by omega
      exact hex w hw hf ho hd H locs ls hM (lv_sub hl [0, 1] rfl)
    · refine lv_aload_n hC.1 hC.2.1 d_Mod_push_64 rfl (lv_at hl 0 rfl) ?_
      refine md_f4 hC hK hM kf_Mod_23 d_Mod_push_65 ?_
      refine lv_iload hC.1 hC.2.1 d_Mod_push_68 (lv_at hl 2 rfl) ?_
      refine lv_iconst (v := nI 4) hC.1 hC.2.1 d_Mod_push_70 (by decide) ?_
      refine nv_iadd hC d_Mod_push_71 ?_
      refine lv_aload_n hC.1 hC.2.1 d_Mod_push_72 rfl (lv_at hl 0 rfl) ?_
      refine md_f2 hC hK hM kf_Mod_17 d_Mod_push_73 ?_
      refine lv_iload hC.1 hC.2.1 d_Mod_push_76 (lv_at hl 2 rfl) ?_
      refine md_ald hC hK hM (j := 2) (k := k) (by decide) (md_lt2 (by decide) (by decide) (by omega)) d_Mod_push_78 ?_
      refine nv_top (y := nI (wd 2 k)) (by rw [hw 2 (by decide)]) ?_
      refine md_ast hC hK hM (j := 4) (k := k + 4) (v := wd 2 k) (by decide) (md_lt2 (by decide) (by decide) (by omega)) d_Mod_push_79 (fun H locs hM => ?_)
      refine lv_iinc (v := nI (k + 1)) (lv' := [(4, .int (nI (k + 1))), (0, .ref (ad 5)), (1, .int (nI (d)))]) hC.1 hC.2.1 d_Mod_push_80 hl (k := 2) rfl (nv_inc _) (by decide) rfl (fun ls hl => ?_)
      refine lv_goto (tgt := 55) hC.1 hC.2.1 d_Mod_push_83 (by decide) ?_
      exact ih (k + 1) (va_up w 4 (va_up (w 4) (k + 4) (wd 2 k))) (by omega) (fun j hj => by rw [va_up_ne _ _ hj]; exact hw j hj) (fun q hq => by
        rw [va_up_self]
        by_cases e : q = k
        · rw [e, va_up_self]
        · rw [va_up_ne _ _ (by omega)]; exact hf q (by omega)) (fun q hq => by rw [va_up_self, va_up_ne _ _ (by omega)]; exact ho q hq) (by rw [va_up_self]; exact mv_upd_d hd (dx k (by omega))) (by omega) H locs ls hM (lv_sub hl [1, 2, 0] rfl)
set_option maxHeartbeats 4000000 in
set_option maxRecDepth 100000 in
theorem c_Mod_push (l : Launch) (D : va_G) (ad : Nat → Nat) (cA : ClassId) (sz : Nat) (ln : Nat → Nat) (wd : Nat → Nat → Nat) (N : Nat → Nat) (hR : md_R N wd) (x : Int32) (p0 : Nat) (hp0 : p0 < 2 ^ 64) : Met l y_Mod_push (Cond.code y_Mod_push b_Mod_push 5 (some .boolean) :: lw_T) ({ frames := 2, cells := 0, slots := 0, locals := 47 }) (va_Pc [.ref (ad 5), .int (x), .long (lN (p0))] (md_B D ad cA sz ln wd)) (va_Qi (fun (r : Int32) (u : md_St) => r = (sp_push N x p0).1 ∧ md_R (sp_push N x p0).2 u.2) (md_E D ad cA sz) (md_A ad sz)) 0 0 (md_A ad sz) := by
  refine md_met l (by decide) (Nat.le_of_ble_eq_true rfl) ?_
  intro p e s m below meth c ls hsz hC hK hr hlk hM hl
  subst hsz
  have hC : CallFix p m c b_Mod_push 5 s _ lw_T R_Mod := hC
  have hl : lv_has ls 5 [(0, .ref (ad 5)), (1, .int (x)), (2, .long (lN (p0)))] := hl
  have hR0 := hR
  refine lv_iload_n hC.1 hC.2.1 d_Mod_push_0 rfl (lv_at hl 1 rfl) ?_
  refine md_callPi hC hK hM (As := [.int (x)]) (rest := []) (c_Mod_isRegister l _ x) kc_Mod_isRegister km_Mod_41 ki_Mod ks_Mod_isRegister kd_Mod_isRegister ⟨rfl, rfl⟩ ⟨Nat.le_of_ble_eq_true rfl, Nat.le_of_ble_eq_true rfl⟩ rfl hl.1 (Nat.le_of_ble_eq_true rfl) d_Mod_push_1 (fun r H locs hp hM => ?_)
  rcases hp with ⟨d, hd, rfl, rfl⟩ | ⟨hno, rfl⟩
  · refine nv_if_ne (tgt := 9) hC (by omega) d_Mod_push_4 (by decide) (fun hz => ?_) (fun hz => ?_)
    · refine lv_aload_n hC.1 hC.2.1 d_Mod_push_9 rfl (lv_at hl 0 rfl) ?_
      refine lv_iload_n hC.1 hC.2.1 d_Mod_push_10 rfl (lv_at hl 1 rfl) ?_
      refine md_callVv hC hK hM (As := [.int (nI (d))]) (rest := []) md_at_m rfl (c_Mod_loadX l D ad cA _ ln wd d _ hd (hR0 d hd)) kc_Mod_loadX km_Mod_45 ki_Mod kn_Mod_loadX ke_Mod_loadX kd_Mod_loadX ⟨rfl, rfl⟩ ⟨Nat.le_of_ble_eq_true rfl, Nat.le_of_ble_eq_true rfl⟩ rfl hl.1 (Nat.le_of_ble_eq_true rfl) d_Mod_push_11 (fun u1 H locs hp1 hM => ?_)
      obtain ⟨fx, hw1, hl1⟩ := hp1
      have hR1 := md_R_of hR0 (hw1 0 (by decide)) (hw1 1 (by decide))
      have ex : u1.1 0 = wd 1 d := by rw [hl1, va_up_self]
      have exb := (hR0 d hd).1
      refine lv_aload_n hC.1 hC.2.1 d_Mod_push_14 rfl (lv_at hl 0 rfl) ?_
      refine md_callVv hC hK hM (As := []) (rest := []) md_at_m rfl (c_Mod_clearZ l D ad cA _ (u1.1) (u1.2) ) kc_Mod_clearZ km_Mod_49 ki_Mod kn_Mod_clearZ ke_Mod_clearZ kd_Mod_clearZ ⟨rfl, rfl⟩ ⟨Nat.le_of_ble_eq_true rfl, Nat.le_of_ble_eq_true rfl⟩ rfl hl.1 (Nat.le_of_ble_eq_true rfl) d_Mod_push_15 (fun u2 H locs hp2 hM => ?_)
      obtain ⟨fz, hw2, hl2⟩ := hp2
      rw [← hw2 2 (by decide)] at fx
      have ex : u2.1 0 = wd 1 d := by rw [hl2, va_up_ne _ _ (by decide)]; exact ex
      have hR2 := md_R_of hR1 (hw2 0 (by decide)) (hw2 1 (by decide))
      have ez : u2.1 2 = 0 := by rw [hl2, va_up_self]
      refine lv_iconst (v := nI 0) hC.1 hC.2.1 d_Mod_push_18 (by decide) ?_
      refine lv_istore (lv' := [(4, .int (nI (0))), (0, .ref (ad 5)), (1, .int (nI (d))), (2, .long (lN (p0)))]) hC.1 hC.2.1 d_Mod_push_19 hl (by decide) rfl (fun ls hl => ?_)
      refine lp_Mod_push_a hC hK u2.1 u2.2 d p0 hp0 (fun w1 hq1 hq2 hq3 H locs ls hM hl => ?_) 5 0 u2.2 (Nat.zero_le _) (fun _ _ => rfl) (fun q hq => absurd hq (by omega)) (fun q hq => by rw [fz q hq]; decide) (by omega) _ _ _ hM (lv_sub hl [1, 2, 3, 0] rfl)
      rw [← hq1 2 (by decide)] at fx
      refine lv_iconst (v := nI 0) hC.1 hC.2.1 d_Mod_push_52 (by decide) ?_
      refine lv_istore (lv' := [(4, .int (nI (0))), (0, .ref (ad 5)), (1, .int (nI (d)))]) hC.1 hC.2.1 d_Mod_push_53 hl (by decide) rfl (fun ls hl => ?_)
      refine lp_Mod_push_b hC hK u2.1 w1 d _ ex exb fx.2.1 (fun w2 hg1 hg2 hg3 hg4 H locs ls hM hl => ?_) (wd 1 d + 1) 0 w1 (Nat.zero_le _) (fun _ _ => rfl) (fun q hq => absurd hq (by omega)) (fun _ _ => rfl) hq3 (by omega) _ _ _ hM (lv_sub hl [1, 2, 0] rfl)
      have hV := mv_push (f := w2 4) hp0 fx (fun q hq => by rw [hg3 q hq]; exact hq2 q hq) hg2
      have hR3 := md_R_of hR2 (hq1 0 (by decide)) (hq1 1 (by decide))
      have hR4 := md_R_of hR3 (hg1 0 (by decide)) (hg1 1 (by decide))
      refine lv_aload_n hC.1 hC.2.1 d_Mod_push_86 rfl (lv_at hl 0 rfl) ?_
      refine lv_iload_n hC.1 hC.2.1 d_Mod_push_87 rfl (lv_at hl 1 rfl) ?_
      refine lv_aload_n hC.1 hC.2.1 d_Mod_push_88 rfl (lv_at hl 0 rfl) ?_
      refine md_f4 hC hK hM kf_Mod_23 d_Mod_push_89 ?_
      refine lv_aload_n hC.1 hC.2.1 d_Mod_push_92 rfl (lv_at hl 0 rfl) ?_
      refine md_n0 hC hK hM kf_Mod_26 d_Mod_push_93 ?_
      refine nv_top (y := nI (wd 1 d)) (by rw [ex]) ?_
      refine lv_iconst (v := nI 4) hC.1 hC.2.1 d_Mod_push_96 (by decide) ?_
      refine nv_iadd hC d_Mod_push_97 ?_
      refine md_callVi hC hK hM (As := [.int (nI (d)), .ref (ad 4), .int (nI ((wd 1 d) + 4))]) (rest := []) md_at_m rfl (c_Mod_put l D ad cA _ (u2.1) w2 N d 4 _ (N d * 18446744073709551616 + p0) hR4 hd (by decide) (by omega) hg4 hV) kc_Mod_put km_Mod_54 ki_Mod kn_Mod_put ke_Mod_put kd_Mod_put ⟨rfl, rfl⟩ ⟨Nat.le_of_ble_eq_true rfl, Nat.le_of_ble_eq_true rfl⟩ rfl hl.1 (Nat.le_of_ble_eq_true rfl) d_Mod_push_98 (fun rk uk H locs hpk hM => ?_)
      exact md_zret hC hK hM hr hlk (md_kn hpk.1) (by simp only [sp_push, sp_3, sp_ix_ok hd]; exact ⟨hpk.1, hpk.2.1⟩) d_Mod_push_101
    · exact absurd hz (by decide)
  · refine nv_if_ne (tgt := 9) hC (by omega) d_Mod_push_4 (by decide) (fun hz => ?_) (fun hz => ?_)
    · exact absurd rfl hz
    · refine lv_iconst (v := nI 0) hC.1 hC.2.1 d_Mod_push_7 (by decide) ?_
      exact md_zret hC hK hM hr hlk rfl ⟨by simp only [sp_push, sp_3, sp_no, sp_ix_no hno], by simp only [sp_push, sp_3, sp_no, sp_ix_no hno]; exact hR⟩ d_Mod_push_8
set_option maxHeartbeats 4000000 in
set_option maxRecDepth 100000 in
theorem lp_Mod_spread {p : Program} {l : Launch} {e : Env} {R : Room} {s : State} {m : MethodId} {args : Array Value} {below : List Frame} {meth : Method} {c : Code} {Q : State → Prop} {D : va_G} {ad : Nat → Nat} {cA : ClassId} (hC : CallFix p m c b_Mod_spread 6 s args lw_T R_Mod) (hK : va_K D classes (md_ty cA) s) (ln : Nat → Nat) (wd : Nat → Nat → Nat) (d p0 n0 : Nat) (hp0 : p0 < 2 ^ 64) (hn0 : n0 ≤ 1024)
    (hex : ∀ (w : Nat → Nat → Nat), (∀ j, j ≠ 4 → w j = wd j) → (∀ q, q < 4 * n0 → w 4 q = (fun q => p0 / 2 ^ (16 * (q % 4)) % 65536) q) → (∀ q, q < 8200 → w 4 q < 65536) → ∀ (H : Heap) (locs : List Loc) (ls : Array Slot), md_M D ad cA s (ln) (w) H locs → lv_has ls 6 [(0, .ref (ad 5)), (1, .int (nI (d))), (4, .int (nI (n0)))] → W p l e R s m args below meth c H locs 0 0 Q (F0 m 65 ls [])) :
    ∀ (n : Nat) (k : Nat) (w : Nat → Nat → Nat), (k ≤ 4 * n0) → (∀ j, j ≠ 4 → w j = wd j) → (∀ q, q < k → w 4 q = (fun q => p0 / 2 ^ (16 * (q % 4)) % 65536) q) → (∀ q, q < 8200 → w 4 q < 65536) → 4 * n0 + 1 ≤ k + n → ∀ (H : Heap) (locs : List Loc) (ls : Array Slot), md_M D ad cA s (ln) (w) H locs → lv_has ls 6 [(0, .ref (ad 5)), (1, .int (nI (d))), (2, .long (lN (p0))), (4, .int (nI (n0))), (5, .int (nI (k)))] → W p l e R s m args below meth c H locs 0 0 Q (F0 m 29 ls []) := by
  intro n
  induction n with
  | zero =>
    intro k w hk hw hf hd hn
    exact absurd hn (by omega)
  | succ n ih =>
    intro k w hk hw hf hd hn H locs ls hM hl
    refine lv_iload hC.1 hC.2.1 d_Mod_spread_29 (lv_at hl 4 rfl) ?_
    refine lv_iconst (v := nI 4) hC.1 hC.2.1 d_Mod_spread_31 (by decide) ?_
    refine lv_iload hC.1 hC.2.1 d_Mod_spread_32 (lv_at hl 3 rfl) ?_
    refine nv_imul hC d_Mod_spread_34 ?_
    refine nv_icmp_ge (tgt := 65) hC (by omega) (by omega) d_Mod_spread_35 (by decide) (fun hk2 => ?_) (fun hk2 => ?_)
    · obtain rfl : k = 4 * n0 := by omega
      exact hex w hw hf hd H locs ls hM (lv_sub hl [0, 1, 3] rfl)
    · refine lv_aload_n hC.1 hC.2.1 d_Mod_spread_38 rfl (lv_at hl 0 rfl) ?_
      refine md_f4 hC hK hM kf_Mod_23 d_Mod_spread_39 ?_
      refine lv_iload hC.1 hC.2.1 d_Mod_spread_42 (lv_at hl 4 rfl) ?_
      refine lv_lload_n hC.1 hC.2.1 d_Mod_spread_44 rfl (lv_at hl 2 rfl) ?_
      refine lv_bipush (v := nI 16) hC.1 hC.2.1 d_Mod_spread_45 (by decide) ?_
      refine lv_iload hC.1 hC.2.1 d_Mod_spread_47 (lv_at hl 4 rfl) ?_
      refine lv_iconst (v := nI 4) hC.1 hC.2.1 d_Mod_spread_49 (by decide) ?_
      refine nv_irem hC (by omega) (by decide) (by decide) d_Mod_spread_50 ?_
      refine nv_imul hC d_Mod_spread_51 ?_
      refine nv_dig hC kl_Mod_52 hp0 (by omega) d_Mod_spread_52 d_Mod_spread_53 d_Mod_spread_56 ?_
      refine nv_l2i hC d_Mod_spread_57 ?_
      refine md_ast hC hK hM (j := 4) (k := k) (v := p0 / 2 ^ (16 * (k % 4)) % 65536) (by decide) (md_lt2 (by decide) (by decide) (by omega)) d_Mod_spread_58 (fun H locs hM => ?_)
      refine lv_iinc (v := nI (k + 1)) (lv' := [(5, .int (nI (k + 1))), (0, .ref (ad 5)), (1, .int (nI (d))), (2, .long (lN (p0))), (4, .int (nI (n0)))]) hC.1 hC.2.1 d_Mod_spread_59 hl (k := 4) rfl (nv_inc _) (by decide) rfl (fun ls hl => ?_)
      refine lv_goto (tgt := 29) hC.1 hC.2.1 d_Mod_spread_62 (by decide) ?_
      exact ih (k + 1) (va_up w 4 (va_up (w 4) k (p0 / 2 ^ (16 * (k % 4)) % 65536))) (by omega) (fun j hj => by rw [va_up_ne _ _ hj]; exact hw j hj) (by rw [va_up_self]; exact md_fill hf rfl) (by rw [va_up_self]; exact mv_upd_d hd (Nat.mod_lt _ (by decide))) (by omega) H locs ls hM (lv_sub hl [1, 2, 3, 4, 0] rfl)
set_option maxHeartbeats 4000000 in
set_option maxRecDepth 100000 in
theorem c_Mod_spread (l : Launch) (D : va_G) (ad : Nat → Nat) (cA : ClassId) (sz : Nat) (ln : Nat → Nat) (wd : Nat → Nat → Nat) (N : Nat → Nat) (hR : md_R N wd) (x : Int32) (p0 : Nat) (hp0 : p0 < 2 ^ 64) (n0 : Int32) : Met l y_Mod_spread (Cond.code y_Mod_spread b_Mod_spread 6 (some .boolean) :: lw_T) ({ frames := 2, cells := 0, slots := 0, locals := 47 }) (va_Pc [.ref (ad 5), .int (x), .long (lN (p0)), .int (n0)] (md_B D ad cA sz ln wd)) (va_Qi (fun (r : Int32) (u : md_St) => r = (sp_spread N x p0 n0).1 ∧ md_R (sp_spread N x p0 n0).2 u.2) (md_E D ad cA sz) (md_A ad sz)) 0 0 (md_A ad sz) := by
  refine md_met l (by decide) (Nat.le_of_ble_eq_true rfl) ?_
  intro p e s m below meth c ls hsz hC hK hr hlk hM hl
  subst hsz
  have hC : CallFix p m c b_Mod_spread 6 s _ lw_T R_Mod := hC
  have hl : lv_has ls 6 [(0, .ref (ad 5)), (1, .int (x)), (2, .long (lN (p0))), (4, .int (n0))] := hl
  have hR0 := hR
  refine lv_iload_n hC.1 hC.2.1 d_Mod_spread_0 rfl (lv_at hl 1 rfl) ?_
  refine md_callPi hC hK hM (As := [.int (x)]) (rest := []) (c_Mod_isRegister l _ x) kc_Mod_isRegister km_Mod_41 ki_Mod ks_Mod_isRegister kd_Mod_isRegister ⟨rfl, rfl⟩ ⟨Nat.le_of_ble_eq_true rfl, Nat.le_of_ble_eq_true rfl⟩ rfl hl.1 (Nat.le_of_ble_eq_true rfl) d_Mod_spread_1 (fun r H locs hp hM => ?_)
  rcases hp with ⟨d, hd, rfl, rfl⟩ | ⟨hno, rfl⟩
  · refine nv_if_eq (tgt := 20) hC (by omega) d_Mod_spread_4 (by decide) (fun hz => ?_) (fun hz => ?_)
    · exact absurd hz (by decide)
    · refine lv_iload hC.1 hC.2.1 d_Mod_spread_7 (lv_at hl 3 rfl) ?_
      refine lv_if_lt (tgt := 20) hC.1 hC.2.1 d_Mod_spread_9 (by decide) (fun hn => ?_) (fun hn => ?_)
      · refine lv_iconst (v := nI 0) hC.1 hC.2.1 d_Mod_spread_20 (by decide) ?_
        have hcd : n0 < 0 ∨ nI 1024 < n0 := Or.inl hn
        exact md_zret hC hK hM hr hlk rfl ⟨by simp only [sp_spread, sp_ix_ok hd]; rw [if_pos hcd]; rfl, by simp only [sp_spread, sp_ix_ok hd]; rw [if_pos hcd]; exact hR⟩ d_Mod_spread_21
      · obtain ⟨k, hk, rfl⟩ := nI_of hn
        refine lv_iload hC.1 hC.2.1 d_Mod_spread_12 (lv_at hl 3 rfl) ?_
        refine lv_sipush (v := nI 1024) hC.1 hC.2.1 d_Mod_spread_14 (by decide) ?_
        refine nv_icmp_le (tgt := 22) hC (by omega) (by omega) d_Mod_spread_17 (by decide) (fun hk2 => ?_) (fun hk2 => ?_)
        · refine lv_aload_n hC.1 hC.2.1 d_Mod_spread_22 rfl (lv_at hl 0 rfl) ?_
          refine md_callVv hC hK hM (As := []) (rest := []) md_at_m rfl (c_Mod_clearZ l D ad cA _ ln wd ) kc_Mod_clearZ km_Mod_49 ki_Mod kn_Mod_clearZ ke_Mod_clearZ kd_Mod_clearZ ⟨rfl, rfl⟩ ⟨Nat.le_of_ble_eq_true rfl, Nat.le_of_ble_eq_true rfl⟩ rfl hl.1 (Nat.le_of_ble_eq_true rfl) d_Mod_spread_23 (fun u1 H locs hp1 hM => ?_)
          obtain ⟨fz, hw1, hl1⟩ := hp1
          have hR1 := md_R_of hR0 (hw1 0 (by decide)) (hw1 1 (by decide))
          have ez : u1.1 2 = 0 := by rw [hl1, va_up_self]
          refine lv_iconst (v := nI 0) hC.1 hC.2.1 d_Mod_spread_26 (by decide) ?_
          refine lv_istore (lv' := [(5, .int (nI (0))), (0, .ref (ad 5)), (1, .int (nI (d))), (2, .long (lN (p0))), (4, .int (nI (k)))]) hC.1 hC.2.1 d_Mod_spread_27 hl (by decide) rfl (fun ls hl => ?_)
          refine lp_Mod_spread hC hK u1.1 u1.2 d p0 k hp0 hk2 (fun w1 hq1 hq2 hq3 H locs ls hM hl => ?_) (4 * k + 1) 0 u1.2 (Nat.zero_le _) (fun _ _ => rfl) (fun q hq => absurd hq (by omega)) (fun q hq => by rw [fz q hq]; decide) (by omega) _ _ _ hM (lv_sub hl [1, 2, 3, 4, 0] rfl)
          have hV := mv_spread (f := w1 4) hp0 k hq2
          have hR2 := md_R_of hR1 (hq1 0 (by decide)) (hq1 1 (by decide))
          have hnn : ¬ (nI k < 0 ∨ nI 1024 < nI k) := fun z => by
            rcases z with z | z
            · exact hn z
            · exact absurd ((nI_ltI (by decide) hk).mp z) (by omega)
          refine lv_aload_n hC.1 hC.2.1 d_Mod_spread_65 rfl (lv_at hl 0 rfl) ?_
          refine lv_iload_n hC.1 hC.2.1 d_Mod_spread_66 rfl (lv_at hl 1 rfl) ?_
          refine lv_aload_n hC.1 hC.2.1 d_Mod_spread_67 rfl (lv_at hl 0 rfl) ?_
          refine md_f4 hC hK hM kf_Mod_23 d_Mod_spread_68 ?_
          refine lv_iconst (v := nI 4) hC.1 hC.2.1 d_Mod_spread_71 (by decide) ?_
          refine lv_iload hC.1 hC.2.1 d_Mod_spread_72 (lv_at hl 2 rfl) ?_
          refine nv_imul hC d_Mod_spread_74 ?_
          refine md_callVi hC hK hM (As := [.int (nI (d)), .ref (ad 4), .int (nI (4 * k))]) (rest := []) md_at_m rfl (c_Mod_put l D ad cA _ (u1.1) w1 N d 4 _ (wm_pr p0 k) hR2 hd (by decide) (by omega) hq3 hV) kc_Mod_put km_Mod_54 ki_Mod kn_Mod_put ke_Mod_put kd_Mod_put ⟨rfl, rfl⟩ ⟨Nat.le_of_ble_eq_true rfl, Nat.le_of_ble_eq_true rfl⟩ rfl hl.1 (Nat.le_of_ble_eq_true rfl) d_Mod_spread_75 (fun rk uk H locs hpk hM => ?_)
          exact md_zret hC hK hM hr hlk (md_kn hpk.1) (by simp only [sp_spread, sp_3, sp_ix_ok hd]; rw [if_neg hnn, nI_clamp hk]; exact ⟨hpk.1, hpk.2.1⟩) d_Mod_spread_78
        · refine lv_iconst (v := nI 0) hC.1 hC.2.1 d_Mod_spread_20 (by decide) ?_
          have hcd : nI k < 0 ∨ nI 1024 < nI k := Or.inr ((nI_ltI (by decide) hk).mpr hk2)
          exact md_zret hC hK hM hr hlk rfl ⟨by simp only [sp_spread, sp_ix_ok hd]; rw [if_pos hcd]; rfl, by simp only [sp_spread, sp_ix_ok hd]; rw [if_pos hcd]; exact hR⟩ d_Mod_spread_21
  · refine nv_if_eq (tgt := 20) hC (by omega) d_Mod_spread_4 (by decide) (fun hz => ?_) (fun hz => ?_)
    · refine lv_iconst (v := nI 0) hC.1 hC.2.1 d_Mod_spread_20 (by decide) ?_
      exact md_zret hC hK hM hr hlk rfl ⟨by simp only [sp_spread, sp_3, sp_no, sp_ix_no hno], by simp only [sp_spread, sp_3, sp_no, sp_ix_no hno]; exact hR⟩ d_Mod_spread_21
    · exact absurd rfl hz
set_option maxHeartbeats 4000000 in
set_option maxRecDepth 100000 in
theorem lp_Mod_times_b {p : Program} {l : Launch} {e : Env} {R : Room} {s : State} {m : MethodId} {args : Array Value} {below : List Frame} {meth : Method} {c : Code} {Q : State → Prop} {D : va_G} {ad : Nat → Nat} {cA : ClassId} (hC : CallFix p m c b_Mod_times 10 s args lw_T R_Mod) (hK : va_K D classes (md_ty cA) s) (ln : Nat → Nat) (wd : Nat → Nat → Nat) (d i m0 : Nat) (e1 : ln 1 = m0) (hm : m0 ≤ 4096) (hi : i < 4096) (dx : mv_d (wd 2) 8200) (dy : mv_d (wd 3) 8200) (dz : mv_d (wd 4) 8200)
    (hex : ∀ (cy : Nat) (w : Nat → Nat → Nat), (∀ j, j ≠ 4 → w j = wd j) → (mv_v (w 4) (i + (m0 + 1)) + cy * 65536 ^ (i + (m0 + 1)) = mv_v (wd 4) (i + (m0 + 1)) + wd 2 i * 65536 ^ i * mv_v (wd 3) (m0 + 1)) → (∀ q, q < 8200 → w 4 q < 65536) → (∀ q, i + (m0 + 1) ≤ q → w 4 q = wd 4 q) → ∀ (H : Heap) (locs : List Loc) (ls : Array Slot), md_M D ad cA s (ln) (w) H locs → lv_has ls 10 [(0, .ref (ad 5)), (1, .int (nI (d))), (4, .int (nI (i)))] → W p l e R s m args below meth c H locs 0 0 Q (F0 m 128 ls [])) :
    ∀ (n : Nat) (k : Nat) (cy : Nat) (w : Nat → Nat → Nat), (k ≤ m0 + 1) → (cy < 65536) → (∀ j, j ≠ 4 → w j = wd j) → (mv_v (w 4) (i + k) + cy * 65536 ^ (i + k) = mv_v (wd 4) (i + k) + wd 2 i * 65536 ^ i * mv_v (wd 3) k) → (∀ q, q < 8200 → w 4 q < 65536) → (∀ q, i + k ≤ q → w 4 q = wd 4 q) → m0 + 2 ≤ k + n → ∀ (H : Heap) (locs : List Loc) (ls : Array Slot), md_M D ad cA s (ln) (w) H locs → lv_has ls 10 [(0, .ref (ad 5)), (1, .int (nI (d))), (4, .int (nI (i))), (5, .long (lN (cy))), (7, .int (nI (k)))] → W p l e R s m args below meth c H locs 0 0 Q (F0 m 55 ls []) := by
  intro n
  induction n with
  | zero =>
    intro k cy w hk hc hw hS hd ho hn
    exact absurd hn (by omega)
  | succ n ih =>
    intro k cy w hk hc hw hS hd ho hn H locs ls hM hl
    refine lv_iload hC.1 hC.2.1 d_Mod_times_55 (lv_at hl 4 rfl) ?_
    refine lv_aload_n hC.1 hC.2.1 d_Mod_times_57 rfl (lv_at hl 0 rfl) ?_
    refine md_n1 hC hK hM kf_Mod_30 d_Mod_times_58 ?_
    refine nv_top (y := nI (m0)) (by rw [e1]) ?_
    refine nv_icmp_gt (tgt := 128) hC (by omega) (by omega) d_Mod_times_61 (by decide) (fun hk2 => ?_) (fun hk2 => ?_)
    · obtain rfl : k = m0 + 1 := by omega
      exact hex cy w hw hS hd ho H locs ls hM (lv_sub hl [0, 1, 2] rfl)
    · have d1 := dx i (by omega)
      have d2 := dy k (by omega)
      have d3 := dz (i + k) (by omega)
      have hsum := md_sum d1 d2 d3 hc
      refine lv_aload_n hC.1 hC.2.1 d_Mod_times_64 rfl (lv_at hl 0 rfl) ?_
      refine md_f2 hC hK hM kf_Mod_17 d_Mod_times_65 ?_
      refine lv_iload hC.1 hC.2.1 d_Mod_times_68 (lv_at hl 2 rfl) ?_
      refine md_ald hC hK hM (j := 2) (k := i) (by decide) (md_lt2 (by decide) (by decide) (by omega)) d_Mod_times_70 ?_
      refine nv_top (y := nI (wd 2 i)) (by rw [hw 2 (by decide)]) ?_
      refine nv_i2l hC (by omega) d_Mod_times_71 ?_
      refine lv_aload_n hC.1 hC.2.1 d_Mod_times_72 rfl (lv_at hl 0 rfl) ?_
      refine md_f3 hC hK hM kf_Mod_20 d_Mod_times_73 ?_
      refine lv_iload hC.1 hC.2.1 d_Mod_times_76 (lv_at hl 4 rfl) ?_
      refine md_ald hC hK hM (j := 3) (k := k) (by decide) (md_lt2 (by decide) (by decide) (by omega)) d_Mod_times_78 ?_
      refine nv_top (y := nI (wd 3 k)) (by rw [hw 3 (by decide)]) ?_
      refine nv_i2l hC (by omega) d_Mod_times_79 ?_
      refine nv_lmul hC d_Mod_times_80 ?_
      refine lv_aload_n hC.1 hC.2.1 d_Mod_times_81 rfl (lv_at hl 0 rfl) ?_
      refine md_f4 hC hK hM kf_Mod_23 d_Mod_times_82 ?_
      refine lv_iload hC.1 hC.2.1 d_Mod_times_85 (lv_at hl 2 rfl) ?_
      refine lv_iload hC.1 hC.2.1 d_Mod_times_87 (lv_at hl 4 rfl) ?_
      refine nv_iadd hC d_Mod_times_89 ?_
      refine md_ald hC hK hM (j := 4) (k := i + k) (by decide) (md_lt2 (by decide) (by decide) (by omega)) d_Mod_times_90 ?_
      refine nv_top (y := nI (wd 4 (i + k))) (by rw [ho _ (Nat.le_refl _)]) ?_
      refine nv_i2l hC (by omega) d_Mod_times_91 ?_
      refine nv_ladd hC d_Mod_times_92 ?_
      refine lv_lload hC.1 hC.2.1 d_Mod_times_93 (lv_at hl 3 rfl) ?_
      refine nv_ladd hC d_Mod_times_95 ?_
      refine lv_lstore (lv' := [(8, .long (lN ((((wd 2 i) * (wd 3 k)) + (wd 4 (i + k))) + cy))), (0, .ref (ad 5)), (1, .int (nI (d))), (4, .int (nI (i))), (5, .long (lN (cy))), (7, .int (nI (k)))]) hC.1 hC.2.1 d_Mod_times_96 hl (by decide) rfl (fun ls hl => ?_)
      refine lv_aload_n hC.1 hC.2.1 d_Mod_times_98 rfl (lv_at hl 1 rfl) ?_
      refine md_f4 hC hK hM kf_Mod_23 d_Mod_times_99 ?_
      refine lv_iload hC.1 hC.2.1 d_Mod_times_102 (lv_at hl 3 rfl) ?_
      refine lv_iload hC.1 hC.2.1 d_Mod_times_104 (lv_at hl 5 rfl) ?_
      refine nv_iadd hC d_Mod_times_106 ?_
      refine lv_lload hC.1 hC.2.1 d_Mod_times_107 (lv_at hl 0 rfl) ?_
      refine lv_ldc2 (v := lN 65535) hC.1 hC.2.1 hC.2.2.2.1 (hC.2.2.2.2 _ kl_Mod_52) d_Mod_times_109 ?_
      refine nv_land16 hC (by omega) d_Mod_times_112 ?_
      refine nv_l2i hC d_Mod_times_113 ?_
      refine md_ast hC hK hM (j := 4) (k := i + k) (v := ((((wd 2 i) * (wd 3 k)) + (wd 4 (i + k))) + cy) % 65536) (by decide) (md_lt2 (by decide) (by decide) (by omega)) d_Mod_times_114 (fun H locs hM => ?_)
      refine lv_lload hC.1 hC.2.1 d_Mod_times_115 (lv_at hl 0 rfl) ?_
      refine lv_bipush (v := nI 16) hC.1 hC.2.1 d_Mod_times_117 (by decide) ?_
      refine nv_lshrp (q := 65536) hC (by decide) (by omega) (by decide) d_Mod_times_119 ?_
      refine lv_lstore (lv' := [(5, .long (lN (((((wd 2 i) * (wd 3 k)) + (wd 4 (i + k))) + cy) / 65536))), (8, .long (lN ((((wd 2 i) * (wd 3 k)) + (wd 4 (i + k))) + cy))), (0, .ref (ad 5)), (1, .int (nI (d))), (4, .int (nI (i))), (7, .int (nI (k)))]) hC.1 hC.2.1 d_Mod_times_120 hl (by decide) rfl (fun ls hl => ?_)
      refine lv_iinc (v := nI (k + 1)) (lv' := [(7, .int (nI (k + 1))), (5, .long (lN (((((wd 2 i) * (wd 3 k)) + (wd 4 (i + k))) + cy) / 65536))), (8, .long (lN ((((wd 2 i) * (wd 3 k)) + (wd 4 (i + k))) + cy))), (0, .ref (ad 5)), (1, .int (nI (d))), (4, .int (nI (i)))]) hC.1 hC.2.1 d_Mod_times_122 hl (k := 5) rfl (nv_inc _) (by decide) rfl (fun ls hl => ?_)
      refine lv_goto (tgt := 55) hC.1 hC.2.1 d_Mod_times_125 (by decide) ?_
      exact ih (k + 1) ((wd 2 i * wd 3 k + wd 4 (i + k) + cy) / 65536) (va_up w 4 (va_up (w 4) (i + k) ((wd 2 i * wd 3 k + wd 4 (i + k) + cy) % 65536))) (by omega) (by omega) (fun j hj => by rw [va_up_ne _ _ hj]; exact hw j hj) (by rw [va_up_self]; exact mv_mulstep hS rfl) (by rw [va_up_self]; exact mv_upd_d hd (Nat.mod_lt _ (by decide))) (fun q hq => by rw [va_up_self, va_up_ne _ _ (by omega)]; exact ho q (by omega)) (by omega) H locs ls hM (lv_sub hl [3, 4, 5, 1, 0] rfl)
set_option maxHeartbeats 4000000 in
set_option maxRecDepth 100000 in
theorem lp_Mod_times_a {p : Program} {l : Launch} {e : Env} {R : Room} {s : State} {m : MethodId} {args : Array Value} {below : List Frame} {meth : Method} {c : Code} {Q : State → Prop} {D : va_G} {ad : Nat → Nat} {cA : ClassId} (hC : CallFix p m c b_Mod_times 10 s args lw_T R_Mod) (hK : va_K D classes (md_ty cA) s) (ln : Nat → Nat) (wd : Nat → Nat → Nat) (d n0 m0 A B : Nat) (e0 : ln 0 = n0) (e1 : ln 1 = m0) (fx : mr_r 8200 (wd 2) n0 A) (fy : mr_r 8200 (wd 3) m0 B) (hn : n0 ≤ 4096) (hm : m0 ≤ 4096)
    (hex : ∀ (w : Nat → Nat → Nat), (∀ j, j ≠ 4 → w j = wd j) → (mv_v (w 4) (n0 + m0) = mv_v (wd 2) n0 * B) → (∀ q, n0 + m0 ≤ q → q < 8200 → w 4 q = 0) → (∀ q, q < 8200 → w 4 q < 65536) → ∀ (H : Heap) (locs : List Loc) (ls : Array Slot), md_M D ad cA s (ln) (w) H locs → lv_has ls 10 [(0, .ref (ad 5)), (1, .int (nI (d)))] → W p l e R s m args below meth c H locs 0 0 Q (F0 m 134 ls [])) :
    ∀ (n : Nat) (i : Nat) (w : Nat → Nat → Nat), (i ≤ n0) → (∀ j, j ≠ 4 → w j = wd j) → (mv_v (w 4) (i + m0) = mv_v (wd 2) i * B) → (∀ q, i + m0 ≤ q → q < 8200 → w 4 q = 0) → (∀ q, q < 8200 → w 4 q < 65536) → n0 + 1 ≤ i + n → ∀ (H : Heap) (locs : List Loc) (ls : Array Slot), md_M D ad cA s (ln) (w) H locs → lv_has ls 10 [(0, .ref (ad 5)), (1, .int (nI (d))), (4, .int (nI (i)))] → W p l e R s m args below meth c H locs 0 0 Q (F0 m 40 ls []) := by
  intro n
  induction n with
  | zero =>
    intro i w hi hw hV hz hd hn
    exact absurd hn (by omega)
  | succ n ih =>
    intro i w hi hw hV hz hd hn H locs ls hM hl
    refine lv_iload hC.1 hC.2.1 d_Mod_times_40 (lv_at hl 2 rfl) ?_
    refine lv_aload_n hC.1 hC.2.1 d_Mod_times_42 rfl (lv_at hl 0 rfl) ?_
    refine md_n0 hC hK hM kf_Mod_26 d_Mod_times_43 ?_
    refine nv_top (y := nI (n0)) (by rw [e0]) ?_
    refine nv_icmp_ge (tgt := 134) hC (by omega) (by omega) d_Mod_times_46 (by decide) (fun hi2 => ?_) (fun hi2 => ?_)
    · obtain rfl : i = n0 := by omega
      exact hex w hw hV hz hd H locs ls hM (lv_sub hl [0, 1] rfl)
    · refine lv_lconst (v := lN 0) hC.1 hC.2.1 d_Mod_times_49 (by decide) ?_
      refine lv_lstore (lv' := [(5, .long (lN (0))), (0, .ref (ad 5)), (1, .int (nI (d))), (4, .int (nI (i)))]) hC.1 hC.2.1 d_Mod_times_50 hl (by decide) rfl (fun ls hl => ?_)
      refine lv_iconst (v := nI 0) hC.1 hC.2.1 d_Mod_times_52 (by decide) ?_
      refine lv_istore (lv' := [(7, .int (nI (0))), (5, .long (lN (0))), (0, .ref (ad 5)), (1, .int (nI (d))), (4, .int (nI (i)))]) hC.1 hC.2.1 d_Mod_times_53 hl (by decide) rfl (fun ls hl => ?_)
      refine lp_Mod_times_b hC hK ln w d i m0 e1 hm (by omega) (by rw [hw 2 (by decide)]; exact fx.2.1) (by rw [hw 3 (by decide)]; exact fy.2.1) hd (fun cy w1 hq1 hS hq3 hq4 H locs ls hM hl => ?_) (m0 + 2) 0 0 w (Nat.zero_le _) (by decide) (fun _ _ => rfl) (by rw [mv_0, Nat.mul_zero, Nat.zero_mul]) hd (fun _ _ => rfl) (by omega) _ _ _ hM (lv_sub hl [2, 3, 4, 1, 0] rfl)
      have hZ : mv_v (w 4) (i + (m0 + 1)) + w 2 i * 65536 ^ i * mv_v (w 3) (m0 + 1) = mv_v (wd 2) (i + 1) * B := by
        rw [hw 2 (by decide), hw 3 (by decide), mr_v fy (by omega) (by omega), show i + (m0 + 1) = i + m0 + 1 by omega, mv_s, hz _ (Nat.le_refl _) (by omega), Nat.zero_mul, Nat.add_zero, hV, mv_s, Nat.add_mul]
      have hV1 := mv_mulend hS hZ (mv_lt (fun q hq => fx.2.1 q (by omega))) (mr_lt fy)
      refine lv_iinc (v := nI (i + 1)) (lv' := [(4, .int (nI (i + 1))), (0, .ref (ad 5)), (1, .int (nI (d)))]) hC.1 hC.2.1 d_Mod_times_128 hl (k := 2) rfl (nv_inc _) (by decide) rfl (fun ls hl => ?_)
      refine lv_goto (tgt := 40) hC.1 hC.2.1 d_Mod_times_131 (by decide) ?_
      exact ih (i + 1) w1 (by omega) (fun j hj => by rw [hq1 j hj]; exact hw j hj) (by rw [show i + 1 + m0 = i + (m0 + 1) by omega, hV1, hZ]) (fun q h1 h2 => by rw [hq4 q (by omega)]; exact hz q (by omega) h2) hq3 (by omega) H locs ls hM (lv_sub hl [1, 2, 0] rfl)
set_option maxHeartbeats 4000000 in
set_option maxRecDepth 100000 in
theorem c_Mod_times (l : Launch) (D : va_G) (ad : Nat → Nat) (cA : ClassId) (sz : Nat) (ln : Nat → Nat) (wd : Nat → Nat → Nat) (N : Nat → Nat) (hR : md_R N wd) (x y z : Int32) : Met l y_Mod_times (Cond.code y_Mod_times b_Mod_times 10 (some .boolean) :: lw_T) ({ frames := 2, cells := 0, slots := 0, locals := 47 }) (va_Pc [.ref (ad 5), .int (x), .int (y), .int (z)] (md_B D ad cA sz ln wd)) (va_Qi (fun (r : Int32) (u : md_St) => r = (sp_times N x y z).1 ∧ md_R (sp_times N x y z).2 u.2) (md_E D ad cA sz) (md_A ad sz)) 0 0 (md_A ad sz) := by
  refine md_met l (by decide) (Nat.le_of_ble_eq_true rfl) ?_
  intro p e s m below meth c ls hsz hC hK hr hlk hM hl
  subst hsz
  have hC : CallFix p m c b_Mod_times 10 s _ lw_T R_Mod := hC
  have hl : lv_has ls 10 [(0, .ref (ad 5)), (1, .int (x)), (2, .int (y)), (3, .int (z))] := hl
  have hR0 := hR
  refine lv_iload_n hC.1 hC.2.1 d_Mod_times_0 rfl (lv_at hl 1 rfl) ?_
  refine md_callPi hC hK hM (As := [.int (x)]) (rest := []) (c_Mod_isRegister l _ x) kc_Mod_isRegister km_Mod_41 ki_Mod ks_Mod_isRegister kd_Mod_isRegister ⟨rfl, rfl⟩ ⟨Nat.le_of_ble_eq_true rfl, Nat.le_of_ble_eq_true rfl⟩ rfl hl.1 (Nat.le_of_ble_eq_true rfl) d_Mod_times_1 (fun r H locs hp hM => ?_)
  rcases hp with ⟨d, hd, rfl, rfl⟩ | ⟨hno, rfl⟩
  · refine nv_if_eq (tgt := 21) hC (by omega) d_Mod_times_4 (by decide) (fun hz => ?_) (fun hz => ?_)
    · exact absurd hz (by decide)
    · refine lv_iload_n hC.1 hC.2.1 d_Mod_times_7 rfl (lv_at hl 2 rfl) ?_
      refine md_callPi hC hK hM (As := [.int (y)]) (rest := []) (c_Mod_isRegister l _ y) kc_Mod_isRegister km_Mod_41 ki_Mod ks_Mod_isRegister kd_Mod_isRegister ⟨rfl, rfl⟩ ⟨Nat.le_of_ble_eq_true rfl, Nat.le_of_ble_eq_true rfl⟩ rfl hl.1 (Nat.le_of_ble_eq_true rfl) d_Mod_times_8 (fun r H locs hp hM => ?_)
      rcases hp with ⟨a, ha, rfl, rfl⟩ | ⟨hno, rfl⟩
      · refine nv_if_eq (tgt := 21) hC (by omega) d_Mod_times_11 (by decide) (fun hz => ?_) (fun hz => ?_)
        · exact absurd hz (by decide)
        · refine lv_iload_n hC.1 hC.2.1 d_Mod_times_14 rfl (lv_at hl 3 rfl) ?_
          refine md_callPi hC hK hM (As := [.int (z)]) (rest := []) (c_Mod_isRegister l _ z) kc_Mod_isRegister km_Mod_41 ki_Mod ks_Mod_isRegister kd_Mod_isRegister ⟨rfl, rfl⟩ ⟨Nat.le_of_ble_eq_true rfl, Nat.le_of_ble_eq_true rfl⟩ rfl hl.1 (Nat.le_of_ble_eq_true rfl) d_Mod_times_15 (fun r H locs hp hM => ?_)
          rcases hp with ⟨b, hb, rfl, rfl⟩ | ⟨hno, rfl⟩
          · refine nv_if_ne (tgt := 23) hC (by omega) d_Mod_times_18 (by decide) (fun hz => ?_) (fun hz => ?_)
            · refine lv_aload_n hC.1 hC.2.1 d_Mod_times_23 rfl (lv_at hl 0 rfl) ?_
              refine lv_iload_n hC.1 hC.2.1 d_Mod_times_24 rfl (lv_at hl 2 rfl) ?_
              refine md_callVv hC hK hM (As := [.int (nI (a))]) (rest := []) md_at_m rfl (c_Mod_loadX l D ad cA _ ln wd a _ ha (hR0 a ha)) kc_Mod_loadX km_Mod_45 ki_Mod kn_Mod_loadX ke_Mod_loadX kd_Mod_loadX ⟨rfl, rfl⟩ ⟨Nat.le_of_ble_eq_true rfl, Nat.le_of_ble_eq_true rfl⟩ rfl hl.1 (Nat.le_of_ble_eq_true rfl) d_Mod_times_25 (fun u1 H locs hp1 hM => ?_)
              obtain ⟨fx, hw1, hl1⟩ := hp1
              have hR1 := md_R_of hR0 (hw1 0 (by decide)) (hw1 1 (by decide))
              have ex : u1.1 0 = wd 1 a := by rw [hl1, va_up_self]
              have exb := (hR0 a ha).1
              refine lv_aload_n hC.1 hC.2.1 d_Mod_times_28 rfl (lv_at hl 0 rfl) ?_
              refine lv_iload_n hC.1 hC.2.1 d_Mod_times_29 rfl (lv_at hl 3 rfl) ?_
              refine md_callVv hC hK hM (As := [.int (nI (b))]) (rest := []) md_at_m rfl (c_Mod_loadY l D ad cA _ (u1.1) (u1.2) b _ hb (hR1 b hb)) kc_Mod_loadY km_Mod_58 ki_Mod kn_Mod_loadY ke_Mod_loadY kd_Mod_loadY ⟨rfl, rfl⟩ ⟨Nat.le_of_ble_eq_true rfl, Nat.le_of_ble_eq_true rfl⟩ rfl hl.1 (Nat.le_of_ble_eq_true rfl) d_Mod_times_30 (fun u2 H locs hp2 hM => ?_)
              obtain ⟨fy, hw2, hl2⟩ := hp2
              rw [← hw2 2 (by decide)] at fx
              have ex : u2.1 0 = wd 1 a := by rw [hl2, va_up_ne _ _ (by decide)]; exact ex
              have hR2 := md_R_of hR1 (hw2 0 (by decide)) (hw2 1 (by decide))
              have ey : u2.1 1 = (u1.2) 1 b := by rw [hl2, va_up_self]
              have eyb := (hR1 b hb).1
              refine lv_aload_n hC.1 hC.2.1 d_Mod_times_33 rfl (lv_at hl 0 rfl) ?_
              refine md_callVv hC hK hM (As := []) (rest := []) md_at_m rfl (c_Mod_clearZ l D ad cA _ (u2.1) (u2.2) ) kc_Mod_clearZ km_Mod_49 ki_Mod kn_Mod_clearZ ke_Mod_clearZ kd_Mod_clearZ ⟨rfl, rfl⟩ ⟨Nat.le_of_ble_eq_true rfl, Nat.le_of_ble_eq_true rfl⟩ rfl hl.1 (Nat.le_of_ble_eq_true rfl) d_Mod_times_34 (fun u3 H locs hp3 hM => ?_)
              obtain ⟨fz, hw3, hl3⟩ := hp3
              rw [← hw3 2 (by decide)] at fx
              rw [← hw3 3 (by decide)] at fy
              have ex : u3.1 0 = wd 1 a := by rw [hl3, va_up_ne _ _ (by decide)]; exact ex
              have ey : u3.1 1 = (u1.2) 1 b := by rw [hl3, va_up_ne _ _ (by decide)]; exact ey
              have hR3 := md_R_of hR2 (hw3 0 (by decide)) (hw3 1 (by decide))
              have ez : u3.1 2 = 0 := by rw [hl3, va_up_self]
              refine lv_iconst (v := nI 0) hC.1 hC.2.1 d_Mod_times_37 (by decide) ?_
              refine lv_istore (lv' := [(4, .int (nI (0))), (0, .ref (ad 5)), (1, .int (nI (d))), (2, .int (nI (a))), (3, .int (nI (b)))]) hC.1 hC.2.1 d_Mod_times_38 hl (by decide) rfl (fun ls hl => ?_)
              refine lp_Mod_times_a hC hK u3.1 u3.2 d _ _ _ _ ex ey fx fy exb eyb (fun w1 hq1 hV hz hq3 H locs ls hM hl => ?_) (wd 1 a + 1) 0 u3.2 (Nat.zero_le _) (fun _ _ => rfl) (by rw [mv_0, Nat.zero_mul, mv_z (Nat.zero_le _) (fun q h1 h2 => fz q (by omega)), mv_0]) (fun q h1 h2 => fz q h2) (fun q hq => by rw [fz q hq]; decide) (by omega) _ _ _ hM (lv_sub hl [1, 2, 0] rfl)
              rw [fx.2.2.2.2] at hV
              have hV2 : mv_v (w1 4) (wd 1 a + u1.2 1 b + 1) = N a * N b := by rw [mv_s, hz _ (Nat.le_refl _) (by omega), Nat.zero_mul, Nat.add_zero, hV]
              have hR4 := md_R_of hR3 (hq1 0 (by decide)) (hq1 1 (by decide))
              refine lv_aload_n hC.1 hC.2.1 d_Mod_times_134 rfl (lv_at hl 0 rfl) ?_
              refine lv_iload_n hC.1 hC.2.1 d_Mod_times_135 rfl (lv_at hl 1 rfl) ?_
              refine lv_aload_n hC.1 hC.2.1 d_Mod_times_136 rfl (lv_at hl 0 rfl) ?_
              refine md_f4 hC hK hM kf_Mod_23 d_Mod_times_137 ?_
              refine lv_aload_n hC.1 hC.2.1 d_Mod_times_140 rfl (lv_at hl 0 rfl) ?_
              refine md_n0 hC hK hM kf_Mod_26 d_Mod_times_141 ?_
              refine nv_top (y := nI (wd 1 a)) (by rw [ex]) ?_
              refine lv_aload_n hC.1 hC.2.1 d_Mod_times_144 rfl (lv_at hl 0 rfl) ?_
              refine md_n1 hC hK hM kf_Mod_30 d_Mod_times_145 ?_
              refine nv_top (y := nI ((u1.2) 1 b)) (by rw [ey]) ?_
              refine nv_iadd hC d_Mod_times_148 ?_
              refine lv_iconst (v := nI 1) hC.1 hC.2.1 d_Mod_times_149 (by decide) ?_
              refine nv_iadd hC d_Mod_times_150 ?_
              refine md_callVi hC hK hM (As := [.int (nI (d)), .ref (ad 4), .int (nI (((wd 1 a) + ((u1.2) 1 b)) + 1))]) (rest := []) md_at_m rfl (c_Mod_put l D ad cA _ (u3.1) w1 N d 4 _ (N a * N b) hR4 hd (by decide) (by omega) hq3 hV2) kc_Mod_put km_Mod_54 ki_Mod kn_Mod_put ke_Mod_put kd_Mod_put ⟨rfl, rfl⟩ ⟨Nat.le_of_ble_eq_true rfl, Nat.le_of_ble_eq_true rfl⟩ rfl hl.1 (Nat.le_of_ble_eq_true rfl) d_Mod_times_151 (fun rk uk H locs hpk hM => ?_)
              exact md_zret hC hK hM hr hlk (md_kn hpk.1) (by simp only [sp_times, sp_3, sp_ix_ok hd, sp_ix_ok ha, sp_ix_ok hb]; exact ⟨hpk.1, hpk.2.1⟩) d_Mod_times_154
            · exact absurd hz (by decide)
          · refine nv_if_ne (tgt := 23) hC (by omega) d_Mod_times_18 (by decide) (fun hz => ?_) (fun hz => ?_)
            · exact absurd rfl hz
            · refine lv_iconst (v := nI 0) hC.1 hC.2.1 d_Mod_times_21 (by decide) ?_
              exact md_zret hC hK hM hr hlk rfl ⟨by simp only [sp_times, sp_3, sp_no, sp_ix_ok hd, sp_ix_ok ha, sp_ix_no hno], by simp only [sp_times, sp_3, sp_no, sp_ix_ok hd, sp_ix_ok ha, sp_ix_no hno]; exact hR⟩ d_Mod_times_22
      · refine nv_if_eq (tgt := 21) hC (by omega) d_Mod_times_11 (by decide) (fun hz => ?_) (fun hz => ?_)
        · refine lv_iconst (v := nI 0) hC.1 hC.2.1 d_Mod_times_21 (by decide) ?_
          exact md_zret hC hK hM hr hlk rfl ⟨by simp only [sp_times, sp_3, sp_no, sp_ix_ok hd, sp_ix_no hno], by simp only [sp_times, sp_3, sp_no, sp_ix_ok hd, sp_ix_no hno]; exact hR⟩ d_Mod_times_22
        · exact absurd rfl hz
  · refine nv_if_eq (tgt := 21) hC (by omega) d_Mod_times_4 (by decide) (fun hz => ?_) (fun hz => ?_)
    · refine lv_iconst (v := nI 0) hC.1 hC.2.1 d_Mod_times_21 (by decide) ?_
      exact md_zret hC hK hM hr hlk rfl ⟨by simp only [sp_times, sp_3, sp_no, sp_ix_no hno], by simp only [sp_times, sp_3, sp_no, sp_ix_no hno]; exact hR⟩ d_Mod_times_22
    · exact absurd rfl hz
