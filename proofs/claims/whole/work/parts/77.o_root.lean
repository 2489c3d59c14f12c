set_option maxHeartbeats 4000000 in
set_option maxRecDepth 100000 in
theorem lp_Mod_root_a {p : Program} {l : Launch} {e : Env} {R : Room} {s : State} {m : MethodId} {args : Array Value} {below : List Frame} {meth : Method} {c : Code} {Q : State → Prop} {D : va_G} {ad : Nat → Nat} {cA : ClassId} (hC : CallFix p m c b_Mod_root 6 s args lw_T R_Mod) (hK : va_K D classes (md_ty cA) s) (ln : Nat → Nat) (wd : Nat → Nat → Nat) (s0 r0 : Nat)
    (hex : ∀ (w : Nat → Nat → Nat), (∀ j, j ≠ 3 → w j = wd j) → (∀ q, q < 8200 → w 3 q = (fun _ => 0) q) → ∀ (H : Heap) (locs : List Loc) (ls : Array Slot), md_M D ad cA s (ln) (w) H locs → lv_has ls 6 [(0, .ref (ad 5)), (1, .int (nI (s0))), (2, .int (nI (r0)))] → W p l e R s m args below meth c H locs 0 0 Q (F0 m 62 ls [])) :
    ∀ (n : Nat) (k : Nat) (w : Nat → Nat → Nat), (k ≤ 8200) → (∀ j, j ≠ 3 → w j = wd j) → (∀ q, q < k → w 3 q = (fun _ => 0) q) → 8200 + 1 ≤ k + n → ∀ (H : Heap) (locs : List Loc) (ls : Array Slot), md_M D ad cA s (ln) (w) H locs → lv_has ls 6 [(0, .ref (ad 5)), (1, .int (nI (s0))), (2, .int (nI (r0))), (4, .int (nI (k)))] → W p l e R s m args below meth c H locs 0 0 Q (F0 m 40 ls []) := by
  intro n
  induction n with
  | zero =>
    intro k w hk hw hf hn
    exact absurd hn (by omega)
  | succ n ih =>
    intro k w hk hw hf hn H locs ls hM hl
    refine lv_iload hC.1 hC.2.1 d_Mod_root_40 (lv_at hl 3 rfl) ?_
    refine lv_sipush (v := nI 8200) hC.1 hC.2.1 d_Mod_root_42 (by decide) ?_
    refine nv_icmp_ge (tgt := 62) hC (by omega) (by omega) d_Mod_root_45 (by decide) (fun hc => ?_) (fun hc => ?_)
    · obtain rfl : k = 8200 := by omega
      exact hex w hw hf H locs ls hM (lv_sub hl [0, 1, 2] rfl)
    · refine lv_aload_n hC.1 hC.2.1 d_Mod_root_48 rfl (lv_at hl 0 rfl) ?_
      refine md_f3 hC hK hM kf_Mod_20 d_Mod_root_49 ?_
      refine lv_iload hC.1 hC.2.1 d_Mod_root_52 (lv_at hl 3 rfl) ?_
      refine lv_iconst (v := nI 0) hC.1 hC.2.1 d_Mod_root_54 (by decide) ?_
      refine md_ast hC hK hM (j := 3) (k := k) (v := 0) (by decide) (md_lt2 (by decide) (by decide) (by omega)) d_Mod_root_55 (fun H locs hM => ?_)
      refine lv_iinc (v := nI (k + 1)) (lv' := [(4, .int (nI (k + 1))), (0, .ref (ad 5)), (1, .int (nI (s0))), (2, .int (nI (r0)))]) hC.1 hC.2.1 d_Mod_root_56 hl (k := 3) rfl (nv_inc _) (by decide) rfl (fun ls hl => ?_)
      refine lv_goto (tgt := 40) hC.1 hC.2.1 d_Mod_root_59 (by decide) ?_
      exact ih (k + 1) (va_up w 3 (va_up (w 3) k 0)) (by omega) (fun j hj => by rw [va_up_ne _ _ hj]; exact hw j hj) (by rw [va_up_self]; exact md_fill hf rfl) (by omega) H locs ls hM (lv_sub hl [1, 2, 3, 0] rfl)
set_option maxHeartbeats 4000000 in
set_option maxRecDepth 100000 in
theorem lp_Mod_root_b {p : Program} {l : Launch} {e : Env} {s : State} {m : MethodId} {args : Array Value} {below : List Frame} {meth : Method} {c : Code} {Q : State → Prop} {D : va_G} {ad : Nat → Nat} {cA : ClassId} (hC : CallFix p m c b_Mod_root 6 s args lw_T R_Mod) (hK : va_K D classes (md_ty cA) s) (N : Nat → Nat) (s0 r0 n1 A : Nat) (hn1 : n1 ≤ 4096) (hAL : A < 65536 ^ 4096)
    (hex : ∀ (lnv : Nat → Nat) (w : Nat → Nat → Nat) (Sv Rv ty tz : Nat), (md_R N w) → (mr_r 8200 (w 3) ty Sv) → (mr_r 8200 (w 4) tz Rv) → (lnv 1 = ty) → (lnv 2 = tz) → (A / 2 ^ (2 * 0) = Sv * Sv + Rv) → (Rv ≤ 2 * Sv) → ∀ (H : Heap) (locs : List Loc) (ls : Array Slot), md_M D ad cA s (lnv) (w) H locs → lv_has ls 6 [(0, .ref (ad 5)), (1, .int (nI (s0))), (2, .int (nI (r0)))] → W p l e ({ frames := 2, cells := 0, slots := 0, locals := 48 }) s m args below meth c H locs 0 0 Q (F0 m 279 ls [])) :
    ∀ (n : Nat) (x : Nat) (lnv : Nat → Nat) (w : Nat → Nat → Nat) (Sv : Nat) (Rv : Nat) (ty : Nat) (tz : Nat), (x ≤ 8 * n1) → (md_R N w) → (mr_r 8200 (w 2) n1 A) → (mr_r 8200 (w 3) ty Sv) → (mr_r 8200 (w 4) tz Rv) → (lnv 1 = ty) → (lnv 2 = tz) → (A / 2 ^ (2 * x) = Sv * Sv + Rv) → (Rv ≤ 2 * Sv) → x + 1 ≤ n → ∀ (H : Heap) (locs : List Loc) (ls : Array Slot), md_M D ad cA s (lnv) (w) H locs → lv_has ls 6 [(0, .ref (ad 5)), (1, .int (nI (s0))), (2, .int (nI (r0))), (4, .int (nI (x) + (-1)))] → W p l e ({ frames := 2, cells := 0, slots := 0, locals := 48 }) s m args below meth c H locs 0 0 Q (F0 m 78 ls []) := by
  intro n
  induction n with
  | zero =>
    intro x lnv w Sv Rv ty tz hx hR fx fy fz ey ez hA hRS hn
    exact absurd hn (by omega)
  | succ n ih =>
    intro x lnv w Sv Rv ty tz hx hR fx fy fz ey ez hA hRS hn H locs ls hM hl
    have hR0 := hR
    obtain ⟨hSA, hRA⟩ := md_sqle hA
    have hty : ty ≤ 4096 := mr_le fy (Nat.lt_of_le_of_lt hSA hAL)
    have htz : tz ≤ 4096 := mr_le fz (Nat.lt_of_le_of_lt hRA hAL)
    clear hSA hRA
    refine lv_iload hC.1 hC.2.1 d_Mod_root_78 (lv_at hl 3 rfl) ?_
    refine nv_down_lt (tgt := 279) hC (by omega) d_Mod_root_80 (by decide) (fun hz => ?_) (fun y hy => ?_)
    · subst hz
      exact hex lnv w Sv Rv ty tz hR fy fz ey ez hA hRS H locs ls hM (lv_sub hl [0, 1, 2] rfl)
    · subst hy
      have hl : lv_has ls 6 [(0, .ref (ad 5)), (1, .int (nI (s0))), (2, .int (nI (r0))), (4, .int (nI (y)))] := by rw [pk_m1] at hl; exact hl
      obtain ⟨b1, hb1⟩ : ∃ z, z = A / 2 ^ (2 * y + 1) % 2 := ⟨_, rfl⟩
      obtain ⟨b0, hb0⟩ : ∃ z, z = A / 2 ^ (2 * y) % 2 := ⟨_, rfl⟩
      have hb12 : b1 < 2 := by rw [hb1]; exact Nat.mod_lt _ (by decide)
      have hb02 : b0 < 2 := by rw [hb0]; exact Nat.mod_lt _ (by decide)
      have hbit1 : w 2 ((2 * y + 1) / 16) / 2 ^ ((2 * y + 1) % 16) % 2 = b1 := by rw [hb1, ← mv_bit (n := 8200) fx.2.1 (by omega), mr_v fx fx.1 (Nat.le_refl _)]
      have hbit0 : w 2 ((2 * y) / 16) / 2 ^ ((2 * y) % 16) % 2 = b0 := by rw [hb0, ← mv_bit (n := 8200) fx.2.1 (by omega), mr_v fx fx.1 (Nat.le_refl _)]
      refine lv_aload_n hC.1 hC.2.1 d_Mod_root_83 rfl (lv_at hl 0 rfl) ?_
      refine lv_aload_n hC.1 hC.2.1 d_Mod_root_84 rfl (lv_at hl 0 rfl) ?_
      refine md_f4 hC hK hM kf_Mod_23 d_Mod_root_85 ?_
      refine lv_aload_n hC.1 hC.2.1 d_Mod_root_88 rfl (lv_at hl 0 rfl) ?_
      refine md_n2 hC hK hM kf_Mod_33 d_Mod_root_89 ?_
      refine nv_top (y := nI (tz)) (by rw [ez]) ?_
      refine lv_aload_n hC.1 hC.2.1 d_Mod_root_92 rfl (lv_at hl 0 rfl) ?_
      refine md_f2 hC hK hM kf_Mod_17 d_Mod_root_93 ?_
      refine lv_iconst (v := nI 2) hC.1 hC.2.1 d_Mod_root_96 (by decide) ?_
      refine lv_iload hC.1 hC.2.1 d_Mod_root_97 (lv_at hl 3 rfl) ?_
      refine nv_imul hC d_Mod_root_99 ?_
      refine lv_iconst (v := nI 1) hC.1 hC.2.1 d_Mod_root_100 (by decide) ?_
      refine nv_iadd hC d_Mod_root_101 ?_
      refine md_callSi hC hK hM (As := [.ref (ad 2), .int (nI ((2 * y) + 1))]) (rest := [.int (nI (tz)), .ref (ad 4), .ref (ad 5)]) (c_Mod_bitOf l D ad cA _ lnv w 2 (2 * y + 1) (by decide) (by omega) fx.2.1) kc_Mod_bitOf km_Mod_68 ki_Mod ks_Mod_bitOf kd_Mod_bitOf ⟨rfl, rfl⟩ ⟨Nat.le_of_ble_eq_true rfl, Nat.le_of_ble_eq_true rfl⟩ rfl hl.1 (Nat.le_of_ble_eq_true rfl) d_Mod_root_102 (fun r u H locs hp hM => ?_)
      obtain ⟨rfl, rfl⟩ := hp
      have hM : md_M D ad cA s (lnv) (w) H locs := by
        exact hM
      refine nv_top (y := nI (b1)) (congrArg nI hbit1) ?_
      refine md_callSi hC hK hM (As := [.ref (ad 4), .int (nI (tz)), .int (nI (b1))]) (rest := [.ref (ad 5)]) (c_Mod_twice l D ad cA _ lnv w 4 tz b1 Rv (by decide) (by omega) hb12 fz) kc_Mod_twice km_Mod_71 ki_Mod ks_Mod_twice kd_Mod_twice ⟨rfl, rfl⟩ ⟨Nat.le_of_ble_eq_true rfl, Nat.le_of_ble_eq_true rfl⟩ rfl hl.1 (Nat.le_of_ble_eq_true rfl) d_Mod_root_105 (fun r u1 H locs hp1 hM => ?_)
      obtain ⟨t1, rfl, ht1, fz1, hw1, hl1⟩ := hp1
      rw [← hw1 2 (by decide)] at fx
      rw [← hw1 3 (by decide)] at fy
      have ey : u1.1 1 = ty := by rw [hl1]; exact ey
      have hR1 := md_R_of hR0 (hw1 0 (by decide)) (hw1 1 (by decide))
      refine md_p2 hC hK hM kf_Mod_33 d_Mod_root_108 (fun H locs hM => ?_)
      refine lv_aload_n hC.1 hC.2.1 d_Mod_root_111 rfl (lv_at hl 0 rfl) ?_
      refine lv_aload_n hC.1 hC.2.1 d_Mod_root_112 rfl (lv_at hl 0 rfl) ?_
      refine md_f4 hC hK hM kf_Mod_23 d_Mod_root_113 ?_
      refine lv_aload_n hC.1 hC.2.1 d_Mod_root_116 rfl (lv_at hl 0 rfl) ?_
      refine md_n2 hC hK hM kf_Mod_33 d_Mod_root_117 ?_
      refine nv_top (y := nI (t1)) (by rw [va_up_self]) ?_
      refine lv_aload_n hC.1 hC.2.1 d_Mod_root_120 rfl (lv_at hl 0 rfl) ?_
      refine md_f2 hC hK hM kf_Mod_17 d_Mod_root_121 ?_
      refine lv_iconst (v := nI 2) hC.1 hC.2.1 d_Mod_root_124 (by decide) ?_
      refine lv_iload hC.1 hC.2.1 d_Mod_root_125 (lv_at hl 3 rfl) ?_
      refine nv_imul hC d_Mod_root_127 ?_
      refine md_callSi hC hK hM (As := [.ref (ad 2), .int (nI (2 * y))]) (rest := [.int (nI (t1)), .ref (ad 4), .ref (ad 5)]) (c_Mod_bitOf l D ad cA _ (va_up (u1.1) 2 t1) (u1.2) 2 (2 * y) (by decide) (by omega) fx.2.1) kc_Mod_bitOf km_Mod_68 ki_Mod ks_Mod_bitOf kd_Mod_bitOf ⟨rfl, rfl⟩ ⟨Nat.le_of_ble_eq_true rfl, Nat.le_of_ble_eq_true rfl⟩ rfl hl.1 (Nat.le_of_ble_eq_true rfl) d_Mod_root_128 (fun r u H locs hp hM => ?_)
      obtain ⟨rfl, rfl⟩ := hp
      have hM : md_M D ad cA s (va_up (u1.1) 2 t1) (u1.2) H locs := by
        exact hM
      refine nv_top (y := nI (b0)) (congrArg nI (by rw [hw1 2 (by decide)]; exact hbit0)) ?_
      refine md_callSi hC hK hM (As := [.ref (ad 4), .int (nI (t1)), .int (nI (b0))]) (rest := [.ref (ad 5)]) (c_Mod_twice l D ad cA _ (va_up (u1.1) 2 t1) (u1.2) 4 t1 b0 (2 * Rv + b1) (by decide) (by omega) hb02 fz1) kc_Mod_twice km_Mod_71 ki_Mod ks_Mod_twice kd_Mod_twice ⟨rfl, rfl⟩ ⟨Nat.le_of_ble_eq_true rfl, Nat.le_of_ble_eq_true rfl⟩ rfl hl.1 (Nat.le_of_ble_eq_true rfl) d_Mod_root_131 (fun r u2 H locs hp2 hM => ?_)
      obtain ⟨t2, rfl, ht2, fz2, hw2, hl2⟩ := hp2
      rw [← hw2 2 (by decide)] at fx
      rw [← hw2 3 (by decide)] at fy
      have ey : u2.1 1 = ty := by rw [hl2, va_up_ne _ _ (by decide)]; exact ey
      have hR2 := md_R_of hR1 (hw2 0 (by decide)) (hw2 1 (by decide))
      refine md_p2 hC hK hM kf_Mod_33 d_Mod_root_134 (fun H locs hM => ?_)
      refine lv_aload_n hC.1 hC.2.1 d_Mod_root_137 rfl (lv_at hl 0 rfl) ?_
      refine lv_aload_n hC.1 hC.2.1 d_Mod_root_138 rfl (lv_at hl 0 rfl) ?_
      refine md_f3 hC hK hM kf_Mod_20 d_Mod_root_139 ?_
      refine lv_aload_n hC.1 hC.2.1 d_Mod_root_142 rfl (lv_at hl 0 rfl) ?_
      refine md_n1 hC hK hM kf_Mod_30 d_Mod_root_143 ?_
      refine nv_top (y := nI ((u2.1) 1)) (by rw [va_up_ne _ _ (by decide)]) ?_
      refine nv_top (y := nI (ty)) (by rw [ey]) ?_
      refine lv_iconst (v := nI 0) hC.1 hC.2.1 d_Mod_root_146 (by decide) ?_
      refine md_callSi hC hK hM (As := [.ref (ad 3), .int (nI (ty)), .int (nI (0))]) (rest := [.ref (ad 5)]) (c_Mod_twice l D ad cA _ (va_up (u2.1) 2 t2) (u2.2) 3 ty 0 Sv (by decide) (by omega) (by decide) fy) kc_Mod_twice km_Mod_71 ki_Mod ks_Mod_twice kd_Mod_twice ⟨rfl, rfl⟩ ⟨Nat.le_of_ble_eq_true rfl, Nat.le_of_ble_eq_true rfl⟩ rfl hl.1 (Nat.le_of_ble_eq_true rfl) d_Mod_root_147 (fun r u3 H locs hp3 hM => ?_)
      obtain ⟨t3, rfl, ht3, fy3, hw3, hl3⟩ := hp3
      rw [← hw3 2 (by decide)] at fx
      rw [← hw3 4 (by decide)] at fz2
      have hR3 := md_R_of hR2 (hw3 0 (by decide)) (hw3 1 (by decide))
      have ez3 : u3.1 2 = t2 := by rw [hl3, va_up_self]
      refine md_p1 hC hK hM kf_Mod_30 d_Mod_root_150 (fun H locs hM => ?_)
      refine lv_aload_n hC.1 hC.2.1 d_Mod_root_153 rfl (lv_at hl 0 rfl) ?_
      refine lv_aload_n hC.1 hC.2.1 d_Mod_root_154 rfl (lv_at hl 0 rfl) ?_
      refine md_f3 hC hK hM kf_Mod_20 d_Mod_root_155 ?_
      refine lv_aload_n hC.1 hC.2.1 d_Mod_root_158 rfl (lv_at hl 0 rfl) ?_
      refine md_n1 hC hK hM kf_Mod_30 d_Mod_root_159 ?_
      refine nv_top (y := nI (t3)) (by rw [va_up_self]) ?_
      refine lv_iconst (v := nI 1) hC.1 hC.2.1 d_Mod_root_162 (by decide) ?_
      refine md_callSi hC hK hM (As := [.ref (ad 3), .int (nI (t3)), .int (nI (1))]) (rest := [.ref (ad 5)]) (c_Mod_twice l D ad cA _ (va_up (u3.1) 1 t3) (u3.2) 3 t3 1 (2 * Sv + 0) (by decide) (by omega) (by decide) fy3) kc_Mod_twice km_Mod_71 ki_Mod ks_Mod_twice kd_Mod_twice ⟨rfl, rfl⟩ ⟨Nat.le_of_ble_eq_true rfl, Nat.le_of_ble_eq_true rfl⟩ rfl hl.1 (Nat.le_of_ble_eq_true rfl) d_Mod_root_163 (fun r u4 H locs hp4 hM => ?_)
      obtain ⟨t4, rfl, ht4, fy4, hw4, hl4⟩ := hp4
      rw [← hw4 2 (by decide)] at fx
      rw [← hw4 4 (by decide)] at fz2
      have ez3 : u4.1 2 = t2 := by rw [hl4, va_up_ne _ _ (by decide)]; exact ez3
      have hR4 := md_R_of hR3 (hw4 0 (by decide)) (hw4 1 (by decide))
      refine md_p1 hC hK hM kf_Mod_30 d_Mod_root_166 (fun H locs hM => ?_)
      refine lv_aload_n hC.1 hC.2.1 d_Mod_root_169 rfl (lv_at hl 0 rfl) ?_
      refine md_f4 hC hK hM kf_Mod_23 d_Mod_root_170 ?_
      refine lv_aload_n hC.1 hC.2.1 d_Mod_root_173 rfl (lv_at hl 0 rfl) ?_
      refine md_n2 hC hK hM kf_Mod_33 d_Mod_root_174 ?_
      refine nv_top (y := nI ((u4.1) 2)) (by rw [va_up_ne _ _ (by decide)]) ?_
      refine nv_top (y := nI (t2)) (by rw [ez3]) ?_
      refine lv_aload_n hC.1 hC.2.1 d_Mod_root_177 rfl (lv_at hl 0 rfl) ?_
      refine md_f3 hC hK hM kf_Mod_20 d_Mod_root_178 ?_
      refine lv_aload_n hC.1 hC.2.1 d_Mod_root_181 rfl (lv_at hl 0 rfl) ?_
      refine md_n1 hC hK hM kf_Mod_30 d_Mod_root_182 ?_
      refine nv_top (y := nI (t4)) (by rw [va_up_self]) ?_
      refine md_callSi hC hK hM (As := [.ref (ad 4), .int (nI (t2)), .ref (ad 3), .int (nI (t4))]) (rest := []) (c_Mod_compareRows l D ad cA _ (va_up (u4.1) 1 t4) (u4.2) 4 t2 3 t4 (2 * (2 * Rv + b1) + b0) (2 * (2 * Sv + 0) + 1) (by decide) (by decide) fz2 fy4) kc_Mod_compareRows km_Mod_61 ki_Mod ks_Mod_compareRows kd_Mod_compareRows ⟨rfl, rfl⟩ ⟨Nat.le_of_ble_eq_true rfl, Nat.le_of_ble_eq_true rfl⟩ rfl hl.1 (Nat.le_of_ble_eq_true rfl) d_Mod_root_185 (fun r u H locs hp hM => ?_)
      obtain ⟨hr0, rfl⟩ := hp
      have hM : md_M D ad cA s (va_up (u4.1) 1 t4) (u4.2) H locs := by
        exact hM
      refine lv_if_lt (tgt := 195) hC.1 hC.2.1 d_Mod_root_188 (by decide) (fun hs2 => ?_) (fun hs2 => ?_)
      · have hlt : 2 * (2 * Rv + b1) + b0 < 2 * (2 * Sv + 0) + 1 := by
          rcases Nat.lt_trichotomy (2 * (2 * Rv + b1) + b0) (2 * (2 * Sv + 0) + 1) with z | z | z
          · exact z
          · rw [hr0, wm_ord_eq z] at hs2; exact absurd hs2 (by decide)
          · rw [hr0, wm_ord_gt z] at hs2; exact absurd hs2 (by decide)
        refine lv_iconst (v := nI 0) hC.1 hC.2.1 d_Mod_root_195 (by decide) ?_
        refine lv_istore (lv' := [(5, .int (nI (0))), (0, .ref (ad 5)), (1, .int (nI (s0))), (2, .int (nI (r0))), (4, .int (nI (y)))]) hC.1 hC.2.1 d_Mod_root_196 hl (by decide) rfl (fun ls hl => ?_)
        refine lv_iload hC.1 hC.2.1 d_Mod_root_198 (lv_at hl 0 rfl) ?_
        refine nv_if_eq (tgt := 226) hC (by omega) d_Mod_root_200 (by decide) (fun hz0 => ?_) (fun hz0 => ?_)
        · refine lv_aload_n hC.1 hC.2.1 d_Mod_root_226 rfl (lv_at hl 1 rfl) ?_
          refine md_callVv hC hK hM (As := []) (rest := []) md_at_m rfl (c_Mod_halve l D ad cA _ (va_up (u4.1) 1 t4) (u4.2) t4 (2 * (2 * Sv + 0) + 1) (by rw [va_up_self]) (by omega) fy4) kc_Mod_halve km_Mod_75 ki_Mod kn_Mod_halve ke_Mod_halve kd_Mod_halve ⟨rfl, rfl⟩ ⟨Nat.le_of_ble_eq_true rfl, Nat.le_of_ble_eq_true rfl⟩ rfl hl.1 (Nat.le_of_ble_eq_true rfl) d_Mod_root_227 (fun u5 H locs hp5 hM => ?_)
          obtain ⟨t6, ht6, fy6, hw5, hl5⟩ := hp5
          rw [← hw5 2 (by decide)] at fx
          rw [← hw5 4 (by decide)] at fz2
          have hR5 := md_R_of hR4 (hw5 0 (by decide)) (hw5 1 (by decide))
          have e6 : u5.1 1 = t6 := by rw [hl5, va_up_self]
          have ez6 : u5.1 2 = t2 := by rw [hl5, va_up_ne _ _ (by decide), va_up_ne _ _ (by decide), ez3]
          rw [show (2 * (2 * Sv + 0) + 1) / 2 = 2 * Sv by omega] at fy6
          have hev : u5.2 3 0 % 2 = 0 := by rw [md_par fy6]; omega
          have hyd := fy6.2.1 0 (by decide)
          refine lv_aload_n hC.1 hC.2.1 d_Mod_root_230 rfl (lv_at hl 1 rfl) ?_
          refine md_f3 hC hK hM kf_Mod_20 d_Mod_root_231 ?_
          refine lv_iconst (v := nI 0) hC.1 hC.2.1 d_Mod_root_234 (by decide) ?_
          refine lv_aload_n hC.1 hC.2.1 d_Mod_root_235 rfl (lv_at hl 1 rfl) ?_
          refine md_f3 hC hK hM kf_Mod_20 d_Mod_root_236 ?_
          refine lv_iconst (v := nI 0) hC.1 hC.2.1 d_Mod_root_239 (by decide) ?_
          refine md_ald hC hK hM (j := 3) (k := 0) (by decide) (md_lt2 (by decide) (by decide) (by omega)) d_Mod_root_240 ?_
          refine lv_ldc (v := nI 65534) hC.1 hC.2.1 hC.2.2.2.1 (hC.2.2.2.2 _ kk_Mod_78) d_Mod_root_241 ?_
          refine lv_iand hC.1 hC.2.1 d_Mod_root_243 ?_
          refine nv_top (y := nI (u5.2 3 0)) (md_even hev hyd) ?_
          refine lv_iload hC.1 hC.2.1 d_Mod_root_244 (lv_at hl 0 rfl) ?_
          refine nv_if_eq (tgt := 253) hC (by omega) d_Mod_root_246 (by decide) (fun hf => ?_) (fun hf => ?_)
          · refine lv_iconst (v := nI 0) hC.1 hC.2.1 d_Mod_root_253 (by decide) ?_
            refine lv_ior hC.1 hC.2.1 d_Mod_root_254 ?_
            refine nv_top (y := nI (u5.2 3 0 + 0)) (md_or00 _) ?_
            have fy7 := md_y0 (x := 0) fy6 (by omega) (by omega)
            refine md_ast hC hK hM (j := 3) (k := 0) (v := u5.2 3 0 + 0) (by decide) (md_lt2 (by decide) (by decide) (by omega)) d_Mod_root_255 (fun H locs hM => ?_)
            refine lv_aload_n hC.1 hC.2.1 d_Mod_root_256 rfl (lv_at hl 1 rfl) ?_
            refine lv_aload_n hC.1 hC.2.1 d_Mod_root_257 rfl (lv_at hl 1 rfl) ?_
            refine md_f3 hC hK hM kf_Mod_20 d_Mod_root_258 ?_
            refine lv_aload_n hC.1 hC.2.1 d_Mod_root_261 rfl (lv_at hl 1 rfl) ?_
            refine md_n1 hC hK hM kf_Mod_30 d_Mod_root_262 ?_
            refine nv_top (y := nI (t6)) (by rw [e6]) ?_
            refine lv_iconst (v := nI 1) hC.1 hC.2.1 d_Mod_root_265 (by decide) ?_
            refine nv_iadd hC d_Mod_root_266 ?_
            refine md_callSi hC hK hM (As := [.ref (ad 3), .int (nI (t6 + 1))]) (rest := [.ref (ad 5)]) (c_Mod_trim l D ad cA _ (u5.1) (va_up (u5.2) 3 (va_up ((u5.2) 3) 0 (u5.2 3 0 + 0))) 3 (t6 + 1) (by decide) (by omega) (by rw [va_up_self]; exact fy7.2.1)) kc_Mod_trim km_Mod_36 ki_Mod ks_Mod_trim kd_Mod_trim ⟨rfl, rfl⟩ ⟨Nat.le_of_ble_eq_true rfl, Nat.le_of_ble_eq_true rfl⟩ rfl hl.1 (Nat.le_of_ble_eq_true rfl) d_Mod_root_267 (fun r u H locs hp hM => ?_)
            obtain ⟨rfl, rfl⟩ := hp
            have hM : md_M D ad cA s (u5.1) (va_up (u5.2) 3 (va_up ((u5.2) 3) 0 (u5.2 3 0 + 0))) H locs := by
              exact hM
            rw [← va_up_self u5.2 3 (va_up (u5.2 3) 0 (u5.2 3 0 + 0))] at fy7
            refine md_p1 hC hK hM kf_Mod_30 d_Mod_root_270 (fun H locs hM => ?_)
            refine lv_iinc (v := nI (y) + (-1)) (lv' := [(4, .int (nI (y) + (-1))), (5, .int (nI (0))), (0, .ref (ad 5)), (1, .int (nI (s0))), (2, .int (nI (r0)))]) hC.1 hC.2.1 d_Mod_root_273 hl (k := 4) rfl (rfl) (by decide) rfl (fun ls hl => ?_)
            refine lv_goto (tgt := 78) hC.1 hC.2.1 d_Mod_root_276 (by decide) ?_
            exact ih y (va_up (u5.1) 1 (mv_top ((va_up u5.2 3 (va_up (u5.2 3) 0 (u5.2 3 0 + 0))) 3) (t6 + 1))) (va_up u5.2 3 (va_up (u5.2 3) 0 (u5.2 3 0 + 0))) (2 * Sv + 0) (2 * (2 * Rv + b1) + b0) _ t2 (by omega) (md_R_of hR5 (va_up_ne _ _ (by decide)) (va_up_ne _ _ (by decide))) (by rw [va_up_ne _ _ (by decide)]; exact fx) fy7 (by rw [va_up_ne _ _ (by decide)]; exact fz2) (va_up_self _ _ _) (by rw [va_up_ne _ _ (by decide)]; exact ez6) (by rw [hb1, hb0]; exact md_rootA0 hA) (by omega) (by omega) H locs ls hM (lv_sub hl [2, 3, 4, 0] rfl)
          · exact absurd hf (by decide)
        · exact absurd rfl hz0
      · have hge : 2 * (2 * Sv + 0) + 1 ≤ 2 * (2 * Rv + b1) + b0 := by
          rcases Nat.lt_or_ge (2 * (2 * Rv + b1) + b0) (2 * (2 * Sv + 0) + 1) with z | z
          · rw [hr0, wm_ord_lt z] at hs2; exact absurd (show (-1 : Int32) < 0 by decide) hs2
          · exact z
        refine lv_iconst (v := nI 1) hC.1 hC.2.1 d_Mod_root_191 (by decide) ?_
        refine lv_goto (tgt := 196) hC.1 hC.2.1 d_Mod_root_192 (by decide) ?_
        refine lv_istore (lv' := [(5, .int (nI (1))), (0, .ref (ad 5)), (1, .int (nI (s0))), (2, .int (nI (r0))), (4, .int (nI (y)))]) hC.1 hC.2.1 d_Mod_root_196 hl (by decide) rfl (fun ls hl => ?_)
        refine lv_iload hC.1 hC.2.1 d_Mod_root_198 (lv_at hl 0 rfl) ?_
        refine nv_if_eq (tgt := 226) hC (by omega) d_Mod_root_200 (by decide) (fun hz0 => ?_) (fun hz0 => ?_)
        · exact absurd hz0 (by decide)
        · refine lv_aload_n hC.1 hC.2.1 d_Mod_root_203 rfl (lv_at hl 1 rfl) ?_
          refine lv_aload_n hC.1 hC.2.1 d_Mod_root_204 rfl (lv_at hl 1 rfl) ?_
          refine md_f4 hC hK hM kf_Mod_23 d_Mod_root_205 ?_
          refine lv_aload_n hC.1 hC.2.1 d_Mod_root_208 rfl (lv_at hl 1 rfl) ?_
          refine md_n2 hC hK hM kf_Mod_33 d_Mod_root_209 ?_
          refine nv_top (y := nI ((u4.1) 2)) (by rw [va_up_ne _ _ (by decide)]) ?_
          refine nv_top (y := nI (t2)) (by rw [ez3]) ?_
          refine lv_aload_n hC.1 hC.2.1 d_Mod_root_212 rfl (lv_at hl 1 rfl) ?_
          refine md_f3 hC hK hM kf_Mod_20 d_Mod_root_213 ?_
          refine lv_aload_n hC.1 hC.2.1 d_Mod_root_216 rfl (lv_at hl 1 rfl) ?_
          refine md_n1 hC hK hM kf_Mod_30 d_Mod_root_217 ?_
          refine nv_top (y := nI (t4)) (by rw [va_up_self]) ?_
          refine md_callSi hC hK hM (As := [.ref (ad 4), .int (nI (t2)), .ref (ad 3), .int (nI (t4))]) (rest := [.ref (ad 5)]) (c_Mod_lessen l D ad cA _ (va_up (u4.1) 1 t4) (u4.2) 4 t2 3 t4 (2 * (2 * Rv + b1) + b0) (2 * (2 * Sv + 0) + 1) (by decide) (by decide) (by decide) fz2 fy4 hge) kc_Mod_lessen km_Mod_65 ki_Mod ks_Mod_lessen kd_Mod_lessen ⟨rfl, rfl⟩ ⟨Nat.le_of_ble_eq_true rfl, Nat.le_of_ble_eq_true rfl⟩ rfl hl.1 (Nat.le_of_ble_eq_true rfl) d_Mod_root_220 (fun r u5 H locs hp5 hM => ?_)
          obtain ⟨t5, rfl, fz5, hw5, hl5, ht5⟩ := hp5
          rw [← hw5 2 (by decide)] at fx
          rw [← hw5 3 (by decide)] at fy4
          have hR5 := md_R_of hR4 (hw5 0 (by decide)) (hw5 1 (by decide))
          refine md_p2 hC hK hM kf_Mod_33 d_Mod_root_223 (fun H locs hM => ?_)
          refine lv_aload_n hC.1 hC.2.1 d_Mod_root_226 rfl (lv_at hl 1 rfl) ?_
          refine md_callVv hC hK hM (As := []) (rest := []) md_at_m rfl (c_Mod_halve l D ad cA _ (va_up (u5.1) 2 t5) (u5.2) t4 (2 * (2 * Sv + 0) + 1) (by rw [va_up_ne _ _ (by decide), hl5, va_up_self]) (by omega) fy4) kc_Mod_halve km_Mod_75 ki_Mod kn_Mod_halve ke_Mod_halve kd_Mod_halve ⟨rfl, rfl⟩ ⟨Nat.le_of_ble_eq_true rfl, Nat.le_of_ble_eq_true rfl⟩ rfl hl.1 (Nat.le_of_ble_eq_true rfl) d_Mod_root_227 (fun u6 H locs hp6 hM => ?_)
          obtain ⟨t6, ht6, fy6, hw6, hl6⟩ := hp6
          rw [← hw6 2 (by decide)] at fx
          rw [← hw6 4 (by decide)] at fz5
          have hR6 := md_R_of hR5 (hw6 0 (by decide)) (hw6 1 (by decide))
          have e6 : u6.1 1 = t6 := by rw [hl6, va_up_self]
          have ez6 : u6.1 2 = t5 := by rw [hl6, va_up_ne _ _ (by decide), va_up_self]
          rw [show (2 * (2 * Sv + 0) + 1) / 2 = 2 * Sv by omega] at fy6
          have hev : u6.2 3 0 % 2 = 0 := by rw [md_par fy6]; omega
          have hyd := fy6.2.1 0 (by decide)
          refine lv_aload_n hC.1 hC.2.1 d_Mod_root_230 rfl (lv_at hl 1 rfl) ?_
          refine md_f3 hC hK hM kf_Mod_20 d_Mod_root_231 ?_
          refine lv_iconst (v := nI 0) hC.1 hC.2.1 d_Mod_root_234 (by decide) ?_
          refine lv_aload_n hC.1 hC.2.1 d_Mod_root_235 rfl (lv_at hl 1 rfl) ?_
          refine md_f3 hC hK hM kf_Mod_20 d_Mod_root_236 ?_
          refine lv_iconst (v := nI 0) hC.1 hC.2.1 d_Mod_root_239 (by decide) ?_
          refine md_ald hC hK hM (j := 3) (k := 0) (by decide) (md_lt2 (by decide) (by decide) (by omega)) d_Mod_root_240 ?_
          refine lv_ldc (v := nI 65534) hC.1 hC.2.1 hC.2.2.2.1 (hC.2.2.2.2 _ kk_Mod_78) d_Mod_root_241 ?_
          refine lv_iand hC.1 hC.2.1 d_Mod_root_243 ?_
          refine nv_top (y := nI (u6.2 3 0)) (md_even hev hyd) ?_
          refine lv_iload hC.1 hC.2.1 d_Mod_root_244 (lv_at hl 0 rfl) ?_
          refine nv_if_eq (tgt := 253) hC (by omega) d_Mod_root_246 (by decide) (fun hf => ?_) (fun hf => ?_)
          · exact absurd hf (by decide)
          · refine lv_iconst (v := nI 1) hC.1 hC.2.1 d_Mod_root_249 (by decide) ?_
            refine lv_goto (tgt := 254) hC.1 hC.2.1 d_Mod_root_250 (by decide) ?_
            refine lv_ior hC.1 hC.2.1 d_Mod_root_254 ?_
            refine nv_top (y := nI (u6.2 3 0 + 1)) (md_or01 hev hyd) ?_
            have fy7 := md_y0 (x := 1) fy6 (by omega) (by omega)
            refine md_ast hC hK hM (j := 3) (k := 0) (v := u6.2 3 0 + 1) (by decide) (md_lt2 (by decide) (by decide) (by omega)) d_Mod_root_255 (fun H locs hM => ?_)
            refine lv_aload_n hC.1 hC.2.1 d_Mod_root_256 rfl (lv_at hl 1 rfl) ?_
            refine lv_aload_n hC.1 hC.2.1 d_Mod_root_257 rfl (lv_at hl 1 rfl) ?_
            refine md_f3 hC hK hM kf_Mod_20 d_Mod_root_258 ?_
            refine lv_aload_n hC.1 hC.2.1 d_Mod_root_261 rfl (lv_at hl 1 rfl) ?_
            refine md_n1 hC hK hM kf_Mod_30 d_Mod_root_262 ?_
            refine nv_top (y := nI (t6)) (by rw [e6]) ?_
            refine lv_iconst (v := nI 1) hC.1 hC.2.1 d_Mod_root_265 (by decide) ?_
            refine nv_iadd hC d_Mod_root_266 ?_
            refine md_callSi hC hK hM (As := [.ref (ad 3), .int (nI (t6 + 1))]) (rest := [.ref (ad 5)]) (c_Mod_trim l D ad cA _ (u6.1) (va_up (u6.2) 3 (va_up ((u6.2) 3) 0 (u6.2 3 0 + 1))) 3 (t6 + 1) (by decide) (by omega) (by rw [va_up_self]; exact fy7.2.1)) kc_Mod_trim km_Mod_36 ki_Mod ks_Mod_trim kd_Mod_trim ⟨rfl, rfl⟩ ⟨Nat.le_of_ble_eq_true rfl, Nat.le_of_ble_eq_true rfl⟩ rfl hl.1 (Nat.le_of_ble_eq_true rfl) d_Mod_root_267 (fun r u H locs hp hM => ?_)
            obtain ⟨rfl, rfl⟩ := hp
            have hM : md_M D ad cA s (u6.1) (va_up (u6.2) 3 (va_up ((u6.2) 3) 0 (u6.2 3 0 + 1))) H locs := by
              exact hM
            rw [← va_up_self u6.2 3 (va_up (u6.2 3) 0 (u6.2 3 0 + 1))] at fy7
            refine md_p1 hC hK hM kf_Mod_30 d_Mod_root_270 (fun H locs hM => ?_)
            refine lv_iinc (v := nI (y) + (-1)) (lv' := [(4, .int (nI (y) + (-1))), (5, .int (nI (1))), (0, .ref (ad 5)), (1, .int (nI (s0))), (2, .int (nI (r0)))]) hC.1 hC.2.1 d_Mod_root_273 hl (k := 4) rfl (rfl) (by decide) rfl (fun ls hl => ?_)
            refine lv_goto (tgt := 78) hC.1 hC.2.1 d_Mod_root_276 (by decide) ?_
            exact ih y (va_up (u6.1) 1 (mv_top ((va_up u6.2 3 (va_up (u6.2 3) 0 (u6.2 3 0 + 1))) 3) (t6 + 1))) (va_up u6.2 3 (va_up (u6.2 3) 0 (u6.2 3 0 + 1))) (2 * Sv + 1) (2 * (2 * Rv + b1) + b0 - (2 * (2 * Sv + 0) + 1)) _ t5 (by omega) (md_R_of hR6 (va_up_ne _ _ (by decide)) (va_up_ne _ _ (by decide))) (by rw [va_up_ne _ _ (by decide)]; exact fx) fy7 (by rw [va_up_ne _ _ (by decide)]; exact fz5) (va_up_self _ _ _) (by rw [va_up_ne _ _ (by decide)]; exact ez6) (md_rootA1 hA (by rw [← hb1, ← hb0]; omega)) (by omega) (by omega) H locs ls hM (lv_sub hl [2, 3, 4, 0] rfl)
set_option maxHeartbeats 4000000 in
set_option maxRecDepth 100000 in
theorem c_Mod_root (l : Launch) (D : va_G) (ad : Nat → Nat) (cA : ClassId) (sz : Nat) (ln : Nat → Nat) (wd : Nat → Nat → Nat) (N : Nat → Nat) (hR : md_R N wd) (x y z : Int32) : Met l y_Mod_root (Cond.code y_Mod_root b_Mod_root 6 (some .boolean) :: lw_T) ({ frames := 2, cells := 0, slots := 0, locals := 48 }) (va_Pc [.ref (ad 5), .int (x), .int (y), .int (z)] (md_B D ad cA sz ln wd)) (va_Qi (fun (r : Int32) (u : md_St) => r = (sp_root N x y z).1 ∧ md_R (sp_root N x y z).2 u.2) (md_E D ad cA sz) (md_A ad sz)) 0 0 (md_A ad sz) := by
  refine md_met l (by decide) (Nat.le_of_ble_eq_true rfl) ?_
  intro p e s m below meth c ls hsz hC hK hr hlk hM hl
  subst hsz
  have hC : CallFix p m c b_Mod_root 6 s _ lw_T R_Mod := hC
  have hl : lv_has ls 6 [(0, .ref (ad 5)), (1, .int (x)), (2, .int (y)), (3, .int (z))] := hl
  have hR0 := hR
  refine lv_iload_n hC.1 hC.2.1 d_Mod_root_0 rfl (lv_at hl 1 rfl) ?_
  refine md_callPi hC hK hM (As := [.int (x)]) (rest := []) (c_Mod_isRegister l _ x) kc_Mod_isRegister km_Mod_41 ki_Mod ks_Mod_isRegister kd_Mod_isRegister ⟨rfl, rfl⟩ ⟨Nat.le_of_ble_eq_true rfl, Nat.le_of_ble_eq_true rfl⟩ rfl hl.1 (Nat.le_of_ble_eq_true rfl) d_Mod_root_1 (fun r H locs hp hM => ?_)
  rcases hp with ⟨s0, hs0, rfl, rfl⟩ | ⟨hno, rfl⟩
  · refine nv_if_eq (tgt := 26) hC (by omega) d_Mod_root_4 (by decide) (fun hz => ?_) (fun hz => ?_)
    · exact absurd hz (by decide)
    · refine lv_iload_n hC.1 hC.2.1 d_Mod_root_7 rfl (lv_at hl 2 rfl) ?_
      refine md_callPi hC hK hM (As := [.int (y)]) (rest := []) (c_Mod_isRegister l _ y) kc_Mod_isRegister km_Mod_41 ki_Mod ks_Mod_isRegister kd_Mod_isRegister ⟨rfl, rfl⟩ ⟨Nat.le_of_ble_eq_true rfl, Nat.le_of_ble_eq_true rfl⟩ rfl hl.1 (Nat.le_of_ble_eq_true rfl) d_Mod_root_8 (fun r H locs hp hM => ?_)
      rcases hp with ⟨r0, hr0, rfl, rfl⟩ | ⟨hno, rfl⟩
      · refine nv_if_eq (tgt := 26) hC (by omega) d_Mod_root_11 (by decide) (fun hz => ?_) (fun hz => ?_)
        · exact absurd hz (by decide)
        · refine lv_iload_n hC.1 hC.2.1 d_Mod_root_14 rfl (lv_at hl 3 rfl) ?_
          refine md_callPi hC hK hM (As := [.int (z)]) (rest := []) (c_Mod_isRegister l _ z) kc_Mod_isRegister km_Mod_41 ki_Mod ks_Mod_isRegister kd_Mod_isRegister ⟨rfl, rfl⟩ ⟨Nat.le_of_ble_eq_true rfl, Nat.le_of_ble_eq_true rfl⟩ rfl hl.1 (Nat.le_of_ble_eq_true rfl) d_Mod_root_15 (fun r H locs hp hM => ?_)
          rcases hp with ⟨a, ha, rfl, rfl⟩ | ⟨hno, rfl⟩
          · refine nv_if_eq (tgt := 26) hC (by omega) d_Mod_root_18 (by decide) (fun hz => ?_) (fun hz => ?_)
            · exact absurd hz (by decide)
            · refine lv_iload_n hC.1 hC.2.1 d_Mod_root_21 rfl (lv_at hl 1 rfl) ?_
              refine lv_iload_n hC.1 hC.2.1 d_Mod_root_22 rfl (lv_at hl 2 rfl) ?_
              refine nv_icmp_ne (tgt := 28) hC (by omega) (by omega) d_Mod_root_23 (by decide) (fun hsr => ?_) (fun hsr => ?_)
              · refine lv_aload_n hC.1 hC.2.1 d_Mod_root_28 rfl (lv_at hl 0 rfl) ?_
                refine lv_iload_n hC.1 hC.2.1 d_Mod_root_29 rfl (lv_at hl 3 rfl) ?_
                refine md_callVv hC hK hM (As := [.int (nI (a))]) (rest := []) md_at_m rfl (c_Mod_loadX l D ad cA _ ln wd a _ ha (hR0 a ha)) kc_Mod_loadX km_Mod_45 ki_Mod kn_Mod_loadX ke_Mod_loadX kd_Mod_loadX ⟨rfl, rfl⟩ ⟨Nat.le_of_ble_eq_true rfl, Nat.le_of_ble_eq_true rfl⟩ rfl hl.1 (Nat.le_of_ble_eq_true rfl) d_Mod_root_30 (fun u1 H locs hp1 hM => ?_)
                obtain ⟨fx, hw1, hl1⟩ := hp1
                have hR1 := md_R_of hR0 (hw1 0 (by decide)) (hw1 1 (by decide))
                have ex : u1.1 0 = wd 1 a := by rw [hl1, va_up_self]
                have exb := (hR0 a ha).1
                refine lv_aload_n hC.1 hC.2.1 d_Mod_root_33 rfl (lv_at hl 0 rfl) ?_
                refine md_callVv hC hK hM (As := []) (rest := []) md_at_m rfl (c_Mod_clearZ l D ad cA _ (u1.1) (u1.2) ) kc_Mod_clearZ km_Mod_49 ki_Mod kn_Mod_clearZ ke_Mod_clearZ kd_Mod_clearZ ⟨rfl, rfl⟩ ⟨Nat.le_of_ble_eq_true rfl, Nat.le_of_ble_eq_true rfl⟩ rfl hl.1 (Nat.le_of_ble_eq_true rfl) d_Mod_root_34 (fun u2 H locs hp2 hM => ?_)
                obtain ⟨fz, hw2, hl2⟩ := hp2
                rw [← hw2 2 (by decide)] at fx
                have ex : u2.1 0 = wd 1 a := by rw [hl2, va_up_ne _ _ (by decide)]; exact ex
                have hR2 := md_R_of hR1 (hw2 0 (by decide)) (hw2 1 (by decide))
                have ez : u2.1 2 = 0 := by rw [hl2, va_up_self]
                refine lv_iconst (v := nI 0) hC.1 hC.2.1 d_Mod_root_37 (by decide) ?_
                refine lv_istore (lv' := [(4, .int (nI (0))), (0, .ref (ad 5)), (1, .int (nI (s0))), (2, .int (nI (r0))), (3, .int (nI (a)))]) hC.1 hC.2.1 d_Mod_root_38 hl (by decide) rfl (fun ls hl => ?_)
                refine lp_Mod_root_a hC hK u2.1 u2.2 s0 r0 (fun w1 hq1 hq2 H locs ls hM hl => ?_) 8201 0 u2.2 (Nat.zero_le _) (fun _ _ => rfl) (fun q hq => absurd hq (by omega)) (by omega) _ _ _ hM (lv_sub hl [1, 2, 3, 0] rfl)
                rw [← hq1 2 (by decide)] at fx
                have hR3 := md_R_of hR2 (hq1 0 (by decide)) (hq1 1 (by decide))
                have hA0 : N a < 2 ^ (2 * (8 * wd 1 a)) := by rw [← Nat.mul_assoc, Nat.pow_mul]; exact mr_lt fx
                have hz0 : mr_r 8200 (w1 4) 0 0 := by
                  rw [hq1 4 (by decide)]
                  exact ⟨by decide, fun q hq => by rw [fz q hq]; decide, fun q h1 h2 => fz q h2, fun z => absurd z (by decide), rfl⟩
                have hy0 : mr_r 8200 (w1 3) 0 0 := ⟨by decide, fun q hq => by rw [hq2 q hq]; show 0 < 65536; decide, fun q h1 h2 => hq2 q h2, fun z => absurd z (by decide), rfl⟩
                refine lv_aload_n hC.1 hC.2.1 d_Mod_root_62 rfl (lv_at hl 0 rfl) ?_
                refine lv_iconst (v := nI 0) hC.1 hC.2.1 d_Mod_root_63 (by decide) ?_
                refine md_p1 hC hK hM kf_Mod_30 d_Mod_root_64 (fun H locs hM => ?_)
                refine lv_bipush (v := nI 8) hC.1 hC.2.1 d_Mod_root_67 (by decide) ?_
                refine lv_aload_n hC.1 hC.2.1 d_Mod_root_69 rfl (lv_at hl 0 rfl) ?_
                refine md_n0 hC hK hM kf_Mod_26 d_Mod_root_70 ?_
                refine nv_top (y := nI ((u2.1) 0)) (by rw [va_up_ne _ _ (by decide)]) ?_
                refine nv_top (y := nI (wd 1 a)) (by rw [ex]) ?_
                refine nv_imul hC d_Mod_root_73 ?_
                refine lv_iconst (v := nI 1) hC.1 hC.2.1 d_Mod_root_74 (by decide) ?_
                refine nv_isub1 hC d_Mod_root_75 ?_
                refine lv_istore (lv' := [(4, .int (nI (8 * (wd 1 a)) + (-1))), (0, .ref (ad 5)), (1, .int (nI (s0))), (2, .int (nI (r0)))]) hC.1 hC.2.1 d_Mod_root_76 hl (by decide) rfl (fun ls hl => ?_)
                refine lp_Mod_root_b hC hK N s0 r0 (wd 1 a) (N a) exb (md_lt fx exb) (fun lnv w Sv Rv ty t hRw fyw fzw eyw ezw hAw hRS H locs ls hM hl => ?_) (8 * wd 1 a + 1) (8 * wd 1 a) _ w1 0 0 0 0 (Nat.le_refl _) hR3 fx hy0 hz0 (va_up_self _ _ _) (by rw [va_up_ne _ _ (by decide)]; exact ez) (by rw [Nat.div_eq_of_lt hA0]) (Nat.le_refl _) (Nat.le_refl _) _ _ _ hM (lv_sub hl [1, 2, 3, 0] rfl)
                obtain ⟨hS1, hR1'⟩ := md_rootend hAw hRS
                obtain ⟨hSA, hRA⟩ := md_sqle hAw
                have hSL : Sv < sp_L := Nat.lt_of_le_of_lt hSA (md_R_L hR ha)
                have hRL : Rv < sp_L := Nat.lt_of_le_of_lt hRA (md_R_L hR ha)
                refine lv_aload_n hC.1 hC.2.1 d_Mod_root_279 rfl (lv_at hl 0 rfl) ?_
                refine lv_iload_n hC.1 hC.2.1 d_Mod_root_280 rfl (lv_at hl 1 rfl) ?_
                refine lv_aload_n hC.1 hC.2.1 d_Mod_root_281 rfl (lv_at hl 0 rfl) ?_
                refine md_f3 hC hK hM kf_Mod_20 d_Mod_root_282 ?_
                refine lv_aload_n hC.1 hC.2.1 d_Mod_root_285 rfl (lv_at hl 0 rfl) ?_
                refine md_n1 hC hK hM kf_Mod_30 d_Mod_root_286 ?_
                refine nv_top (y := nI (ty)) (by rw [eyw]) ?_
                refine md_callVi hC hK hM (As := [.int (nI (s0)), .ref (ad 3), .int (nI (ty))]) (rest := []) md_at_m rfl (c_Mod_put l D ad cA _ lnv w N s0 3 _ Sv hRw hs0 (by decide) fyw.1 fyw.2.1 fyw.2.2.2.2) kc_Mod_put km_Mod_54 ki_Mod kn_Mod_put ke_Mod_put kd_Mod_put ⟨rfl, rfl⟩ ⟨Nat.le_of_ble_eq_true rfl, Nat.le_of_ble_eq_true rfl⟩ rfl hl.1 (Nat.le_of_ble_eq_true rfl) d_Mod_root_289 (fun rk uk H locs hpk hM => ?_)
                rw [sp_putv, if_pos hSL] at hpk
                obtain ⟨hk1, hkR, hkl, hkw⟩ := hpk
                have fzk : mr_r 8200 (uk.2 4) t Rv := by rw [hkw 4 (by decide)]; exact fzw
                have ezk : uk.1 2 = t := by rw [hkl]; exact ezw
                refine nv_top (y := nI (1)) hk1 ?_
                refine nv_if_eq (tgt := 315) hC (by omega) d_Mod_root_292 (by decide) (fun hz1 => ?_) (fun hz1 => ?_)
                · exact absurd hz1 (by decide)
                · refine lv_aload_n hC.1 hC.2.1 d_Mod_root_295 rfl (lv_at hl 0 rfl) ?_
                  refine lv_iload_n hC.1 hC.2.1 d_Mod_root_296 rfl (lv_at hl 2 rfl) ?_
                  refine lv_aload_n hC.1 hC.2.1 d_Mod_root_297 rfl (lv_at hl 0 rfl) ?_
                  refine md_f4 hC hK hM kf_Mod_23 d_Mod_root_298 ?_
                  refine lv_aload_n hC.1 hC.2.1 d_Mod_root_301 rfl (lv_at hl 0 rfl) ?_
                  refine md_n2 hC hK hM kf_Mod_33 d_Mod_root_302 ?_
                  refine nv_top (y := nI (t)) (by rw [ezk]) ?_
                  refine md_callVi hC hK hM (As := [.int (nI (r0)), .ref (ad 4), .int (nI (t))]) (rest := []) md_at_m rfl (c_Mod_put l D ad cA _ (uk.1) (uk.2) (va_up N s0 Sv) r0 4 _ Rv hkR hr0 (by decide) fzk.1 fzk.2.1 fzk.2.2.2.2) kc_Mod_put km_Mod_54 ki_Mod kn_Mod_put ke_Mod_put kd_Mod_put ⟨rfl, rfl⟩ ⟨Nat.le_of_ble_eq_true rfl, Nat.le_of_ble_eq_true rfl⟩ rfl hl.1 (Nat.le_of_ble_eq_true rfl) d_Mod_root_305 (fun rk2 uk2 H locs hpk2 hM => ?_)
                  rw [sp_putv, if_pos hRL] at hpk2
                  obtain ⟨hk3, hk2, -, -⟩ := hpk2
                  refine nv_top (y := nI (1)) hk3 ?_
                  refine nv_if_eq (tgt := 315) hC (by omega) d_Mod_root_308 (by decide) (fun hz2 => ?_) (fun hz2 => ?_)
                  · exact absurd hz2 (by decide)
                  · refine lv_iconst (v := nI 1) hC.1 hC.2.1 d_Mod_root_311 (by decide) ?_
                    refine lv_goto (tgt := 316) hC.1 hC.2.1 d_Mod_root_312 (by decide) ?_
                    exact md_zret hC hK hM hr hlk rfl ⟨by simp only [sp_root, sp_3, sp_ix_ok hs0, sp_ix_ok hr0, sp_ix_ok ha]; rw [if_neg hsr], by simp only [sp_root, sp_3, sp_ix_ok hs0, sp_ix_ok hr0, sp_ix_ok ha]; rw [if_neg hsr, hS1, hR1']; exact hk2⟩ d_Mod_root_316
              · refine lv_iconst (v := nI 0) hC.1 hC.2.1 d_Mod_root_26 (by decide) ?_
                exact md_zret hC hK hM hr hlk rfl ⟨by simp only [sp_root, sp_3, sp_ix_ok hs0, sp_ix_ok hr0, sp_ix_ok ha]; rw [if_pos hsr]; rfl, by simp only [sp_root, sp_3, sp_ix_ok hs0, sp_ix_ok hr0, sp_ix_ok ha]; rw [if_pos hsr]; exact hR⟩ d_Mod_root_27
          · refine nv_if_eq (tgt := 26) hC (by omega) d_Mod_root_18 (by decide) (fun hz => ?_) (fun hz => ?_)
            · refine lv_iconst (v := nI 0) hC.1 hC.2.1 d_Mod_root_26 (by decide) ?_
              exact md_zret hC hK hM hr hlk rfl ⟨by simp only [sp_root, sp_3, sp_no, sp_ix_ok hs0, sp_ix_ok hr0, sp_ix_no hno], by simp only [sp_root, sp_3, sp_no, sp_ix_ok hs0, sp_ix_ok hr0, sp_ix_no hno]; exact hR⟩ d_Mod_root_27
            · exact absurd rfl hz
      · refine nv_if_eq (tgt := 26) hC (by omega) d_Mod_root_11 (by decide) (fun hz => ?_) (fun hz => ?_)
        · refine lv_iconst (v := nI 0) hC.1 hC.2.1 d_Mod_root_26 (by decide) ?_
          exact md_zret hC hK hM hr hlk rfl ⟨by simp only [sp_root, sp_3, sp_no, sp_ix_ok hs0, sp_ix_no hno], by simp only [sp_root, sp_3, sp_no, sp_ix_ok hs0, sp_ix_no hno]; exact hR⟩ d_Mod_root_27
        · exact absurd rfl hz
  · refine nv_if_eq (tgt := 26) hC (by omega) d_Mod_root_4 (by decide) (fun hz => ?_) (fun hz => ?_)
    · refine lv_iconst (v := nI 0) hC.1 hC.2.1 d_Mod_root_26 (by decide) ?_
      exact md_zret hC hK hM hr hlk rfl ⟨by simp only [sp_root, sp_3, sp_no, sp_ix_no hno], by simp only [sp_root, sp_3, sp_no, sp_ix_no hno]; exact hR⟩ d_Mod_root_27
    · exact absurd rfl hz
