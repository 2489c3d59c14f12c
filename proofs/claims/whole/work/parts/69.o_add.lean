set_option maxHeartbeats 4000000 in
set_option maxRecDepth 100000 in
theorem c_Mod_copy (l : Launch) (D : va_G) (ad : Nat → Nat) (cA : ClassId) (sz : Nat) (ln : Nat → Nat) (wd : Nat → Nat → Nat) (N : Nat → Nat) (hR : md_R N wd) (x y : Int32) : Met l y_Mod_copy (Cond.code y_Mod_copy b_Mod_copy 3 (some .boolean) :: lw_T) ({ frames := 2, cells := 0, slots := 0, locals := 47 }) (va_Pc [.ref (ad 5), .int (x), .int (y)] (md_B D ad cA sz ln wd)) (va_Qi (fun (r : Int32) (u : md_St) => r = (sp_copy N x y).1 ∧ md_R (sp_copy N x y).2 u.2) (md_E D ad cA sz) (md_A ad sz)) 0 0 (md_A ad sz) := by
  refine md_met l (by decide) (Nat.le_of_ble_eq_true rfl) ?_
  intro p e s m below meth c ls hsz hC hK hr hlk hM hl
  subst hsz
  have hC : CallFix p m c b_Mod_copy 3 s _ lw_T R_Mod := hC
  have hl : lv_has ls 3 [(0, .ref (ad 5)), (1, .int (x)), (2, .int (y))] := hl
  have hR0 := hR
  refine lv_iload_n hC.1 hC.2.1 d_Mod_copy_0 rfl (lv_at hl 1 rfl) ?_
  refine md_callPi hC hK hM (As := [.int (x)]) (rest := []) (c_Mod_isRegister l _ x) kc_Mod_isRegister km_Mod_41 ki_Mod ks_Mod_isRegister kd_Mod_isRegister ⟨rfl, rfl⟩ ⟨Nat.le_of_ble_eq_true rfl, Nat.le_of_ble_eq_true rfl⟩ rfl hl.1 (Nat.le_of_ble_eq_true rfl) d_Mod_copy_1 (fun r H locs hp hM => ?_)
  rcases hp with ⟨d, hd, rfl, rfl⟩ | ⟨hno, rfl⟩
  · refine nv_if_eq (tgt := 14) hC (by omega) d_Mod_copy_4 (by decide) (fun hz => ?_) (fun hz => ?_)
    · exact absurd hz (by decide)
    · refine lv_iload_n hC.1 hC.2.1 d_Mod_copy_7 rfl (lv_at hl 2 rfl) ?_
      refine md_callPi hC hK hM (As := [.int (y)]) (rest := []) (c_Mod_isRegister l _ y) kc_Mod_isRegister km_Mod_41 ki_Mod ks_Mod_isRegister kd_Mod_isRegister ⟨rfl, rfl⟩ ⟨Nat.le_of_ble_eq_true rfl, Nat.le_of_ble_eq_true rfl⟩ rfl hl.1 (Nat.le_of_ble_eq_true rfl) d_Mod_copy_8 (fun r H locs hp hM => ?_)
      rcases hp with ⟨a, ha, rfl, rfl⟩ | ⟨hno, rfl⟩
      · refine nv_if_ne (tgt := 16) hC (by omega) d_Mod_copy_11 (by decide) (fun hz => ?_) (fun hz => ?_)
        · refine lv_aload_n hC.1 hC.2.1 d_Mod_copy_16 rfl (lv_at hl 0 rfl) ?_
          refine lv_iload_n hC.1 hC.2.1 d_Mod_copy_17 rfl (lv_at hl 2 rfl) ?_
          refine md_callVv hC hK hM (As := [.int (nI (a))]) (rest := []) md_at_m rfl (c_Mod_loadX l D ad cA _ ln wd a _ ha (hR0 a ha)) kc_Mod_loadX km_Mod_45 ki_Mod kn_Mod_loadX ke_Mod_loadX kd_Mod_loadX ⟨rfl, rfl⟩ ⟨Nat.le_of_ble_eq_true rfl, Nat.le_of_ble_eq_true rfl⟩ rfl hl.1 (Nat.le_of_ble_eq_true rfl) d_Mod_copy_18 (fun u1 H locs hp1 hM => ?_)
          obtain ⟨fx, hw1, hl1⟩ := hp1
          have hR1 := md_R_of hR0 (hw1 0 (by decide)) (hw1 1 (by decide))
          have ex : u1.1 0 = wd 1 a := by rw [hl1, va_up_self]
          have exb := (hR0 a ha).1
          refine lv_aload_n hC.1 hC.2.1 d_Mod_copy_21 rfl (lv_at hl 0 rfl) ?_
          refine lv_iload_n hC.1 hC.2.1 d_Mod_copy_22 rfl (lv_at hl 1 rfl) ?_
          refine lv_aload_n hC.1 hC.2.1 d_Mod_copy_23 rfl (lv_at hl 0 rfl) ?_
          refine md_f2 hC hK hM kf_Mod_17 d_Mod_copy_24 ?_
          refine lv_aload_n hC.1 hC.2.1 d_Mod_copy_27 rfl (lv_at hl 0 rfl) ?_
          refine md_n0 hC hK hM kf_Mod_26 d_Mod_copy_28 ?_
          refine nv_top (y := nI (wd 1 a)) (by rw [ex]) ?_
          refine md_callVi hC hK hM (As := [.int (nI (d)), .ref (ad 2), .int (nI (wd 1 a))]) (rest := []) md_at_m rfl (c_Mod_put l D ad cA _ (u1.1) (u1.2) N d 2 _ (N a) hR1 hd (by decide) fx.1 fx.2.1 fx.2.2.2.2) kc_Mod_put km_Mod_54 ki_Mod kn_Mod_put ke_Mod_put kd_Mod_put ⟨rfl, rfl⟩ ⟨Nat.le_of_ble_eq_true rfl, Nat.le_of_ble_eq_true rfl⟩ rfl hl.1 (Nat.le_of_ble_eq_true rfl) d_Mod_copy_31 (fun rk uk H locs hpk hM => ?_)
          exact md_zret hC hK hM hr hlk (md_kn hpk.1) (by simp only [sp_copy, sp_3, sp_ix_ok hd, sp_ix_ok ha]; rw [sp_putv, if_pos (md_R_L hR ha)] at hpk; exact ⟨hpk.1, hpk.2.1⟩) d_Mod_copy_34
        · exact absurd hz (by decide)
      · refine nv_if_ne (tgt := 16) hC (by omega) d_Mod_copy_11 (by decide) (fun hz => ?_) (fun hz => ?_)
        · exact absurd rfl hz
        · refine lv_iconst (v := nI 0) hC.1 hC.2.1 d_Mod_copy_14 (by decide) ?_
          exact md_zret hC hK hM hr hlk rfl ⟨by simp only [sp_copy, sp_3, sp_no, sp_ix_ok hd, sp_ix_no hno], by simp only [sp_copy, sp_3, sp_no, sp_ix_ok hd, sp_ix_no hno]; exact hR⟩ d_Mod_copy_15
  · refine nv_if_eq (tgt := 14) hC (by omega) d_Mod_copy_4 (by decide) (fun hz => ?_) (fun hz => ?_)
    · refine lv_iconst (v := nI 0) hC.1 hC.2.1 d_Mod_copy_14 (by decide) ?_
      exact md_zret hC hK hM hr hlk rfl ⟨by simp only [sp_copy, sp_3, sp_no, sp_ix_no hno], by simp only [sp_copy, sp_3, sp_no, sp_ix_no hno]; exact hR⟩ d_Mod_copy_15
    · exact absurd rfl hz
set_option maxHeartbeats 4000000 in
set_option maxRecDepth 100000 in
theorem lp_Mod_add {p : Program} {l : Launch} {e : Env} {R : Room} {s : State} {m : MethodId} {args : Array Value} {below : List Frame} {meth : Method} {c : Code} {Q : State → Prop} {D : va_G} {ad : Nat → Nat} {cA : ClassId} (hC : CallFix p m c b_Mod_add 7 s args lw_T R_Mod) (hK : va_K D classes (md_ty cA) s) (ln : Nat → Nat) (wd : Nat → Nat → Nat) (d : Nat) (dx : mv_d (wd 2) 8200) (dy : mv_d (wd 3) 8200)
    (hex : ∀ (cy : Nat) (w : Nat → Nat → Nat), (∀ j, j ≠ 4 → w j = wd j) → (mv_v (w 4) 4097 + cy * 65536 ^ 4097 = mv_v (wd 2) 4097 + mv_v (wd 3) 4097) → (∀ q, q < 8200 → w 4 q < 65536) → ∀ (H : Heap) (locs : List Loc) (ls : Array Slot), md_M D ad cA s (ln) (w) H locs → lv_has ls 7 [(0, .ref (ad 5)), (1, .int (nI (d)))] → W p l e R s m args below meth c H locs 0 0 Q (F0 m 96 ls [])) :
    ∀ (n : Nat) (k : Nat) (cy : Nat) (w : Nat → Nat → Nat), (k ≤ 4097) → (cy ≤ 1) → (∀ j, j ≠ 4 → w j = wd j) → (mv_v (w 4) k + cy * 65536 ^ k = mv_v (wd 2) k + mv_v (wd 3) k) → (∀ q, q < 8200 → w 4 q < 65536) → 4097 + 1 ≤ k + n → ∀ (H : Heap) (locs : List Loc) (ls : Array Slot), md_M D ad cA s (ln) (w) H locs → lv_has ls 7 [(0, .ref (ad 5)), (1, .int (nI (d))), (4, .int (nI (cy))), (5, .int (nI (k)))] → W p l e R s m args below meth c H locs 0 0 Q (F0 m 43 ls []) := by
  intro n
  induction n with
  | zero =>
    intro k cy w hk hc hw hS hd hn
    exact absurd hn (by omega)
  | succ n ih =>
    intro k cy w hk hc hw hS hd hn H locs ls hM hl
    refine lv_iload hC.1 hC.2.1 d_Mod_add_43 (lv_at hl 3 rfl) ?_
    refine lv_sipush (v := nI 4096) hC.1 hC.2.1 d_Mod_add_45 (by decide) ?_
    refine nv_icmp_gt (tgt := 96) hC (by omega) (by omega) d_Mod_add_48 (by decide) (fun hk2 => ?_) (fun hk2 => ?_)
    · obtain rfl : k = 4097 := by omega
      exact hex cy w hw hS hd H locs ls hM (lv_sub hl [0, 1] rfl)
    · have d1 := dx k (by omega)
      have d2 := dy k (by omega)
      refine lv_aload_n hC.1 hC.2.1 d_Mod_add_51 rfl (lv_at hl 0 rfl) ?_
      refine md_f2 hC hK hM kf_Mod_17 d_Mod_add_52 ?_
      refine lv_iload hC.1 hC.2.1 d_Mod_add_55 (lv_at hl 3 rfl) ?_
      refine md_ald hC hK hM (j := 2) (k := k) (by decide) (md_lt2 (by decide) (by decide) (by omega)) d_Mod_add_57 ?_
      refine nv_top (y := nI (wd 2 k)) (by rw [hw 2 (by decide)]) ?_
      refine lv_aload_n hC.1 hC.2.1 d_Mod_add_58 rfl (lv_at hl 0 rfl) ?_
      refine md_f3 hC hK hM kf_Mod_20 d_Mod_add_59 ?_
      refine lv_iload hC.1 hC.2.1 d_Mod_add_62 (lv_at hl 3 rfl) ?_
      refine md_ald hC hK hM (j := 3) (k := k) (by decide) (md_lt2 (by decide) (by decide) (by omega)) d_Mod_add_64 ?_
      refine nv_top (y := nI (wd 3 k)) (by rw [hw 3 (by decide)]) ?_
      refine nv_iadd hC d_Mod_add_65 ?_
      refine lv_iload hC.1 hC.2.1 d_Mod_add_66 (lv_at hl 2 rfl) ?_
      refine nv_iadd hC d_Mod_add_68 ?_
      refine lv_istore (lv' := [(6, .int (nI (((wd 2 k) + (wd 3 k)) + cy))), (0, .ref (ad 5)), (1, .int (nI (d))), (4, .int (nI (cy))), (5, .int (nI (k)))]) hC.1 hC.2.1 d_Mod_add_69 hl (by decide) rfl (fun ls hl => ?_)
      refine lv_iload hC.1 hC.2.1 d_Mod_add_71 (lv_at hl 0 rfl) ?_
      refine lv_bipush (v := nI 16) hC.1 hC.2.1 d_Mod_add_73 (by decide) ?_
      refine nv_ishrp (q := 65536) hC (by decide) (by omega) (by decide) d_Mod_add_75 ?_
      refine lv_istore (lv' := [(4, .int (nI ((((wd 2 k) + (wd 3 k)) + cy) / 65536))), (6, .int (nI (((wd 2 k) + (wd 3 k)) + cy))), (0, .ref (ad 5)), (1, .int (nI (d))), (5, .int (nI (k)))]) hC.1 hC.2.1 d_Mod_add_76 hl (by decide) rfl (fun ls hl => ?_)
      refine lv_aload_n hC.1 hC.2.1 d_Mod_add_78 rfl (lv_at hl 2 rfl) ?_
      refine md_f4 hC hK hM kf_Mod_23 d_Mod_add_79 ?_
      refine lv_iload hC.1 hC.2.1 d_Mod_add_82 (lv_at hl 4 rfl) ?_
      refine lv_iload hC.1 hC.2.1 d_Mod_add_84 (lv_at hl 1 rfl) ?_
      refine lv_ldc (v := nI 65535) hC.1 hC.2.1 hC.2.2.2.1 (hC.2.2.2.2 _ kk_Mod_40) d_Mod_add_86 ?_
      refine nv_iandp (k := 16) (q := 65536) hC (by decide) (by decide) (by omega) (by decide) d_Mod_add_88 ?_
      refine md_ast hC hK hM (j := 4) (k := k) (v := (((wd 2 k) + (wd 3 k)) + cy) % 65536) (by decide) (md_lt2 (by decide) (by decide) (by omega)) d_Mod_add_89 (fun H locs hM => ?_)
      refine lv_iinc (v := nI (k + 1)) (lv' := [(5, .int (nI (k + 1))), (4, .int (nI ((((wd 2 k) + (wd 3 k)) + cy) / 65536))), (6, .int (nI (((wd 2 k) + (wd 3 k)) + cy))), (0, .ref (ad 5)), (1, .int (nI (d)))]) hC.1 hC.2.1 d_Mod_add_90 hl (k := 4) rfl (nv_inc _) (by decide) rfl (fun ls hl => ?_)
      refine lv_goto (tgt := 43) hC.1 hC.2.1 d_Mod_add_93 (by decide) ?_
      exact ih (k + 1) ((wd 2 k + wd 3 k + cy) / 65536) (va_up w 4 (va_up (w 4) k ((wd 2 k + wd 3 k + cy) % 65536))) (by omega) (by omega) (fun j hj => by rw [va_up_ne _ _ hj]; exact hw j hj) (by
        have h := mv_chain (d := wd 2 k + wd 3 k) hS
        rw [va_up_self, Nat.add_comm (wd 2 k + wd 3 k) cy, h, mv_s, mv_s, Nat.add_mul]
        omega) (by rw [va_up_self]; exact mv_upd_d hd (Nat.mod_lt _ (by decide))) (by omega) H locs ls hM (lv_sub hl [3, 4, 1, 0] rfl)
set_option maxHeartbeats 4000000 in
set_option maxRecDepth 100000 in
theorem c_Mod_add (l : Launch) (D : va_G) (ad : Nat → Nat) (cA : ClassId) (sz : Nat) (ln : Nat → Nat) (wd : Nat → Nat → Nat) (N : Nat → Nat) (hR : md_R N wd) (x y z : Int32) : Met l y_Mod_add (Cond.code y_Mod_add b_Mod_add 7 (some .boolean) :: lw_T) ({ frames := 2, cells := 0, slots := 0, locals := 47 }) (va_Pc [.ref (ad 5), .int (x), .int (y), .int (z)] (md_B D ad cA sz ln wd)) (va_Qi (fun (r : Int32) (u : md_St) => r = (sp_add N x y z).1 ∧ md_R (sp_add N x y z).2 u.2) (md_E D ad cA sz) (md_A ad sz)) 0 0 (md_A ad sz) := by
  refine md_met l (by decide) (Nat.le_of_ble_eq_true rfl) ?_
  intro p e s m below meth c ls hsz hC hK hr hlk hM hl
  subst hsz
  have hC : CallFix p m c b_Mod_add 7 s _ lw_T R_Mod := hC
  have hl : lv_has ls 7 [(0, .ref (ad 5)), (1, .int (x)), (2, .int (y)), (3, .int (z))] := hl
  have hR0 := hR
  refine lv_iload_n hC.1 hC.2.1 d_Mod_add_0 rfl (lv_at hl 1 rfl) ?_
  refine md_callPi hC hK hM (As := [.int (x)]) (rest := []) (c_Mod_isRegister l _ x) kc_Mod_isRegister km_Mod_41 ki_Mod ks_Mod_isRegister kd_Mod_isRegister ⟨rfl, rfl⟩ ⟨Nat.le_of_ble_eq_true rfl, Nat.le_of_ble_eq_true rfl⟩ rfl hl.1 (Nat.le_of_ble_eq_true rfl) d_Mod_add_1 (fun r H locs hp hM => ?_)
  rcases hp with ⟨d, hd, rfl, rfl⟩ | ⟨hno, rfl⟩
  · refine nv_if_eq (tgt := 21) hC (by omega) d_Mod_add_4 (by decide) (fun hz => ?_) (fun hz => ?_)
    · exact absurd hz (by decide)
    · refine lv_iload_n hC.1 hC.2.1 d_Mod_add_7 rfl (lv_at hl 2 rfl) ?_
      refine md_callPi hC hK hM (As := [.int (y)]) (rest := []) (c_Mod_isRegister l _ y) kc_Mod_isRegister km_Mod_41 ki_Mod ks_Mod_isRegister kd_Mod_isRegister ⟨rfl, rfl⟩ ⟨Nat.le_of_ble_eq_true rfl, Nat.le_of_ble_eq_true rfl⟩ rfl hl.1 (Nat.le_of_ble_eq_true rfl) d_Mod_add_8 (fun r H locs hp hM => ?_)
      rcases hp with ⟨a, ha, rfl, rfl⟩ | ⟨hno, rfl⟩
      · refine nv_if_eq (tgt := 21) hC (by omega) d_Mod_add_11 (by decide) (fun hz => ?_) (fun hz => ?_)
        · exact absurd hz (by decide)
        · refine lv_iload_n hC.1 hC.2.1 d_Mod_add_14 rfl (lv_at hl 3 rfl) ?_
          refine md_callPi hC hK hM (As := [.int (z)]) (rest := []) (c_Mod_isRegister l _ z) kc_Mod_isRegister km_Mod_41 ki_Mod ks_Mod_isRegister kd_Mod_isRegister ⟨rfl, rfl⟩ ⟨Nat.le_of_ble_eq_true rfl, Nat.le_of_ble_eq_true rfl⟩ rfl hl.1 (Nat.le_of_ble_eq_true rfl) d_Mod_add_15 (fun r H locs hp hM => ?_)
          rcases hp with ⟨b, hb, rfl, rfl⟩ | ⟨hno, rfl⟩
          · refine nv_if_ne (tgt := 23) hC (by omega) d_Mod_add_18 (by decide) (fun hz => ?_) (fun hz => ?_)
            · refine lv_aload_n hC.1 hC.2.1 d_Mod_add_23 rfl (lv_at hl 0 rfl) ?_
              refine lv_iload_n hC.1 hC.2.1 d_Mod_add_24 rfl (lv_at hl 2 rfl) ?_
              refine md_callVv hC hK hM (As := [.int (nI (a))]) (rest := []) md_at_m rfl (c_Mod_loadX l D ad cA _ ln wd a _ ha (hR0 a ha)) kc_Mod_loadX km_Mod_45 ki_Mod kn_Mod_loadX ke_Mod_loadX kd_Mod_loadX ⟨rfl, rfl⟩ ⟨Nat.le_of_ble_eq_true rfl, Nat.le_of_ble_eq_true rfl⟩ rfl hl.1 (Nat.le_of_ble_eq_true rfl) d_Mod_add_25 (fun u1 H locs hp1 hM => ?_)
              obtain ⟨fx, hw1, hl1⟩ := hp1
              have hR1 := md_R_of hR0 (hw1 0 (by decide)) (hw1 1 (by decide))
              have ex : u1.1 0 = wd 1 a := by rw [hl1, va_up_self]
              have exb := (hR0 a ha).1
              refine lv_aload_n hC.1 hC.2.1 d_Mod_add_28 rfl (lv_at hl 0 rfl) ?_
              refine lv_iload_n hC.1 hC.2.1 d_Mod_add_29 rfl (lv_at hl 3 rfl) ?_
              refine md_callVv hC hK hM (As := [.int (nI (b))]) (rest := []) md_at_m rfl (c_Mod_loadY l D ad cA _ (u1.1) (u1.2) b _ hb (hR1 b hb)) kc_Mod_loadY km_Mod_58 ki_Mod kn_Mod_loadY ke_Mod_loadY kd_Mod_loadY ⟨rfl, rfl⟩ ⟨Nat.le_of_ble_eq_true rfl, Nat.le_of_ble_eq_true rfl⟩ rfl hl.1 (Nat.le_of_ble_eq_true rfl) d_Mod_add_30 (fun u2 H locs hp2 hM => ?_)
              obtain ⟨fy, hw2, hl2⟩ := hp2
              rw [← hw2 2 (by decide)] at fx
              have ex : u2.1 0 = wd 1 a := by rw [hl2, va_up_ne _ _ (by decide)]; exact ex
              have hR2 := md_R_of hR1 (hw2 0 (by decide)) (hw2 1 (by decide))
              have ey : u2.1 1 = (u1.2) 1 b := by rw [hl2, va_up_self]
              have eyb := (hR1 b hb).1
              refine lv_aload_n hC.1 hC.2.1 d_Mod_add_33 rfl (lv_at hl 0 rfl) ?_
              refine md_callVv hC hK hM (As := []) (rest := []) md_at_m rfl (c_Mod_clearZ l D ad cA _ (u2.1) (u2.2) ) kc_Mod_clearZ km_Mod_49 ki_Mod kn_Mod_clearZ ke_Mod_clearZ kd_Mod_clearZ ⟨rfl, rfl⟩ ⟨Nat.le_of_ble_eq_true rfl, Nat.le_of_ble_eq_true rfl⟩ rfl hl.1 (Nat.le_of_ble_eq_true rfl) d_Mod_add_34 (fun u3 H locs hp3 hM => ?_)
              obtain ⟨fz, hw3, hl3⟩ := hp3
              rw [← hw3 2 (by decide)] at fx
              rw [← hw3 3 (by decide)] at fy
              have ex : u3.1 0 = wd 1 a := by rw [hl3, va_up_ne _ _ (by decide)]; exact ex
              have ey : u3.1 1 = (u1.2) 1 b := by rw [hl3, va_up_ne _ _ (by decide)]; exact ey
              have hR3 := md_R_of hR2 (hw3 0 (by decide)) (hw3 1 (by decide))
              have ez : u3.1 2 = 0 := by rw [hl3, va_up_self]
              refine lv_iconst (v := nI 0) hC.1 hC.2.1 d_Mod_add_37 (by decide) ?_
              refine lv_istore (lv' := [(4, .int (nI (0))), (0, .ref (ad 5)), (1, .int (nI (d))), (2, .int (nI (a))), (3, .int (nI (b)))]) hC.1 hC.2.1 d_Mod_add_38 hl (by decide) rfl (fun ls hl => ?_)
              refine lv_iconst (v := nI 0) hC.1 hC.2.1 d_Mod_add_40 (by decide) ?_
              refine lv_istore (lv' := [(5, .int (nI (0))), (4, .int (nI (0))), (0, .ref (ad 5)), (1, .int (nI (d))), (2, .int (nI (a))), (3, .int (nI (b)))]) hC.1 hC.2.1 d_Mod_add_41 hl (by decide) rfl (fun ls hl => ?_)
              refine lp_Mod_add hC hK u3.1 u3.2 d fx.2.1 fy.2.1 (fun cy w hw hS hdz H locs ls hM hl => ?_) 4098 0 0 u3.2 (Nat.zero_le _) (Nat.zero_le _) (fun _ _ => rfl) (by rw [mv_0, mv_0, mv_0, Nat.zero_mul]) (fun q hq => by rw [fz q hq]; decide) (by omega) _ _ _ hM (lv_sub hl [2, 3, 1, 0] rfl)
              rw [mr_v fx (by omega) (by omega), mr_v fy (by omega) (by omega), Nat.pow_succ] at hS
              have hV := mv_cy0 hS (md_lt fx (by omega)) (md_lt fy (by omega))
              have hR4 := md_R_of hR3 (hw 0 (by decide)) (hw 1 (by decide))
              refine lv_aload_n hC.1 hC.2.1 d_Mod_add_96 rfl (lv_at hl 0 rfl) ?_
              refine lv_iload_n hC.1 hC.2.1 d_Mod_add_97 rfl (lv_at hl 1 rfl) ?_
              refine lv_aload_n hC.1 hC.2.1 d_Mod_add_98 rfl (lv_at hl 0 rfl) ?_
              refine md_f4 hC hK hM kf_Mod_23 d_Mod_add_99 ?_
              refine lv_sipush (v := nI 4097) hC.1 hC.2.1 d_Mod_add_102 (by decide) ?_
              refine md_callVi hC hK hM (As := [.int (nI (d)), .ref (ad 4), .int (nI (4097))]) (rest := []) md_at_m rfl (c_Mod_put l D ad cA _ (u3.1) w N d 4 _ (N a + N b) hR4 hd (by decide) (by decide) hdz hV) kc_Mod_put km_Mod_54 ki_Mod kn_Mod_put ke_Mod_put kd_Mod_put ⟨rfl, rfl⟩ ⟨Nat.le_of_ble_eq_true rfl, Nat.le_of_ble_eq_true rfl⟩ rfl hl.1 (Nat.le_of_ble_eq_true rfl) d_Mod_add_105 (fun rk uk H locs hpk hM => ?_)
              exact md_zret hC hK hM hr hlk (md_kn hpk.1) (by simp only [sp_add, sp_3, sp_ix_ok hd, sp_ix_ok ha, sp_ix_ok hb]; exact ⟨hpk.1, hpk.2.1⟩) d_Mod_add_108
            · exact absurd hz (by decide)
          · refine nv_if_ne (tgt := 23) hC (by omega) d_Mod_add_18 (by decide) (fun hz => ?_) (fun hz => ?_)
            · exact absurd rfl hz
            · refine lv_iconst (v := nI 0) hC.1 hC.2.1 d_Mod_add_21 (by decide) ?_
              exact md_zret hC hK hM hr hlk rfl ⟨by simp only [sp_add, sp_3, sp_no, sp_ix_ok hd, sp_ix_ok ha, sp_ix_no hno], by simp only [sp_add, sp_3, sp_no, sp_ix_ok hd, sp_ix_ok ha, sp_ix_no hno]; exact hR⟩ d_Mod_add_22
      · refine nv_if_eq (tgt := 21) hC (by omega) d_Mod_add_11 (by decide) (fun hz => ?_) (fun hz => ?_)
        · refine lv_iconst (v := nI 0) hC.1 hC.2.1 d_Mod_add_21 (by decide) ?_
          exact md_zret hC hK hM hr hlk rfl ⟨by simp only [sp_add, sp_3, sp_no, sp_ix_ok hd, sp_ix_no hno], by simp only [sp_add, sp_3, sp_no, sp_ix_ok hd, sp_ix_no hno]; exact hR⟩ d_Mod_add_22
        · exact absurd rfl hz
  · refine nv_if_eq (tgt := 21) hC (by omega) d_Mod_add_4 (by decide) (fun hz => ?_) (fun hz => ?_)
    · refine lv_iconst (v := nI 0) hC.1 hC.2.1 d_Mod_add_21 (by decide) ?_
      exact md_zret hC hK hM hr hlk rfl ⟨by simp only [sp_add, sp_3, sp_no, sp_ix_no hno], by simp only [sp_add, sp_3, sp_no, sp_ix_no hno]; exact hR⟩ d_Mod_add_22
    · exact absurd rfl hz
set_option maxHeartbeats 4000000 in
set_option maxRecDepth 100000 in
theorem c_Mod_take (l : Launch) (D : va_G) (ad : Nat → Nat) (cA : ClassId) (sz : Nat) (ln : Nat → Nat) (wd : Nat → Nat → Nat) (N : Nat → Nat) (hR : md_R N wd) (x y z : Int32) : Met l y_Mod_take (Cond.code y_Mod_take b_Mod_take 4 (some .boolean) :: lw_T) ({ frames := 2, cells := 0, slots := 0, locals := 48 }) (va_Pc [.ref (ad 5), .int (x), .int (y), .int (z)] (md_B D ad cA sz ln wd)) (va_Qi (fun (r : Int32) (u : md_St) => r = (sp_take N x y z).1 ∧ md_R (sp_take N x y z).2 u.2) (md_E D ad cA sz) (md_A ad sz)) 0 0 (md_A ad sz) := by
  refine md_met l (by decide) (Nat.le_of_ble_eq_true rfl) ?_
  intro p e s m below meth c ls hsz hC hK hr hlk hM hl
  subst hsz
  have hC : CallFix p m c b_Mod_take 4 s _ lw_T R_Mod := hC
  have hl : lv_has ls 4 [(0, .ref (ad 5)), (1, .int (x)), (2, .int (y)), (3, .int (z))] := hl
  have hR0 := hR
  refine lv_iload_n hC.1 hC.2.1 d_Mod_take_0 rfl (lv_at hl 1 rfl) ?_
  refine md_callPi hC hK hM (As := [.int (x)]) (rest := []) (c_Mod_isRegister l _ x) kc_Mod_isRegister km_Mod_41 ki_Mod ks_Mod_isRegister kd_Mod_isRegister ⟨rfl, rfl⟩ ⟨Nat.le_of_ble_eq_true rfl, Nat.le_of_ble_eq_true rfl⟩ rfl hl.1 (Nat.le_of_ble_eq_true rfl) d_Mod_take_1 (fun r H locs hp hM => ?_)
  rcases hp with ⟨d, hd, rfl, rfl⟩ | ⟨hno, rfl⟩
  · refine nv_if_eq (tgt := 21) hC (by omega) d_Mod_take_4 (by decide) (fun hz => ?_) (fun hz => ?_)
    · exact absurd hz (by decide)
    · refine lv_iload_n hC.1 hC.2.1 d_Mod_take_7 rfl (lv_at hl 2 rfl) ?_
      refine md_callPi hC hK hM (As := [.int (y)]) (rest := []) (c_Mod_isRegister l _ y) kc_Mod_isRegister km_Mod_41 ki_Mod ks_Mod_isRegister kd_Mod_isRegister ⟨rfl, rfl⟩ ⟨Nat.le_of_ble_eq_true rfl, Nat.le_of_ble_eq_true rfl⟩ rfl hl.1 (Nat.le_of_ble_eq_true rfl) d_Mod_take_8 (fun r H locs hp hM => ?_)
      rcases hp with ⟨a, ha, rfl, rfl⟩ | ⟨hno, rfl⟩
      · refine nv_if_eq (tgt := 21) hC (by omega) d_Mod_take_11 (by decide) (fun hz => ?_) (fun hz => ?_)
        · exact absurd hz (by decide)
        · refine lv_iload_n hC.1 hC.2.1 d_Mod_take_14 rfl (lv_at hl 3 rfl) ?_
          refine md_callPi hC hK hM (As := [.int (z)]) (rest := []) (c_Mod_isRegister l _ z) kc_Mod_isRegister km_Mod_41 ki_Mod ks_Mod_isRegister kd_Mod_isRegister ⟨rfl, rfl⟩ ⟨Nat.le_of_ble_eq_true rfl, Nat.le_of_ble_eq_true rfl⟩ rfl hl.1 (Nat.le_of_ble_eq_true rfl) d_Mod_take_15 (fun r H locs hp hM => ?_)
          rcases hp with ⟨b, hb, rfl, rfl⟩ | ⟨hno, rfl⟩
          · refine nv_if_ne (tgt := 23) hC (by omega) d_Mod_take_18 (by decide) (fun hz => ?_) (fun hz => ?_)
            · refine lv_aload_n hC.1 hC.2.1 d_Mod_take_23 rfl (lv_at hl 0 rfl) ?_
              refine lv_iload_n hC.1 hC.2.1 d_Mod_take_24 rfl (lv_at hl 2 rfl) ?_
              refine md_callVv hC hK hM (As := [.int (nI (a))]) (rest := []) md_at_m rfl (c_Mod_loadX l D ad cA _ ln wd a _ ha (hR0 a ha)) kc_Mod_loadX km_Mod_45 ki_Mod kn_Mod_loadX ke_Mod_loadX kd_Mod_loadX ⟨rfl, rfl⟩ ⟨Nat.le_of_ble_eq_true rfl, Nat.le_of_ble_eq_true rfl⟩ rfl hl.1 (Nat.le_of_ble_eq_true rfl) d_Mod_take_25 (fun u1 H locs hp1 hM => ?_)
              obtain ⟨fx, hw1, hl1⟩ := hp1
              have hR1 := md_R_of hR0 (hw1 0 (by decide)) (hw1 1 (by decide))
              have ex : u1.1 0 = wd 1 a := by rw [hl1, va_up_self]
              have exb := (hR0 a ha).1
              refine lv_aload_n hC.1 hC.2.1 d_Mod_take_28 rfl (lv_at hl 0 rfl) ?_
              refine lv_iload_n hC.1 hC.2.1 d_Mod_take_29 rfl (lv_at hl 3 rfl) ?_
              refine md_callVv hC hK hM (As := [.int (nI (b))]) (rest := []) md_at_m rfl (c_Mod_loadY l D ad cA _ (u1.1) (u1.2) b _ hb (hR1 b hb)) kc_Mod_loadY km_Mod_58 ki_Mod kn_Mod_loadY ke_Mod_loadY kd_Mod_loadY ⟨rfl, rfl⟩ ⟨Nat.le_of_ble_eq_true rfl, Nat.le_of_ble_eq_true rfl⟩ rfl hl.1 (Nat.le_of_ble_eq_true rfl) d_Mod_take_30 (fun u2 H locs hp2 hM => ?_)
              obtain ⟨fy, hw2, hl2⟩ := hp2
              rw [← hw2 2 (by decide)] at fx
              have ex : u2.1 0 = wd 1 a := by rw [hl2, va_up_ne _ _ (by decide)]; exact ex
              have hR2 := md_R_of hR1 (hw2 0 (by decide)) (hw2 1 (by decide))
              have ey : u2.1 1 = (u1.2) 1 b := by rw [hl2, va_up_self]
              have eyb := (hR1 b hb).1
              refine lv_aload_n hC.1 hC.2.1 d_Mod_take_33 rfl (lv_at hl 0 rfl) ?_
              refine md_f2 hC hK hM kf_Mod_17 d_Mod_take_34 ?_
              refine lv_aload_n hC.1 hC.2.1 d_Mod_take_37 rfl (lv_at hl 0 rfl) ?_
              refine md_n0 hC hK hM kf_Mod_26 d_Mod_take_38 ?_
              refine nv_top (y := nI (wd 1 a)) (by rw [ex]) ?_
              refine lv_aload_n hC.1 hC.2.1 d_Mod_take_41 rfl (lv_at hl 0 rfl) ?_
              refine md_f3 hC hK hM kf_Mod_20 d_Mod_take_42 ?_
              refine lv_aload_n hC.1 hC.2.1 d_Mod_take_45 rfl (lv_at hl 0 rfl) ?_
              refine md_n1 hC hK hM kf_Mod_30 d_Mod_take_46 ?_
              refine nv_top (y := nI ((u1.2) 1 b)) (by rw [ey]) ?_
              refine md_callSi hC hK hM (As := [.ref (ad 2), .int (nI (wd 1 a)), .ref (ad 3), .int (nI ((u1.2) 1 b))]) (rest := []) (c_Mod_compareRows l D ad cA _ (u2.1) (u2.2) 2 _ 3 _ (N a) (N b) (by decide) (by decide) fx fy) kc_Mod_compareRows km_Mod_61 ki_Mod ks_Mod_compareRows kd_Mod_compareRows ⟨rfl, rfl⟩ ⟨Nat.le_of_ble_eq_true rfl, Nat.le_of_ble_eq_true rfl⟩ rfl hl.1 (Nat.le_of_ble_eq_true rfl) d_Mod_take_49 (fun r u H locs hp hM => ?_)
              obtain ⟨hr0, rfl⟩ := hp
              have hM : md_M D ad cA s (u2.1) (u2.2) H locs := by
                exact hM
              refine lv_if_ge (tgt := 57) hC.1 hC.2.1 d_Mod_take_52 (by decide) (fun hs => ?_) (fun hs => ?_)
              · have hle : N b ≤ N a := by
                  rcases Nat.lt_or_ge (N a) (N b) with z | z
                  · rw [hr0, wm_ord_lt z] at hs; exact absurd hs (by decide)
                  · exact z
                refine lv_aload_n hC.1 hC.2.1 d_Mod_take_57 rfl (lv_at hl 0 rfl) ?_
                refine lv_aload_n hC.1 hC.2.1 d_Mod_take_58 rfl (lv_at hl 0 rfl) ?_
                refine md_f2 hC hK hM kf_Mod_17 d_Mod_take_59 ?_
                refine lv_aload_n hC.1 hC.2.1 d_Mod_take_62 rfl (lv_at hl 0 rfl) ?_
                refine md_n0 hC hK hM kf_Mod_26 d_Mod_take_63 ?_
                refine nv_top (y := nI (wd 1 a)) (by rw [ex]) ?_
                refine lv_aload_n hC.1 hC.2.1 d_Mod_take_66 rfl (lv_at hl 0 rfl) ?_
                refine md_f3 hC hK hM kf_Mod_20 d_Mod_take_67 ?_
                refine lv_aload_n hC.1 hC.2.1 d_Mod_take_70 rfl (lv_at hl 0 rfl) ?_
                refine md_n1 hC hK hM kf_Mod_30 d_Mod_take_71 ?_
                refine nv_top (y := nI ((u1.2) 1 b)) (by rw [ey]) ?_
                refine md_callSi hC hK hM (As := [.ref (ad 2), .int (nI (wd 1 a)), .ref (ad 3), .int (nI ((u1.2) 1 b))]) (rest := [.ref (ad 5)]) (c_Mod_lessen l D ad cA _ (u2.1) (u2.2) 2 _ 3 _ (N a) (N b) (by decide) (by decide) (by decide) fx fy hle) kc_Mod_lessen km_Mod_65 ki_Mod ks_Mod_lessen kd_Mod_lessen ⟨rfl, rfl⟩ ⟨Nat.le_of_ble_eq_true rfl, Nat.le_of_ble_eq_true rfl⟩ rfl hl.1 (Nat.le_of_ble_eq_true rfl) d_Mod_take_74 (fun r u3 H locs hp3 hM => ?_)
                obtain ⟨t, rfl, fx3, hw3, hl3, ht3⟩ := hp3
                rw [← hw3 3 (by decide)] at fy
                have ex : u3.1 0 = wd 1 a := by rw [hl3]; exact ex
                have ey : u3.1 1 = (u1.2) 1 b := by rw [hl3]; exact ey
                have hR3 := md_R_of hR2 (hw3 0 (by decide)) (hw3 1 (by decide))
                refine md_p0 hC hK hM kf_Mod_26 d_Mod_take_77 (fun H locs hM => ?_)
                refine lv_aload_n hC.1 hC.2.1 d_Mod_take_80 rfl (lv_at hl 0 rfl) ?_
                refine lv_iload_n hC.1 hC.2.1 d_Mod_take_81 rfl (lv_at hl 1 rfl) ?_
                refine lv_aload_n hC.1 hC.2.1 d_Mod_take_82 rfl (lv_at hl 0 rfl) ?_
                refine md_f2 hC hK hM kf_Mod_17 d_Mod_take_83 ?_
                refine lv_aload_n hC.1 hC.2.1 d_Mod_take_86 rfl (lv_at hl 0 rfl) ?_
                refine md_n0 hC hK hM kf_Mod_26 d_Mod_take_87 ?_
                refine nv_top (y := nI (t)) (by rw [va_up_self]) ?_
                refine md_callVi hC hK hM (As := [.int (nI (d)), .ref (ad 2), .int (nI (t))]) (rest := []) md_at_m rfl (c_Mod_put l D ad cA _ (va_up (u3.1) 0 t) (u3.2) N d 2 _ (N a - N b) hR3 hd (by decide) fx3.1 fx3.2.1 fx3.2.2.2.2) kc_Mod_put km_Mod_54 ki_Mod kn_Mod_put ke_Mod_put kd_Mod_put ⟨rfl, rfl⟩ ⟨Nat.le_of_ble_eq_true rfl, Nat.le_of_ble_eq_true rfl⟩ rfl hl.1 (Nat.le_of_ble_eq_true rfl) d_Mod_take_90 (fun rk uk H locs hpk hM => ?_)
                exact md_zret hC hK hM hr hlk (md_kn hpk.1) (by simp only [sp_take, sp_3, sp_ix_ok hd, sp_ix_ok ha, sp_ix_ok hb]; rw [if_neg (Nat.not_lt.mpr hle)]; rw [sp_putv, if_pos (Nat.lt_of_le_of_lt (Nat.sub_le _ _) (md_R_L hR ha))] at hpk; exact ⟨hpk.1, hpk.2.1⟩) d_Mod_take_93
              · have hlt : N a < N b := by
                  rcases Nat.lt_trichotomy (N a) (N b) with z | z | z
                  · exact z
                  · rw [hr0, wm_ord_eq z] at hs; exact absurd (show (0 : Int32) ≤ 0 by decide) hs
                  · rw [hr0, wm_ord_gt z] at hs; exact absurd (show (0 : Int32) ≤ 1 by decide) hs
                refine lv_iconst (v := nI 0) hC.1 hC.2.1 d_Mod_take_55 (by decide) ?_
                exact md_zret hC hK hM hr hlk rfl ⟨by simp only [sp_take, sp_3, sp_ix_ok hd, sp_ix_ok ha, sp_ix_ok hb]; rw [if_pos hlt]; rfl, by simp only [sp_take, sp_3, sp_ix_ok hd, sp_ix_ok ha, sp_ix_ok hb]; rw [if_pos hlt]; exact hR2⟩ d_Mod_take_56
            · exact absurd hz (by decide)
          · refine nv_if_ne (tgt := 23) hC (by omega) d_Mod_take_18 (by decide) (fun hz => ?_) (fun hz => ?_)
            · exact absurd rfl hz
            · refine lv_iconst (v := nI 0) hC.1 hC.2.1 d_Mod_take_21 (by decide) ?_
              exact md_zret hC hK hM hr hlk rfl ⟨by simp only [sp_take, sp_3, sp_no, sp_ix_ok hd, sp_ix_ok ha, sp_ix_no hno], by simp only [sp_take, sp_3, sp_no, sp_ix_ok hd, sp_ix_ok ha, sp_ix_no hno]; exact hR⟩ d_Mod_take_22
      · refine nv_if_eq (tgt := 21) hC (by omega) d_Mod_take_11 (by decide) (fun hz => ?_) (fun hz => ?_)
        · refine lv_iconst (v := nI 0) hC.1 hC.2.1 d_Mod_take_21 (by decide) ?_
          exact md_zret hC hK hM hr hlk rfl ⟨by simp only [sp_take, sp_3, sp_no, sp_ix_ok hd, sp_ix_no hno], by simp only [sp_take, sp_3, sp_no, sp_ix_ok hd, sp_ix_no hno]; exact hR⟩ d_Mod_take_22
        · exact absurd rfl hz
  · refine nv_if_eq (tgt := 21) hC (by omega) d_Mod_take_4 (by decide) (fun hz => ?_) (fun hz => ?_)
    · refine lv_iconst (v := nI 0) hC.1 hC.2.1 d_Mod_take_21 (by decide) ?_
      exact md_zret hC hK hM hr hlk rfl ⟨by simp only [sp_take, sp_3, sp_no, sp_ix_no hno], by simp only [sp_take, sp_3, sp_no, sp_ix_no hno]; exact hR⟩ d_Mod_take_22
    · exact absurd rfl hz
set_option maxHeartbeats 4000000 in
set_option maxRecDepth 100000 in
theorem c_Mod_compare (l : Launch) (D : va_G) (ad : Nat → Nat) (cA : ClassId) (sz : Nat) (ln : Nat → Nat) (wd : Nat → Nat → Nat) (N : Nat → Nat) (hR : md_R N wd) (x y : Int32) : Met l y_Mod_compare (Cond.code y_Mod_compare b_Mod_compare 3 (some .int) :: lw_T) ({ frames := 1, cells := 0, slots := 0, locals := 24 }) (va_Pc [.ref (ad 5), .int (x), .int (y)] (md_B D ad cA sz ln wd)) (va_Qi (fun (r : Int32) (u : md_St) => r = sp_compare N x y ∧ md_R N u.2) (md_E D ad cA sz) (md_A ad sz)) 0 0 (md_A ad sz) := by
  refine md_met l (by decide) (Nat.le_of_ble_eq_true rfl) ?_
  intro p e s m below meth c ls hsz hC hK hr hlk hM hl
  subst hsz
  have hC : CallFix p m c b_Mod_compare 3 s _ lw_T R_Mod := hC
  have hl : lv_has ls 3 [(0, .ref (ad 5)), (1, .int (x)), (2, .int (y))] := hl
  have hR0 := hR
  refine lv_iload_n hC.1 hC.2.1 d_Mod_compare_0 rfl (lv_at hl 1 rfl) ?_
  refine md_callPi hC hK hM (As := [.int (x)]) (rest := []) (c_Mod_isRegister l _ x) kc_Mod_isRegister km_Mod_41 ki_Mod ks_Mod_isRegister kd_Mod_isRegister ⟨rfl, rfl⟩ ⟨Nat.le_of_ble_eq_true rfl, Nat.le_of_ble_eq_true rfl⟩ rfl hl.1 (Nat.le_of_ble_eq_true rfl) d_Mod_compare_1 (fun r H locs hp hM => ?_)
  rcases hp with ⟨a, ha, rfl, rfl⟩ | ⟨hno, rfl⟩
  · refine nv_if_eq (tgt := 14) hC (by omega) d_Mod_compare_4 (by decide) (fun hz => ?_) (fun hz => ?_)
    · exact absurd hz (by decide)
    · refine lv_iload_n hC.1 hC.2.1 d_Mod_compare_7 rfl (lv_at hl 2 rfl) ?_
      refine md_callPi hC hK hM (As := [.int (y)]) (rest := []) (c_Mod_isRegister l _ y) kc_Mod_isRegister km_Mod_41 ki_Mod ks_Mod_isRegister kd_Mod_isRegister ⟨rfl, rfl⟩ ⟨Nat.le_of_ble_eq_true rfl, Nat.le_of_ble_eq_true rfl⟩ rfl hl.1 (Nat.le_of_ble_eq_true rfl) d_Mod_compare_8 (fun r H locs hp hM => ?_)
      rcases hp with ⟨b, hb, rfl, rfl⟩ | ⟨hno, rfl⟩
      · refine nv_if_ne (tgt := 17) hC (by omega) d_Mod_compare_11 (by decide) (fun hz => ?_) (fun hz => ?_)
        · refine lv_aload_n hC.1 hC.2.1 d_Mod_compare_17 rfl (lv_at hl 0 rfl) ?_
          refine lv_iload_n hC.1 hC.2.1 d_Mod_compare_18 rfl (lv_at hl 1 rfl) ?_
          refine md_callVv hC hK hM (As := [.int (nI (a))]) (rest := []) md_at_m rfl (c_Mod_loadX l D ad cA _ ln wd a _ ha (hR0 a ha)) kc_Mod_loadX km_Mod_45 ki_Mod kn_Mod_loadX ke_Mod_loadX kd_Mod_loadX ⟨rfl, rfl⟩ ⟨Nat.le_of_ble_eq_true rfl, Nat.le_of_ble_eq_true rfl⟩ rfl hl.1 (Nat.le_of_ble_eq_true rfl) d_Mod_compare_19 (fun u1 H locs hp1 hM => ?_)
          obtain ⟨fx, hw1, hl1⟩ := hp1
          have hR1 := md_R_of hR0 (hw1 0 (by decide)) (hw1 1 (by decide))
          have ex : u1.1 0 = wd 1 a := by rw [hl1, va_up_self]
          have exb := (hR0 a ha).1
          refine lv_aload_n hC.1 hC.2.1 d_Mod_compare_22 rfl (lv_at hl 0 rfl) ?_
          refine lv_iload_n hC.1 hC.2.1 d_Mod_compare_23 rfl (lv_at hl 2 rfl) ?_
          refine md_callVv hC hK hM (As := [.int (nI (b))]) (rest := []) md_at_m rfl (c_Mod_loadY l D ad cA _ (u1.1) (u1.2) b _ hb (hR1 b hb)) kc_Mod_loadY km_Mod_58 ki_Mod kn_Mod_loadY ke_Mod_loadY kd_Mod_loadY ⟨rfl, rfl⟩ ⟨Nat.le_of_ble_eq_true rfl, Nat.le_of_ble_eq_true rfl⟩ rfl hl.1 (Nat.le_of_ble_eq_true rfl) d_Mod_compare_24 (fun u2 H locs hp2 hM => ?_)
          obtain ⟨fy, hw2, hl2⟩ := hp2
          rw [← hw2 2 (by decide)] at fx
          have ex : u2.1 0 = wd 1 a := by rw [hl2, va_up_ne _ _ (by decide)]; exact ex
          have hR2 := md_R_of hR1 (hw2 0 (by decide)) (hw2 1 (by decide))
          have ey : u2.1 1 = (u1.2) 1 b := by rw [hl2, va_up_self]
          have eyb := (hR1 b hb).1
          refine lv_aload_n hC.1 hC.2.1 d_Mod_compare_27 rfl (lv_at hl 0 rfl) ?_
          refine md_f2 hC hK hM kf_Mod_17 d_Mod_compare_28 ?_
          refine lv_aload_n hC.1 hC.2.1 d_Mod_compare_31 rfl (lv_at hl 0 rfl) ?_
          refine md_n0 hC hK hM kf_Mod_26 d_Mod_compare_32 ?_
          refine nv_top (y := nI (wd 1 a)) (by rw [ex]) ?_
          refine lv_aload_n hC.1 hC.2.1 d_Mod_compare_35 rfl (lv_at hl 0 rfl) ?_
          refine md_f3 hC hK hM kf_Mod_20 d_Mod_compare_36 ?_
          refine lv_aload_n hC.1 hC.2.1 d_Mod_compare_39 rfl (lv_at hl 0 rfl) ?_
          refine md_n1 hC hK hM kf_Mod_30 d_Mod_compare_40 ?_
          refine nv_top (y := nI ((u1.2) 1 b)) (by rw [ey]) ?_
          refine md_callSi hC hK hM (As := [.ref (ad 2), .int (nI (wd 1 a)), .ref (ad 3), .int (nI ((u1.2) 1 b))]) (rest := []) (c_Mod_compareRows l D ad cA _ (u2.1) (u2.2) 2 _ 3 _ (N a) (N b) (by decide) (by decide) fx fy) kc_Mod_compareRows km_Mod_61 ki_Mod ks_Mod_compareRows kd_Mod_compareRows ⟨rfl, rfl⟩ ⟨Nat.le_of_ble_eq_true rfl, Nat.le_of_ble_eq_true rfl⟩ rfl hl.1 (Nat.le_of_ble_eq_true rfl) d_Mod_compare_43 (fun r u H locs hp hM => ?_)
          obtain ⟨hr0, rfl⟩ := hp
          have hM : md_M D ad cA s (u2.1) (u2.2) H locs := by
            exact hM
          exact md_iret hC hK hM hr hlk ⟨by simp only [sp_compare, sp_ix_ok ha, sp_ix_ok hb]; exact hr0, hR2⟩ d_Mod_compare_46
        · exact absurd hz (by decide)
      · refine nv_if_ne (tgt := 17) hC (by omega) d_Mod_compare_11 (by decide) (fun hz => ?_) (fun hz => ?_)
        · exact absurd rfl hz
        · refine lv_bipush (v := -2) hC.1 hC.2.1 d_Mod_compare_14 (by decide) ?_
          exact md_iret hC hK hM hr hlk ⟨by simp only [sp_compare, sp_ix_ok ha, sp_ix_no hno] <;> rfl, hR⟩ d_Mod_compare_16
  · refine nv_if_eq (tgt := 14) hC (by omega) d_Mod_compare_4 (by decide) (fun hz => ?_) (fun hz => ?_)
    · refine lv_bipush (v := -2) hC.1 hC.2.1 d_Mod_compare_14 (by decide) ?_
      exact md_iret hC hK hM hr hlk ⟨by simp only [sp_compare, sp_ix_no hno] <;> rfl, hR⟩ d_Mod_compare_16
    · exact absurd rfl hz
