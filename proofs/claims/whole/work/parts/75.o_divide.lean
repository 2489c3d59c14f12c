set_option maxHeartbeats 4000000 in
set_option maxRecDepth 100000 in
theorem lp_Mod_divide {p : Program} {l : Launch} {e : Env} {s : State} {m : MethodId} {args : Array Value} {below : List Frame} {meth : Method} {c : Code} {Q : State → Prop} {D : va_G} {ad : Nat → Nat} {cA : ClassId} (hC : CallFix p m c b_Mod_divide 8 s args lw_T R_Mod) (hK : va_K D classes (md_ty cA) s) (N : Nat → Nat) (q0 r0 n1 m1 A B : Nat) (hn1 : n1 ≤ 4096) (hBL : B < 65536 ^ 4096)
    (hex : ∀ (lnv : Nat → Nat) (w : Nat → Nat → Nat) (Qv Rv t : Nat), (md_R N w) → (mr_r 8200 (w 4) t Rv) → (lnv 2 = t) → (mv_d (w 2) 8200) → (mv_v (w 2) n1 = Qv) → (A / 2 ^ 0 = Qv * B + Rv) → (Rv < B) → ∀ (H : Heap) (locs : List Loc) (ls : Array Slot), md_M D ad cA s (lnv) (w) H locs → lv_has ls 8 [(0, .ref (ad 5)), (1, .int (nI (q0))), (2, .int (nI (r0))), (5, .int (nI (n1)))] → W p l e ({ frames := 2, cells := 0, slots := 0, locals := 48 }) s m args below meth c H locs 0 0 Q (F0 m 213 ls [])) :
    ∀ (n : Nat) (x : Nat) (lnv : Nat → Nat) (w : Nat → Nat → Nat) (Qv : Nat) (Rv : Nat) (t : Nat), (x ≤ 16 * n1) → (md_R N w) → (mr_r 8200 (w 3) m1 B) → (mr_r 8200 (w 4) t Rv) → (lnv 1 = m1) → (lnv 2 = t) → (mv_d (w 2) 8200) → (mv_v (w 2) n1 = Qv * 2 ^ x + A % 2 ^ x) → (A / 2 ^ x = Qv * B + Rv) → (Rv < B) → x + 1 ≤ n → ∀ (H : Heap) (locs : List Loc) (ls : Array Slot), md_M D ad cA s (lnv) (w) H locs → lv_has ls 8 [(0, .ref (ad 5)), (1, .int (nI (q0))), (2, .int (nI (r0))), (5, .int (nI (n1))), (6, .int (nI (x) + (-1)))] → W p l e ({ frames := 2, cells := 0, slots := 0, locals := 48 }) s m args below meth c H locs 0 0 Q (F0 m 76 ls []) := by
  intro n
  induction n with
  | zero =>
    intro x lnv w Qv Rv t hx hR fy fz ey ez dx hV hA hRB hn
    exact absurd hn (by omega)
  | succ n ih =>
    intro x lnv w Qv Rv t hx hR fy fz ey ez dx hV hA hRB hn H locs ls hM hl
    have hR0 := hR
    have ht : t ≤ 4096 := mr_le fz (Nat.lt_trans hRB hBL)
    have hm1 := fy.1
    refine lv_iload hC.1 hC.2.1 d_Mod_divide_76 (lv_at hl 4 rfl) ?_
    refine nv_down_lt (tgt := 213) hC (by omega) d_Mod_divide_78 (by decide) (fun hz => ?_) (fun y hy => ?_)
    · subst hz
      exact hex lnv w Qv Rv t hR fz ez dx (by rw [hV, Nat.pow_zero, Nat.mul_one, Nat.mod_one, Nat.add_zero]) hA hRB H locs ls hM (lv_sub hl [0, 1, 2, 3] rfl)
    · subst hy
      have hl : lv_has ls 8 [(0, .ref (ad 5)), (1, .int (nI (q0))), (2, .int (nI (r0))), (5, .int (nI (n1))), (6, .int (nI (y)))] := by rw [pk_m1] at hl; exact hl
      have hy16 : y / 16 < n1 := by omega
      have hs : y % 16 < 16 := Nat.mod_lt _ (by decide)
      have hdd := dx (y / 16) (by omega)
      obtain ⟨b, hb⟩ : ∃ z, z = A / 2 ^ y % 2 := ⟨_, rfl⟩
      have hb2 : b < 2 := by rw [hb]; exact Nat.mod_lt _ (by decide)
      have hdn : mv_d (w 2) n1 := fun q hq => dx q (by omega)
      have hbit : w 2 (y / 16) / 2 ^ (y % 16) % 2 = b := by rw [hb, ← mv_bit hdn hy16, hV, md_dbit]
      refine lv_aload_n hC.1 hC.2.1 d_Mod_divide_81 rfl (lv_at hl 0 rfl) ?_
      refine lv_aload_n hC.1 hC.2.1 d_Mod_divide_82 rfl (lv_at hl 0 rfl) ?_
      refine md_f4 hC hK hM kf_Mod_23 d_Mod_divide_83 ?_
      refine lv_aload_n hC.1 hC.2.1 d_Mod_divide_86 rfl (lv_at hl 0 rfl) ?_
      refine md_n2 hC hK hM kf_Mod_33 d_Mod_divide_87 ?_
      refine nv_top (y := nI (t)) (by rw [ez]) ?_
      refine lv_aload_n hC.1 hC.2.1 d_Mod_divide_90 rfl (lv_at hl 0 rfl) ?_
      refine md_f2 hC hK hM kf_Mod_17 d_Mod_divide_91 ?_
      refine lv_iload hC.1 hC.2.1 d_Mod_divide_94 (lv_at hl 4 rfl) ?_
      refine md_callSi hC hK hM (As := [.ref (ad 2), .int (nI (y))]) (rest := [.int (nI (t)), .ref (ad 4), .ref (ad 5)]) (c_Mod_bitOf l D ad cA _ lnv w 2 y (by decide) (by omega) dx) kc_Mod_bitOf km_Mod_68 ki_Mod ks_Mod_bitOf kd_Mod_bitOf ⟨rfl, rfl⟩ ⟨Nat.le_of_ble_eq_true rfl, Nat.le_of_ble_eq_true rfl⟩ rfl hl.1 (Nat.le_of_ble_eq_true rfl) d_Mod_divide_96 (fun r u H locs hp hM => ?_)
      obtain ⟨rfl, rfl⟩ := hp
      have hM : md_M D ad cA s (lnv) (w) H locs := by
        exact hM
      refine nv_top (y := nI (b)) (congrArg nI hbit) ?_
      refine md_callSi hC hK hM (As := [.ref (ad 4), .int (nI (t)), .int (nI (b))]) (rest := [.ref (ad 5)]) (c_Mod_twice l D ad cA _ lnv w 4 t b Rv (by decide) (by omega) hb2 fz) kc_Mod_twice km_Mod_71 ki_Mod ks_Mod_twice kd_Mod_twice ⟨rfl, rfl⟩ ⟨Nat.le_of_ble_eq_true rfl, Nat.le_of_ble_eq_true rfl⟩ rfl hl.1 (Nat.le_of_ble_eq_true rfl) d_Mod_divide_99 (fun r u1 H locs hp1 hM => ?_)
      obtain ⟨t1, rfl, ht1, fz1, hw1, hl1⟩ := hp1
      rw [← hw1 3 (by decide)] at fy
      have ey : u1.1 1 = m1 := by rw [hl1]; exact ey
      have hR1 := md_R_of hR0 (hw1 0 (by decide)) (hw1 1 (by decide))
      refine md_p2 hC hK hM kf_Mod_33 d_Mod_divide_102 (fun H locs hM => ?_)
      refine lv_aload_n hC.1 hC.2.1 d_Mod_divide_105 rfl (lv_at hl 0 rfl) ?_
      refine md_f4 hC hK hM kf_Mod_23 d_Mod_divide_106 ?_
      refine lv_aload_n hC.1 hC.2.1 d_Mod_divide_109 rfl (lv_at hl 0 rfl) ?_
      refine md_n2 hC hK hM kf_Mod_33 d_Mod_divide_110 ?_
      refine nv_top (y := nI (t1)) (by rw [va_up_self]) ?_
      refine lv_aload_n hC.1 hC.2.1 d_Mod_divide_113 rfl (lv_at hl 0 rfl) ?_
      refine md_f3 hC hK hM kf_Mod_20 d_Mod_divide_114 ?_
      refine lv_aload_n hC.1 hC.2.1 d_Mod_divide_117 rfl (lv_at hl 0 rfl) ?_
      refine md_n1 hC hK hM kf_Mod_30 d_Mod_divide_118 ?_
      refine nv_top (y := nI ((u1.1) 1)) (by rw [va_up_ne _ _ (by decide)]) ?_
      refine nv_top (y := nI (m1)) (by rw [ey]) ?_
      refine md_callSi hC hK hM (As := [.ref (ad 4), .int (nI (t1)), .ref (ad 3), .int (nI (m1))]) (rest := []) (c_Mod_compareRows l D ad cA _ (va_up (u1.1) 2 t1) (u1.2) 4 t1 3 m1 (2 * Rv + b) B (by decide) (by decide) fz1 fy) kc_Mod_compareRows km_Mod_61 ki_Mod ks_Mod_compareRows kd_Mod_compareRows ⟨rfl, rfl⟩ ⟨Nat.le_of_ble_eq_true rfl, Nat.le_of_ble_eq_true rfl⟩ rfl hl.1 (Nat.le_of_ble_eq_true rfl) d_Mod_divide_121 (fun r u H locs hp hM => ?_)
      obtain ⟨hr0, rfl⟩ := hp
      have hM : md_M D ad cA s (va_up (u1.1) 2 t1) (u1.2) H locs := by
        exact hM
      refine lv_if_lt (tgt := 131) hC.1 hC.2.1 d_Mod_divide_124 (by decide) (fun hs2 => ?_) (fun hs2 => ?_)
      · have hlt : 2 * Rv + b < B := by
          rcases Nat.lt_trichotomy (2 * Rv + b) B with z | z | z
          · exact z
          · rw [hr0, wm_ord_eq z] at hs2; exact absurd hs2 (by decide)
          · rw [hr0, wm_ord_gt z] at hs2; exact absurd hs2 (by decide)
        refine lv_iconst (v := nI 0) hC.1 hC.2.1 d_Mod_divide_131 (by decide) ?_
        refine lv_istore (lv' := [(7, .int (nI (0))), (0, .ref (ad 5)), (1, .int (nI (q0))), (2, .int (nI (r0))), (5, .int (nI (n1))), (6, .int (nI (y)))]) hC.1 hC.2.1 d_Mod_divide_132 hl (by decide) rfl (fun ls hl => ?_)
        refine lv_iload hC.1 hC.2.1 d_Mod_divide_134 (lv_at hl 0 rfl) ?_
        refine nv_if_eq (tgt := 162) hC (by omega) d_Mod_divide_136 (by decide) (fun hz0 => ?_) (fun hz0 => ?_)
        · have h1s : 1 * 2 ^ (y % 16) < 2 ^ 32 := by rw [Nat.one_mul]; exact Nat.lt_of_lt_of_le (Nat.pow_lt_pow_right (by decide) hs) (by decide)
          refine lv_aload_n hC.1 hC.2.1 d_Mod_divide_162 rfl (lv_at hl 1 rfl) ?_
          refine md_f2 hC hK hM kf_Mod_17 d_Mod_divide_163 ?_
          refine lv_iload hC.1 hC.2.1 d_Mod_divide_166 (lv_at hl 5 rfl) ?_
          refine lv_iconst (v := nI 4) hC.1 hC.2.1 d_Mod_divide_168 (by decide) ?_
          refine nv_ishrp (q := 16) hC (by decide) (by omega) (by decide) d_Mod_divide_169 ?_
          refine lv_aload_n hC.1 hC.2.1 d_Mod_divide_170 rfl (lv_at hl 1 rfl) ?_
          refine md_f2 hC hK hM kf_Mod_17 d_Mod_divide_171 ?_
          refine lv_iload hC.1 hC.2.1 d_Mod_divide_174 (lv_at hl 5 rfl) ?_
          refine lv_iconst (v := nI 4) hC.1 hC.2.1 d_Mod_divide_176 (by decide) ?_
          refine nv_ishrp (q := 16) hC (by decide) (by omega) (by decide) d_Mod_divide_177 ?_
          refine md_ald hC hK hM (j := 2) (k := y / 16) (by decide) (md_lt2 (by decide) (by decide) (by omega)) d_Mod_divide_178 ?_
          refine nv_top (y := nI (w 2 (y / 16))) (by rw [hw1 2 (by decide)]) ?_
          refine lv_iconst (v := nI 1) hC.1 hC.2.1 d_Mod_divide_179 (by decide) ?_
          refine lv_iload hC.1 hC.2.1 d_Mod_divide_180 (lv_at hl 5 rfl) ?_
          refine lv_bipush (v := nI 15) hC.1 hC.2.1 d_Mod_divide_182 (by decide) ?_
          refine nv_iandp (k := 4) (q := 16) hC (by decide) (by decide) (by omega) (by decide) d_Mod_divide_184 ?_
          refine nv_ishl hC (by omega) h1s d_Mod_divide_185 ?_
          refine lv_iconst (v := -1) hC.1 hC.2.1 d_Mod_divide_186 (by decide) ?_
          refine lv_ixor hC.1 hC.2.1 d_Mod_divide_187 ?_
          refine lv_iand hC.1 hC.2.1 d_Mod_divide_188 ?_
          refine nv_top (y := nI (w 2 (y / 16) - w 2 (y / 16) / 2 ^ (y % 16) % 2 * 2 ^ (y % 16))) (md_clr hdd hs) ?_
          refine lv_iload hC.1 hC.2.1 d_Mod_divide_189 (lv_at hl 0 rfl) ?_
          refine nv_if_eq (tgt := 204) hC (by omega) d_Mod_divide_191 (by decide) (fun hf => ?_) (fun hf => ?_)
          · refine lv_iconst (v := nI 0) hC.1 hC.2.1 d_Mod_divide_204 (by decide) ?_
            refine lv_ior hC.1 hC.2.1 d_Mod_divide_205 ?_
            refine nv_top (y := nI (w 2 (y / 16) - w 2 (y / 16) / 2 ^ (y % 16) % 2 * 2 ^ (y % 16) + 0 * 2 ^ (y % 16))) (by rw [md_set0, Nat.zero_mul, Nat.zero_mul]) ?_
            refine md_ast hC hK hM (j := 2) (k := y / 16) (v := w 2 (y / 16) - w 2 (y / 16) / 2 ^ (y % 16) % 2 * 2 ^ (y % 16) + 0 * 2 ^ (y % 16)) (by decide) (md_lt2 (by decide) (by decide) (by omega)) d_Mod_divide_206 (fun H locs hM => ?_)
            refine lv_iinc (v := nI (y) + (-1)) (lv' := [(6, .int (nI (y) + (-1))), (7, .int (nI (0))), (0, .ref (ad 5)), (1, .int (nI (q0))), (2, .int (nI (r0))), (5, .int (nI (n1)))]) hC.1 hC.2.1 d_Mod_divide_207 hl (k := 5) rfl (rfl) (by decide) rfl (fun ls hl => ?_)
            refine lv_goto (tgt := 76) hC.1 hC.2.1 d_Mod_divide_210 (by decide) ?_
            have hwx : u1.2 2 = w 2 := by rw [hw1 2 (by decide)]
            have hvl := md_setlt (e := 0) hdd hs (by decide)
            exact ih y (va_up (u1.1) 2 t1) (va_up u1.2 2 (va_up (u1.2 2) (y / 16) (w 2 (y / 16) - w 2 (y / 16) / 2 ^ (y % 16) % 2 * 2 ^ (y % 16) + 0 * 2 ^ (y % 16)))) (2 * Qv + 0) (2 * Rv + b) t1 (by omega) (md_R_of hR1 (va_up_ne _ _ (by decide)) (va_up_ne _ _ (by decide))) (by rw [va_up_ne _ _ (by decide)]; exact fy) (by rw [va_up_ne _ _ (by decide)]; exact fz1) (by rw [va_up_ne _ _ (by decide)]; exact ey) (va_up_self _ _ _) (by rw [va_up_self, hwx]; exact mv_upd_d dx hvl) (by rw [va_up_self, hwx]; exact md_divV hy16 hdn hV) (md_divA hA (by rw [← hb]; omega)) hlt (by omega) H locs ls hM (lv_sub hl [2, 3, 4, 5, 0] rfl)
          · exact absurd hf (by decide)
        · exact absurd rfl hz0
      · have hge : B ≤ 2 * Rv + b := by
          rcases Nat.lt_or_ge (2 * Rv + b) B with z | z
          · rw [hr0, wm_ord_lt z] at hs2; exact absurd (show (-1 : Int32) < 0 by decide) hs2
          · exact z
        refine lv_iconst (v := nI 1) hC.1 hC.2.1 d_Mod_divide_127 (by decide) ?_
        refine lv_goto (tgt := 132) hC.1 hC.2.1 d_Mod_divide_128 (by decide) ?_
        refine lv_istore (lv' := [(7, .int (nI (1))), (0, .ref (ad 5)), (1, .int (nI (q0))), (2, .int (nI (r0))), (5, .int (nI (n1))), (6, .int (nI (y)))]) hC.1 hC.2.1 d_Mod_divide_132 hl (by decide) rfl (fun ls hl => ?_)
        refine lv_iload hC.1 hC.2.1 d_Mod_divide_134 (lv_at hl 0 rfl) ?_
        refine nv_if_eq (tgt := 162) hC (by omega) d_Mod_divide_136 (by decide) (fun hz0 => ?_) (fun hz0 => ?_)
        · exact absurd hz0 (by decide)
        · refine lv_aload_n hC.1 hC.2.1 d_Mod_divide_139 rfl (lv_at hl 1 rfl) ?_
          refine lv_aload_n hC.1 hC.2.1 d_Mod_divide_140 rfl (lv_at hl 1 rfl) ?_
          refine md_f4 hC hK hM kf_Mod_23 d_Mod_divide_141 ?_
          refine lv_aload_n hC.1 hC.2.1 d_Mod_divide_144 rfl (lv_at hl 1 rfl) ?_
          refine md_n2 hC hK hM kf_Mod_33 d_Mod_divide_145 ?_
          refine nv_top (y := nI (t1)) (by rw [va_up_self]) ?_
          refine lv_aload_n hC.1 hC.2.1 d_Mod_divide_148 rfl (lv_at hl 1 rfl) ?_
          refine md_f3 hC hK hM kf_Mod_20 d_Mod_divide_149 ?_
          refine lv_aload_n hC.1 hC.2.1 d_Mod_divide_152 rfl (lv_at hl 1 rfl) ?_
          refine md_n1 hC hK hM kf_Mod_30 d_Mod_divide_153 ?_
          refine nv_top (y := nI ((u1.1) 1)) (by rw [va_up_ne _ _ (by decide)]) ?_
          refine nv_top (y := nI (m1)) (by rw [ey]) ?_
          refine md_callSi hC hK hM (As := [.ref (ad 4), .int (nI (t1)), .ref (ad 3), .int (nI (m1))]) (rest := [.ref (ad 5)]) (c_Mod_lessen l D ad cA _ (va_up (u1.1) 2 t1) (u1.2) 4 t1 3 m1 (2 * Rv + b) B (by decide) (by decide) (by decide) fz1 fy hge) kc_Mod_lessen km_Mod_65 ki_Mod ks_Mod_lessen kd_Mod_lessen ⟨rfl, rfl⟩ ⟨Nat.le_of_ble_eq_true rfl, Nat.le_of_ble_eq_true rfl⟩ rfl hl.1 (Nat.le_of_ble_eq_true rfl) d_Mod_divide_156 (fun r u2 H locs hp2 hM => ?_)
          obtain ⟨t2, rfl, fz2, hw2, hl2, ht2⟩ := hp2
          rw [← hw2 3 (by decide)] at fy
          have ey : u2.1 1 = m1 := by rw [hl2, va_up_ne _ _ (by decide)]; exact ey
          have hR2 := md_R_of hR1 (hw2 0 (by decide)) (hw2 1 (by decide))
          refine md_p2 hC hK hM kf_Mod_33 d_Mod_divide_159 (fun H locs hM => ?_)
          have h1s : 1 * 2 ^ (y % 16) < 2 ^ 32 := by rw [Nat.one_mul]; exact Nat.lt_of_lt_of_le (Nat.pow_lt_pow_right (by decide) hs) (by decide)
          refine lv_aload_n hC.1 hC.2.1 d_Mod_divide_162 rfl (lv_at hl 1 rfl) ?_
          refine md_f2 hC hK hM kf_Mod_17 d_Mod_divide_163 ?_
          refine lv_iload hC.1 hC.2.1 d_Mod_divide_166 (lv_at hl 5 rfl) ?_
          refine lv_iconst (v := nI 4) hC.1 hC.2.1 d_Mod_divide_168 (by decide) ?_
          refine nv_ishrp (q := 16) hC (by decide) (by omega) (by decide) d_Mod_divide_169 ?_
          refine lv_aload_n hC.1 hC.2.1 d_Mod_divide_170 rfl (lv_at hl 1 rfl) ?_
          refine md_f2 hC hK hM kf_Mod_17 d_Mod_divide_171 ?_
          refine lv_iload hC.1 hC.2.1 d_Mod_divide_174 (lv_at hl 5 rfl) ?_
          refine lv_iconst (v := nI 4) hC.1 hC.2.1 d_Mod_divide_176 (by decide) ?_
          refine nv_ishrp (q := 16) hC (by decide) (by omega) (by decide) d_Mod_divide_177 ?_
          refine md_ald hC hK hM (j := 2) (k := y / 16) (by decide) (md_lt2 (by decide) (by decide) (by omega)) d_Mod_divide_178 ?_
          refine nv_top (y := nI (w 2 (y / 16))) (by rw [hw2 2 (by decide), hw1 2 (by decide)]) ?_
          refine lv_iconst (v := nI 1) hC.1 hC.2.1 d_Mod_divide_179 (by decide) ?_
          refine lv_iload hC.1 hC.2.1 d_Mod_divide_180 (lv_at hl 5 rfl) ?_
          refine lv_bipush (v := nI 15) hC.1 hC.2.1 d_Mod_divide_182 (by decide) ?_
          refine nv_iandp (k := 4) (q := 16) hC (by decide) (by decide) (by omega) (by decide) d_Mod_divide_184 ?_
          refine nv_ishl hC (by omega) h1s d_Mod_divide_185 ?_
          refine lv_iconst (v := -1) hC.1 hC.2.1 d_Mod_divide_186 (by decide) ?_
          refine lv_ixor hC.1 hC.2.1 d_Mod_divide_187 ?_
          refine lv_iand hC.1 hC.2.1 d_Mod_divide_188 ?_
          refine nv_top (y := nI (w 2 (y / 16) - w 2 (y / 16) / 2 ^ (y % 16) % 2 * 2 ^ (y % 16))) (md_clr hdd hs) ?_
          refine lv_iload hC.1 hC.2.1 d_Mod_divide_189 (lv_at hl 0 rfl) ?_
          refine nv_if_eq (tgt := 204) hC (by omega) d_Mod_divide_191 (by decide) (fun hf => ?_) (fun hf => ?_)
          · exact absurd hf (by decide)
          · refine lv_iconst (v := nI 1) hC.1 hC.2.1 d_Mod_divide_194 (by decide) ?_
            refine lv_iload hC.1 hC.2.1 d_Mod_divide_195 (lv_at hl 5 rfl) ?_
            refine lv_bipush (v := nI 15) hC.1 hC.2.1 d_Mod_divide_197 (by decide) ?_
            refine nv_iandp (k := 4) (q := 16) hC (by decide) (by decide) (by omega) (by decide) d_Mod_divide_199 ?_
            refine nv_ishl hC (by omega) h1s d_Mod_divide_200 ?_
            refine lv_goto (tgt := 205) hC.1 hC.2.1 d_Mod_divide_201 (by decide) ?_
            refine lv_ior hC.1 hC.2.1 d_Mod_divide_205 ?_
            refine nv_top (y := nI (w 2 (y / 16) - w 2 (y / 16) / 2 ^ (y % 16) % 2 * 2 ^ (y % 16) + 1 * 2 ^ (y % 16))) (md_set1 hdd hs) ?_
            refine md_ast hC hK hM (j := 2) (k := y / 16) (v := w 2 (y / 16) - w 2 (y / 16) / 2 ^ (y % 16) % 2 * 2 ^ (y % 16) + 1 * 2 ^ (y % 16)) (by decide) (md_lt2 (by decide) (by decide) (by omega)) d_Mod_divide_206 (fun H locs hM => ?_)
            refine lv_iinc (v := nI (y) + (-1)) (lv' := [(6, .int (nI (y) + (-1))), (7, .int (nI (1))), (0, .ref (ad 5)), (1, .int (nI (q0))), (2, .int (nI (r0))), (5, .int (nI (n1)))]) hC.1 hC.2.1 d_Mod_divide_207 hl (k := 5) rfl (rfl) (by decide) rfl (fun ls hl => ?_)
            refine lv_goto (tgt := 76) hC.1 hC.2.1 d_Mod_divide_210 (by decide) ?_
            have hwx : u2.2 2 = w 2 := by rw [hw2 2 (by decide), hw1 2 (by decide)]
            have hvl := md_setlt (e := 1) hdd hs (by decide)
            exact ih y (va_up (u2.1) 2 t2) (va_up u2.2 2 (va_up (u2.2 2) (y / 16) (w 2 (y / 16) - w 2 (y / 16) / 2 ^ (y % 16) % 2 * 2 ^ (y % 16) + 1 * 2 ^ (y % 16)))) (2 * Qv + 1) (2 * Rv + b - B) t2 (by omega) (md_R_of hR2 (va_up_ne _ _ (by decide)) (va_up_ne _ _ (by decide))) (by rw [va_up_ne _ _ (by decide)]; exact fy) (by rw [va_up_ne _ _ (by decide)]; exact fz2) (by rw [va_up_ne _ _ (by decide)]; exact ey) (va_up_self _ _ _) (by rw [va_up_self, hwx]; exact mv_upd_d dx hvl) (by rw [va_up_self, hwx]; exact md_divV hy16 hdn hV) (md_divA hA (by rw [← hb]; omega)) (by omega) (by omega) H locs ls hM (lv_sub hl [2, 3, 4, 5, 0] rfl)
set_option maxHeartbeats 4000000 in
set_option maxRecDepth 100000 in
theorem c_Mod_divide (l : Launch) (D : va_G) (ad : Nat → Nat) (cA : ClassId) (sz : Nat) (ln : Nat → Nat) (wd : Nat → Nat → Nat) (N : Nat → Nat) (hR : md_R N wd) (x y z v : Int32) : Met l y_Mod_divide (Cond.code y_Mod_divide b_Mod_divide 8 (some .boolean) :: lw_T) ({ frames := 2, cells := 0, slots := 0, locals := 48 }) (va_Pc [.ref (ad 5), .int (x), .int (y), .int (z), .int (v)] (md_B D ad cA sz ln wd)) (va_Qi (fun (r : Int32) (u : md_St) => r = (sp_divide N x y z v).1 ∧ md_R (sp_divide N x y z v).2 u.2) (md_E D ad cA sz) (md_A ad sz)) 0 0 (md_A ad sz) := by
  refine md_met l (by decide) (Nat.le_of_ble_eq_true rfl) ?_
  intro p e s m below meth c ls hsz hC hK hr hlk hM hl
  subst hsz
  have hC : CallFix p m c b_Mod_divide 8 s _ lw_T R_Mod := hC
  have hl : lv_has ls 8 [(0, .ref (ad 5)), (1, .int (x)), (2, .int (y)), (3, .int (z)), (4, .int (v))] := hl
  have hR0 := hR
  refine lv_iload_n hC.1 hC.2.1 d_Mod_divide_0 rfl (lv_at hl 1 rfl) ?_
  refine md_callPi hC hK hM (As := [.int (x)]) (rest := []) (c_Mod_isRegister l _ x) kc_Mod_isRegister km_Mod_41 ki_Mod ks_Mod_isRegister kd_Mod_isRegister ⟨rfl, rfl⟩ ⟨Nat.le_of_ble_eq_true rfl, Nat.le_of_ble_eq_true rfl⟩ rfl hl.1 (Nat.le_of_ble_eq_true rfl) d_Mod_divide_1 (fun r H locs hp hM => ?_)
  rcases hp with ⟨q, hq, rfl, rfl⟩ | ⟨hno, rfl⟩
  · refine nv_if_eq (tgt := 44) hC (by omega) d_Mod_divide_4 (by decide) (fun hz => ?_) (fun hz => ?_)
    · exact absurd hz (by decide)
    · refine lv_iload_n hC.1 hC.2.1 d_Mod_divide_7 rfl (lv_at hl 2 rfl) ?_
      refine md_callPi hC hK hM (As := [.int (y)]) (rest := []) (c_Mod_isRegister l _ y) kc_Mod_isRegister km_Mod_41 ki_Mod ks_Mod_isRegister kd_Mod_isRegister ⟨rfl, rfl⟩ ⟨Nat.le_of_ble_eq_true rfl, Nat.le_of_ble_eq_true rfl⟩ rfl hl.1 (Nat.le_of_ble_eq_true rfl) d_Mod_divide_8 (fun r H locs hp hM => ?_)
      rcases hp with ⟨r0, hr0, rfl, rfl⟩ | ⟨hno, rfl⟩
      · refine nv_if_eq (tgt := 44) hC (by omega) d_Mod_divide_11 (by decide) (fun hz => ?_) (fun hz => ?_)
        · exact absurd hz (by decide)
        · refine lv_iload_n hC.1 hC.2.1 d_Mod_divide_14 rfl (lv_at hl 3 rfl) ?_
          refine md_callPi hC hK hM (As := [.int (z)]) (rest := []) (c_Mod_isRegister l _ z) kc_Mod_isRegister km_Mod_41 ki_Mod ks_Mod_isRegister kd_Mod_isRegister ⟨rfl, rfl⟩ ⟨Nat.le_of_ble_eq_true rfl, Nat.le_of_ble_eq_true rfl⟩ rfl hl.1 (Nat.le_of_ble_eq_true rfl) d_Mod_divide_15 (fun r H locs hp hM => ?_)
          rcases hp with ⟨a, ha, rfl, rfl⟩ | ⟨hno, rfl⟩
          · refine nv_if_eq (tgt := 44) hC (by omega) d_Mod_divide_18 (by decide) (fun hz => ?_) (fun hz => ?_)
            · exact absurd hz (by decide)
            · refine lv_iload hC.1 hC.2.1 d_Mod_divide_21 (lv_at hl 4 rfl) ?_
              refine md_callPi hC hK hM (As := [.int (v)]) (rest := []) (c_Mod_isRegister l _ v) kc_Mod_isRegister km_Mod_41 ki_Mod ks_Mod_isRegister kd_Mod_isRegister ⟨rfl, rfl⟩ ⟨Nat.le_of_ble_eq_true rfl, Nat.le_of_ble_eq_true rfl⟩ rfl hl.1 (Nat.le_of_ble_eq_true rfl) d_Mod_divide_23 (fun r H locs hp hM => ?_)
              rcases hp with ⟨b, hb, rfl, rfl⟩ | ⟨hno, rfl⟩
              · refine nv_if_eq (tgt := 44) hC (by omega) d_Mod_divide_26 (by decide) (fun hz => ?_) (fun hz => ?_)
                · exact absurd hz (by decide)
                · have hbb := (hR b hb).1
                  refine lv_iload_n hC.1 hC.2.1 d_Mod_divide_29 rfl (lv_at hl 1 rfl) ?_
                  refine lv_iload_n hC.1 hC.2.1 d_Mod_divide_30 rfl (lv_at hl 2 rfl) ?_
                  refine nv_icmp_eq (tgt := 44) hC (by omega) (by omega) d_Mod_divide_31 (by decide) (fun hqr => ?_) (fun hqr => ?_)
                  · refine lv_iconst (v := nI 0) hC.1 hC.2.1 d_Mod_divide_44 (by decide) ?_
                    have hcd : q = r0 ∨ N b = 0 := Or.inl hqr
                    exact md_zret hC hK hM hr hlk rfl ⟨by simp only [sp_divide, sp_3, sp_ix_ok hq, sp_ix_ok hr0, sp_ix_ok ha, sp_ix_ok hb]; rw [if_pos hcd]; rfl, by simp only [sp_divide, sp_3, sp_ix_ok hq, sp_ix_ok hr0, sp_ix_ok ha, sp_ix_ok hb]; rw [if_pos hcd]; exact hR⟩ d_Mod_divide_45
                  · refine lv_aload_n hC.1 hC.2.1 d_Mod_divide_34 rfl (lv_at hl 0 rfl) ?_
                    refine md_f1 hC hK hM kf_Mod_14 d_Mod_divide_35 ?_
                    refine lv_iload hC.1 hC.2.1 d_Mod_divide_38 (lv_at hl 4 rfl) ?_
                    refine md_ald hC hK hM (j := 1) (k := b) (by decide) (md_lt1 (by omega)) d_Mod_divide_40 ?_
                    refine nv_if_ne (tgt := 46) hC (by omega) d_Mod_divide_41 (by decide) (fun hlb => ?_) (fun hlb => ?_)
                    · have hb0 : N b ≠ 0 := fun z => hlb ((mr_0 (hR b hb)).mpr z)
                      refine lv_aload_n hC.1 hC.2.1 d_Mod_divide_46 rfl (lv_at hl 0 rfl) ?_
                      refine lv_iload_n hC.1 hC.2.1 d_Mod_divide_47 rfl (lv_at hl 3 rfl) ?_
                      refine md_callVv hC hK hM (As := [.int (nI (a))]) (rest := []) md_at_m rfl (c_Mod_loadX l D ad cA _ ln wd a _ ha (hR0 a ha)) kc_Mod_loadX km_Mod_45 ki_Mod kn_Mod_loadX ke_Mod_loadX kd_Mod_loadX ⟨rfl, rfl⟩ ⟨Nat.le_of_ble_eq_true rfl, Nat.le_of_ble_eq_true rfl⟩ rfl hl.1 (Nat.le_of_ble_eq_true rfl) d_Mod_divide_48 (fun u1 H locs hp1 hM => ?_)
                      obtain ⟨fx, hw1, hl1⟩ := hp1
                      have hR1 := md_R_of hR0 (hw1 0 (by decide)) (hw1 1 (by decide))
                      have ex : u1.1 0 = wd 1 a := by rw [hl1, va_up_self]
                      have exb := (hR0 a ha).1
                      refine lv_aload_n hC.1 hC.2.1 d_Mod_divide_51 rfl (lv_at hl 0 rfl) ?_
                      refine lv_iload hC.1 hC.2.1 d_Mod_divide_52 (lv_at hl 4 rfl) ?_
                      refine md_callVv hC hK hM (As := [.int (nI (b))]) (rest := []) md_at_m rfl (c_Mod_loadY l D ad cA _ (u1.1) (u1.2) b _ hb (hR1 b hb)) kc_Mod_loadY km_Mod_58 ki_Mod kn_Mod_loadY ke_Mod_loadY kd_Mod_loadY ⟨rfl, rfl⟩ ⟨Nat.le_of_ble_eq_true rfl, Nat.le_of_ble_eq_true rfl⟩ rfl hl.1 (Nat.le_of_ble_eq_true rfl) d_Mod_divide_54 (fun u2 H locs hp2 hM => ?_)
                      obtain ⟨fy, hw2, hl2⟩ := hp2
                      rw [← hw2 2 (by decide)] at fx
                      have ex : u2.1 0 = wd 1 a := by rw [hl2, va_up_ne _ _ (by decide)]; exact ex
                      have hR2 := md_R_of hR1 (hw2 0 (by decide)) (hw2 1 (by decide))
                      have ey : u2.1 1 = (u1.2) 1 b := by rw [hl2, va_up_self]
                      have eyb := (hR1 b hb).1
                      refine lv_aload_n hC.1 hC.2.1 d_Mod_divide_57 rfl (lv_at hl 0 rfl) ?_
                      refine md_callVv hC hK hM (As := []) (rest := []) md_at_m rfl (c_Mod_clearZ l D ad cA _ (u2.1) (u2.2) ) kc_Mod_clearZ km_Mod_49 ki_Mod kn_Mod_clearZ ke_Mod_clearZ kd_Mod_clearZ ⟨rfl, rfl⟩ ⟨Nat.le_of_ble_eq_true rfl, Nat.le_of_ble_eq_true rfl⟩ rfl hl.1 (Nat.le_of_ble_eq_true rfl) d_Mod_divide_58 (fun u3 H locs hp3 hM => ?_)
                      obtain ⟨fz, hw3, hl3⟩ := hp3
                      rw [← hw3 2 (by decide)] at fx
                      rw [← hw3 3 (by decide)] at fy
                      have ex : u3.1 0 = wd 1 a := by rw [hl3, va_up_ne _ _ (by decide)]; exact ex
                      have ey : u3.1 1 = (u1.2) 1 b := by rw [hl3, va_up_ne _ _ (by decide)]; exact ey
                      have hR3 := md_R_of hR2 (hw3 0 (by decide)) (hw3 1 (by decide))
                      have ez : u3.1 2 = 0 := by rw [hl3, va_up_self]
                      refine lv_aload_n hC.1 hC.2.1 d_Mod_divide_61 rfl (lv_at hl 0 rfl) ?_
                      refine md_n0 hC hK hM kf_Mod_26 d_Mod_divide_62 ?_
                      refine nv_top (y := nI (wd 1 a)) (by rw [ex]) ?_
                      refine lv_istore (lv' := [(5, .int (nI (wd 1 a))), (0, .ref (ad 5)), (1, .int (nI (q))), (2, .int (nI (r0))), (3, .int (nI (a))), (4, .int (nI (b)))]) hC.1 hC.2.1 d_Mod_divide_65 hl (by decide) rfl (fun ls hl => ?_)
                      refine lv_bipush (v := nI 16) hC.1 hC.2.1 d_Mod_divide_67 (by decide) ?_
                      refine lv_iload hC.1 hC.2.1 d_Mod_divide_69 (lv_at hl 0 rfl) ?_
                      refine nv_imul hC d_Mod_divide_71 ?_
                      refine lv_iconst (v := nI 1) hC.1 hC.2.1 d_Mod_divide_72 (by decide) ?_
                      refine nv_isub1 hC d_Mod_divide_73 ?_
                      refine lv_istore (lv' := [(6, .int (nI (16 * (wd 1 a)) + (-1))), (5, .int (nI (wd 1 a))), (0, .ref (ad 5)), (1, .int (nI (q))), (2, .int (nI (r0))), (3, .int (nI (a))), (4, .int (nI (b)))]) hC.1 hC.2.1 d_Mod_divide_74 hl (by decide) rfl (fun ls hl => ?_)
                      have hA0 : N a < 2 ^ (16 * wd 1 a) := by rw [Nat.pow_mul]; exact mr_lt fx
                      have hz0 : mr_r 8200 (u3.2 4) 0 0 := ⟨by decide, fun q hq => by rw [fz q hq]; decide, fun q h1 h2 => fz q h2, fun z => absurd z (by decide), rfl⟩
                      refine lp_Mod_divide hC hK N q r0 (wd 1 a) _ (N a) (N b) exb (md_lt fy eyb) (fun lnv w Qv Rv t hRw fzw ezw dxw hVw hAw hRB H locs ls hM hl => ?_) (16 * wd 1 a + 1) (16 * wd 1 a) u3.1 u3.2 0 0 0 (Nat.le_refl _) hR3 fy hz0 ey ez fx.2.1 (by rw [fx.2.2.2.2, Nat.zero_mul, Nat.zero_add, Nat.mod_eq_of_lt hA0]) (by rw [Nat.div_eq_of_lt hA0, Nat.zero_mul]) (Nat.pos_of_ne_zero hb0) (Nat.le_refl _) _ _ _ hM (lv_sub hl [2, 3, 4, 1, 0] rfl)
                      obtain ⟨hQ, hRm⟩ := md_divend hAw hRB
                      have hQL : Qv < sp_L := by rw [hQ]; exact Nat.lt_of_le_of_lt (Nat.div_le_self _ _) (md_R_L hR ha)
                      have hRL : Rv < sp_L := by rw [hRm]; exact Nat.lt_of_le_of_lt (Nat.mod_le _ _) (md_R_L hR ha)
                      refine lv_aload_n hC.1 hC.2.1 d_Mod_divide_213 rfl (lv_at hl 0 rfl) ?_
                      refine lv_iload_n hC.1 hC.2.1 d_Mod_divide_214 rfl (lv_at hl 1 rfl) ?_
                      refine lv_aload_n hC.1 hC.2.1 d_Mod_divide_215 rfl (lv_at hl 0 rfl) ?_
                      refine md_f2 hC hK hM kf_Mod_17 d_Mod_divide_216 ?_
                      refine lv_iload hC.1 hC.2.1 d_Mod_divide_219 (lv_at hl 3 rfl) ?_
                      refine md_callVi hC hK hM (As := [.int (nI (q)), .ref (ad 2), .int (nI (wd 1 a))]) (rest := []) md_at_m rfl (c_Mod_put l D ad cA _ lnv w N q 2 _ Qv hRw hq (by decide) (by omega) dxw hVw) kc_Mod_put km_Mod_54 ki_Mod kn_Mod_put ke_Mod_put kd_Mod_put ⟨rfl, rfl⟩ ⟨Nat.le_of_ble_eq_true rfl, Nat.le_of_ble_eq_true rfl⟩ rfl hl.1 (Nat.le_of_ble_eq_true rfl) d_Mod_divide_221 (fun rk uk H locs hpk hM => ?_)
                      rw [sp_putv, if_pos hQL] at hpk
                      obtain ⟨hk1, hkR, hkl, hkw⟩ := hpk
                      have fzk : mr_r 8200 (uk.2 4) t Rv := by rw [hkw 4 (by decide)]; exact fzw
                      have ezk : uk.1 2 = t := by rw [hkl]; exact ezw
                      refine nv_top (y := nI (1)) hk1 ?_
                      refine nv_if_eq (tgt := 247) hC (by omega) d_Mod_divide_224 (by decide) (fun hz1 => ?_) (fun hz1 => ?_)
                      · exact absurd hz1 (by decide)
                      · refine lv_aload_n hC.1 hC.2.1 d_Mod_divide_227 rfl (lv_at hl 0 rfl) ?_
                        refine lv_iload_n hC.1 hC.2.1 d_Mod_divide_228 rfl (lv_at hl 2 rfl) ?_
                        refine lv_aload_n hC.1 hC.2.1 d_Mod_divide_229 rfl (lv_at hl 0 rfl) ?_
                        refine md_f4 hC hK hM kf_Mod_23 d_Mod_divide_230 ?_
                        refine lv_aload_n hC.1 hC.2.1 d_Mod_divide_233 rfl (lv_at hl 0 rfl) ?_
                        refine md_n2 hC hK hM kf_Mod_33 d_Mod_divide_234 ?_
                        refine nv_top (y := nI (t)) (by rw [ezk]) ?_
                        refine md_callVi hC hK hM (As := [.int (nI (r0)), .ref (ad 4), .int (nI (t))]) (rest := []) md_at_m rfl (c_Mod_put l D ad cA _ (uk.1) (uk.2) (va_up N q Qv) r0 4 _ Rv hkR hr0 (by decide) fzk.1 fzk.2.1 fzk.2.2.2.2) kc_Mod_put km_Mod_54 ki_Mod kn_Mod_put ke_Mod_put kd_Mod_put ⟨rfl, rfl⟩ ⟨Nat.le_of_ble_eq_true rfl, Nat.le_of_ble_eq_true rfl⟩ rfl hl.1 (Nat.le_of_ble_eq_true rfl) d_Mod_divide_237 (fun rk2 uk2 H locs hpk2 hM => ?_)
                        rw [sp_putv, if_pos hRL] at hpk2
                        obtain ⟨hk3, hk2, -, -⟩ := hpk2
                        refine nv_top (y := nI (1)) hk3 ?_
                        refine nv_if_eq (tgt := 247) hC (by omega) d_Mod_divide_240 (by decide) (fun hz2 => ?_) (fun hz2 => ?_)
                        · exact absurd hz2 (by decide)
                        · refine lv_iconst (v := nI 1) hC.1 hC.2.1 d_Mod_divide_243 (by decide) ?_
                          refine lv_goto (tgt := 248) hC.1 hC.2.1 d_Mod_divide_244 (by decide) ?_
                          have hcd : ¬ (q = r0 ∨ N b = 0) := fun z => by
                            rcases z with z | z
                            · exact hqr z
                            · exact hb0 z
                          rw [hQ, hRm] at hk2
                          exact md_zret hC hK hM hr hlk rfl ⟨by simp only [sp_divide, sp_3, sp_ix_ok hq, sp_ix_ok hr0, sp_ix_ok ha, sp_ix_ok hb]; rw [if_neg hcd], by simp only [sp_divide, sp_3, sp_ix_ok hq, sp_ix_ok hr0, sp_ix_ok ha, sp_ix_ok hb]; rw [if_neg hcd]; exact hk2⟩ d_Mod_divide_248
                    · refine lv_iconst (v := nI 0) hC.1 hC.2.1 d_Mod_divide_44 (by decide) ?_
                      have hcd : q = r0 ∨ N b = 0 := Or.inr ((mr_0 (hR b hb)).mp hlb)
                      exact md_zret hC hK hM hr hlk rfl ⟨by simp only [sp_divide, sp_3, sp_ix_ok hq, sp_ix_ok hr0, sp_ix_ok ha, sp_ix_ok hb]; rw [if_pos hcd]; rfl, by simp only [sp_divide, sp_3, sp_ix_ok hq, sp_ix_ok hr0, sp_ix_ok ha, sp_ix_ok hb]; rw [if_pos hcd]; exact hR⟩ d_Mod_divide_45
              · refine nv_if_eq (tgt := 44) hC (by omega) d_Mod_divide_26 (by decide) (fun hz => ?_) (fun hz => ?_)
                · refine lv_iconst (v := nI 0) hC.1 hC.2.1 d_Mod_divide_44 (by decide) ?_
                  exact md_zret hC hK hM hr hlk rfl ⟨by simp only [sp_divide, sp_3, sp_no, sp_ix_ok hq, sp_ix_ok hr0, sp_ix_ok ha, sp_ix_no hno], by simp only [sp_divide, sp_3, sp_no, sp_ix_ok hq, sp_ix_ok hr0, sp_ix_ok ha, sp_ix_no hno]; exact hR⟩ d_Mod_divide_45
                · exact absurd rfl hz
          · refine nv_if_eq (tgt := 44) hC (by omega) d_Mod_divide_18 (by decide) (fun hz => ?_) (fun hz => ?_)
            · refine lv_iconst (v := nI 0) hC.1 hC.2.1 d_Mod_divide_44 (by decide) ?_
              exact md_zret hC hK hM hr hlk rfl ⟨by simp only [sp_divide, sp_3, sp_no, sp_ix_ok hq, sp_ix_ok hr0, sp_ix_no hno], by simp only [sp_divide, sp_3, sp_no, sp_ix_ok hq, sp_ix_ok hr0, sp_ix_no hno]; exact hR⟩ d_Mod_divide_45
            · exact absurd rfl hz
      · refine nv_if_eq (tgt := 44) hC (by omega) d_Mod_divide_11 (by decide) (fun hz => ?_) (fun hz => ?_)
        · refine lv_iconst (v := nI 0) hC.1 hC.2.1 d_Mod_divide_44 (by decide) ?_
          exact md_zret hC hK hM hr hlk rfl ⟨by simp only [sp_divide, sp_3, sp_no, sp_ix_ok hq, sp_ix_no hno], by simp only [sp_divide, sp_3, sp_no, sp_ix_ok hq, sp_ix_no hno]; exact hR⟩ d_Mod_divide_45
        · exact absurd rfl hz
  · refine nv_if_eq (tgt := 44) hC (by omega) d_Mod_divide_4 (by decide) (fun hz => ?_) (fun hz => ?_)
    · refine lv_iconst (v := nI 0) hC.1 hC.2.1 d_Mod_divide_44 (by decide) ?_
      exact md_zret hC hK hM hr hlk rfl ⟨by simp only [sp_divide, sp_3, sp_no, sp_ix_no hno], by simp only [sp_divide, sp_3, sp_no, sp_ix_no hno]; exact hR⟩ d_Mod_divide_45
    · exact absurd rfl hz
