set_option maxHeartbeats 4000000 in
set_option maxRecDepth 100000 in
theorem lp_Rows_guess {p : Program} {l : Launch} {e : Env} {s : State} {m : MethodId} {args : Array Value} {below : List Frame} {meth : Method} {c : Code} {Q : State → Prop} (hC : CallFix p m c b_Rows_guess 14 s args lw_T R_Rows) (lo s2 : Int32) (pr b : Nat) (hb : 2147483648 ≤ b) (hb2 : b < 4294967296)
    (hex : ∀ (H : Heap) (locs : List Loc) (ls : Array Slot), pu_H s H locs → lv_has ls 14 [(9, .long (lN (wm_gs (pr * 4294967296 + wm_u lo) (b * 4294967296 + wm_u s2))))] → W p l e ({ frames := 1, cells := 0, slots := 0, locals := 23 }) s m args below meth c H locs 0 0 Q (F0 m 156 ls [])) :
    ∀ (n : Nat) (i : Nat) (w : Nat) (ov : Nat), (i ≤ 2) → (w * b + ov = pr) → (wm_gs (pr * 4294967296 + wm_u lo) (b * 4294967296 + wm_u s2) ≤ w) → (w < 4294967296) → (i * b ≤ ov) → (ov < (i + 2) * 4294967296) → 3 ≤ i + n → ∀ (H : Heap) (locs : List Loc) (ls : Array Slot), pu_H s H locs → lv_has ls 14 [(2, .int (lo)), (4, .int (s2)), (5, .long (lN (b))), (9, .long (lN (w))), (11, .long (lN (ov))), (13, .int (nI (i)))] → W p l e ({ frames := 1, cells := 0, slots := 0, locals := 23 }) s m args below meth c H locs 0 0 Q (F0 m 91 ls []) := by
  intro n
  induction n with
  | zero =>
    intro i w ov hi2 hw hg hw2 ho ho2 hn
    exact absurd hn (by omega)
  | succ n ih =>
    intro i w ov hi2 hw hg hw2 ho ho2 hn H locs ls hM hl
    have hlo := wm_u_lt lo
    have hs2 := wm_u_lt s2
    have hV : 0 < b * 4294967296 + wm_u s2 := by omega
    have hm1 : w * wm_u s2 ≤ 4294967295 * 4294967295 := Nat.mul_le_mul (by omega) (by omega)
    have hout : w * (b * 4294967296 + wm_u s2) ≤ pr * 4294967296 + wm_u lo → w = wm_gs (pr * 4294967296 + wm_u lo) (b * 4294967296 + wm_u s2) := fun h => wm_gs_of hV h hg hw2
    refine lv_iload hC.1 hC.2.1 d_Rows_guess_91 (lv_at hl 5 rfl) ?_
    refine lv_iconst (v := nI 2) hC.1 hC.2.1 d_Rows_guess_93 (by decide) ?_
    refine nv_icmp_ge (tgt := 156) hC (by omega) (by omega) d_Rows_guess_94 (by decide) (fun hc2 => ?_) (fun hc2 => ?_)
    · have ei : i = 2 := by omega
      rw [ei] at ho
      obtain rfl := hout (wm_gu_big hw (by omega) hw2 hs2)
      exact hex H locs ls hM (lv_sub hl [3] rfl)
    · refine lv_lload hC.1 hC.2.1 d_Rows_guess_97 (lv_at hl 4 rfl) ?_
      refine lv_ldc2 (v := lN 4294967295) hC.1 hC.2.1 hC.2.2.2.1 (hC.2.2.2.2 _ kl_Rows_9) d_Rows_guess_99 ?_
      refine nv_lc_gt (tgt := 156) hC (by omega) (by omega) d_Rows_guess_102 d_Rows_guess_103 (by decide) (fun hc3 => ?_) (fun hc3 => ?_)
      · obtain rfl := hout (wm_gu_big hw (by omega) hw2 hs2)
        exact hex H locs ls hM (lv_sub hl [3] rfl)
      · refine lv_lload hC.1 hC.2.1 d_Rows_guess_106 (lv_at hl 3 rfl) ?_
        refine lv_iload hC.1 hC.2.1 d_Rows_guess_108 (lv_at hl 1 rfl) ?_
        refine nv_low hC kl_Rows_9 d_Rows_guess_110 d_Rows_guess_111 d_Rows_guess_114 ?_
        refine nv_lmul hC d_Rows_guess_115 ?_
        refine lv_lload hC.1 hC.2.1 d_Rows_guess_116 (lv_at hl 4 rfl) ?_
        refine lv_bipush (v := nI 32) hC.1 hC.2.1 d_Rows_guess_118 (by decide) ?_
        refine nv_lshl hC (by decide) d_Rows_guess_120 ?_
        refine lv_iload_n hC.1 hC.2.1 d_Rows_guess_121 rfl (lv_at hl 0 rfl) ?_
        refine nv_low hC kl_Rows_9 d_Rows_guess_122 d_Rows_guess_123 d_Rows_guess_126 ?_
        refine nv_pair (k := 32) hC (by omega) (by omega) d_Rows_guess_127 ?_
        refine pu_calli hC hM (As := [.long (lN (w * (wm_u (s2)))), .long (lN (ov * 2 ^ 32 + (wm_u (lo))))]) (rest := []) (c_Rows_isAbove l _ (w * wm_u s2) (ov * 2 ^ 32 + wm_u lo) (by omega) (by omega)) kc_Rows_isAbove km_Rows_17 ki_Rows ks_Rows_isAbove kd_Rows_isAbove ⟨rfl, rfl⟩ ⟨Nat.le_of_ble_eq_true rfl, Nat.le_of_ble_eq_true rfl⟩ rfl hl.1 (Nat.le_of_ble_eq_true rfl) d_Rows_guess_128 (fun r H locs hp hM => ?_)
        rcases hp with ⟨ha, rfl⟩ | ⟨ha, rfl⟩
        · refine nv_if_ne (tgt := 137) hC (by omega) d_Rows_guess_131 (by decide) (fun hz => ?_) (fun hz => ?_)
          · have hd := wm_gu_dec (U := pr * 4294967296 + wm_u lo) (V := b * 4294967296 + wm_u s2) (w := w) (fun z => absurd ((wm_gu_le hw).mp z) (by omega))
            refine lv_lload hC.1 hC.2.1 d_Rows_guess_137 (lv_at hl 3 rfl) ?_
            refine lv_lconst (v := lN 1) hC.1 hC.2.1 d_Rows_guess_139 (by decide) ?_
            refine nv_lsub hC (by omega) d_Rows_guess_140 ?_
            refine lv_lstore (lv' := [(9, .long (lN (w - 1))), (2, .int (lo)), (4, .int (s2)), (5, .long (lN (b))), (11, .long (lN (ov))), (13, .int (nI (i)))]) hC.1 hC.2.1 d_Rows_guess_141 hl (by decide) rfl (fun ls hl => ?_)
            refine lv_lload hC.1 hC.2.1 d_Rows_guess_143 (lv_at hl 4 rfl) ?_
            refine lv_lload hC.1 hC.2.1 d_Rows_guess_145 (lv_at hl 3 rfl) ?_
            refine nv_ladd hC d_Rows_guess_147 ?_
            refine lv_lstore (lv' := [(11, .long (lN (ov + b))), (9, .long (lN (w - 1))), (2, .int (lo)), (4, .int (s2)), (5, .long (lN (b))), (13, .int (nI (i)))]) hC.1 hC.2.1 d_Rows_guess_148 hl (by decide) rfl (fun ls hl => ?_)
            refine lv_iinc (v := nI (i + 1)) (lv' := [(13, .int (nI (i + 1))), (11, .long (lN (ov + b))), (9, .long (lN (w - 1))), (2, .int (lo)), (4, .int (s2)), (5, .long (lN (b)))]) hC.1 hC.2.1 d_Rows_guess_150 hl (k := 5) rfl (nv_inc _) (by decide) rfl (fun ls hl => ?_)
            refine lv_goto (tgt := 91) hC.1 hC.2.1 d_Rows_guess_153 (by decide) ?_
            exact ih (i + 1) (w - 1) (ov + b) (by omega) (by
            obtain ⟨w', rfl⟩ : ∃ w', w = w' + 1 := ⟨w - 1, by omega⟩
            rw [Nat.add_sub_cancel]
            rw [Nat.add_mul, Nat.one_mul] at hw
            omega) (by omega) (by omega) (by rw [Nat.add_mul, Nat.one_mul]; omega) (by omega) (by omega) H locs ls hM (lv_sub hl [3, 4, 5, 2, 1, 0] rfl)
          · exact absurd hz (by decide)
        · refine nv_if_ne (tgt := 137) hC (by omega) d_Rows_guess_131 (by decide) (fun hz => ?_) (fun hz => ?_)
          · exact absurd rfl hz
          · refine lv_goto (tgt := 156) hC.1 hC.2.1 d_Rows_guess_134 (by decide) ?_
            obtain rfl := hout ((wm_gu_le hw).mpr ha)
            exact hex H locs ls hM (lv_sub hl [3] rfl)
set_option maxHeartbeats 4000000 in
set_option maxRecDepth 100000 in
theorem c_Rows_guess (l : Launch) (sz : Nat) (h m0 lo t s2 : Int32) (ht : 2147483648 ≤ wm_u t) (hh : wm_u h ≤ wm_u t) : Met l y_Rows_guess (Cond.code y_Rows_guess b_Rows_guess 14 (some .long) :: lw_T) ({ frames := 1, cells := 0, slots := 0, locals := 23 }) (pu_Pc [.int (h), .int (m0), .int (lo), .int (t), .int (s2)] sz) (pu_Ql (fun r => r = lN (wm_gs ((wm_u h * 2 ^ 32 + wm_u m0) * 4294967296 + wm_u lo) (wm_u t * 4294967296 + wm_u s2))) sz) 0 0 (fun q => sz ≤ q) := by
  refine pu_met l (by decide) (Nat.le_of_ble_eq_true rfl) ?_
  intro p e s m below meth c ls hsz hC hr hlk hl
  subst hsz
  have hM : pu_H s s.heap [] := va_S.rf
  have hC : CallFix p m c b_Rows_guess 14 s _ lw_T R_Rows := hC
  have hl : lv_has ls 14 [(0, .int (h)), (1, .int (m0)), (2, .int (lo)), (3, .int (t)), (4, .int (s2))] := hl
  have hb2 := wm_u_lt t
  have hm2 := wm_u_lt m0
  have hh2 := wm_u_lt h
  obtain ⟨b, hb⟩ : ∃ z, z = wm_u t := ⟨_, rfl⟩
  obtain ⟨pr, hpr⟩ : ∃ z, z = wm_u h * 2 ^ 32 + wm_u m0 := ⟨_, rfl⟩
  rw [← hb] at ht hh hb2
  obtain ⟨g1, g2, g3⟩ := wm_half (p := pr) (b := b) (by omega)
  refine lv_iload_n hC.1 hC.2.1 d_Rows_guess_0 rfl (lv_at hl 3 rfl) ?_
  refine nv_low hC kl_Rows_9 d_Rows_guess_1 d_Rows_guess_2 d_Rows_guess_5 ?_
  refine nv_topl (y := lN (b)) (by rw [hb]) ?_
  refine lv_lstore (lv' := [(5, .long (lN (b))), (0, .int (h)), (1, .int (m0)), (2, .int (lo)), (3, .int (t)), (4, .int (s2))]) hC.1 hC.2.1 d_Rows_guess_6 hl (by decide) rfl (fun ls hl => ?_)
  refine lv_lload hC.1 hC.2.1 d_Rows_guess_8 (lv_at hl 0 rfl) ?_
  refine lv_lconst (v := lN 0) hC.1 hC.2.1 d_Rows_guess_10 (by decide) ?_
  refine nv_lc_ne (tgt := 19) hC (by omega) (by omega) d_Rows_guess_11 d_Rows_guess_12 (by decide) (fun hz => ?_) (fun hz => ?_)
  · refine lv_iload_n hC.1 hC.2.1 d_Rows_guess_19 rfl (lv_at hl 1 rfl) ?_
    refine nv_hi hC d_Rows_guess_20 d_Rows_guess_21 d_Rows_guess_23 ?_
    refine lv_iload_n hC.1 hC.2.1 d_Rows_guess_24 rfl (lv_at hl 2 rfl) ?_
    refine nv_low hC kl_Rows_9 d_Rows_guess_25 d_Rows_guess_26 d_Rows_guess_29 ?_
    refine nv_pair (k := 32) hC (by omega) (by omega) d_Rows_guess_30 ?_
    refine nv_topl (y := lN (pr)) (by rw [hpr]) ?_
    refine lv_lstore (lv' := [(7, .long (lN (pr))), (5, .long (lN (b))), (0, .int (h)), (1, .int (m0)), (2, .int (lo)), (3, .int (t)), (4, .int (s2))]) hC.1 hC.2.1 d_Rows_guess_31 hl (by decide) rfl (fun ls hl => ?_)
    refine lv_lload hC.1 hC.2.1 d_Rows_guess_33 (lv_at hl 0 rfl) ?_
    refine lv_iconst (v := nI 1) hC.1 hC.2.1 d_Rows_guess_35 (by decide) ?_
    refine nv_lushr hC (by omega) (by decide) d_Rows_guess_36 ?_
    refine lv_lload hC.1 hC.2.1 d_Rows_guess_37 (lv_at hl 1 rfl) ?_
    refine nv_ldiv hC (by omega) (by omega) (by omega) d_Rows_guess_39 ?_
    refine lv_iconst (v := nI 1) hC.1 hC.2.1 d_Rows_guess_40 (by decide) ?_
    refine nv_lshl hC (by omega) d_Rows_guess_41 ?_
    refine nv_topl (y := lN (pr / 2 / b * 2)) rfl ?_
    refine lv_lstore (lv' := [(9, .long (lN (pr / 2 / b * 2))), (7, .long (lN (pr))), (5, .long (lN (b))), (0, .int (h)), (1, .int (m0)), (2, .int (lo)), (3, .int (t)), (4, .int (s2))]) hC.1 hC.2.1 d_Rows_guess_42 hl (by decide) rfl (fun ls hl => ?_)
    refine lv_lload hC.1 hC.2.1 d_Rows_guess_44 (lv_at hl 0 rfl) ?_
    refine lv_lload hC.1 hC.2.1 d_Rows_guess_46 (lv_at hl 1 rfl) ?_
    refine lv_lload hC.1 hC.2.1 d_Rows_guess_48 (lv_at hl 0 rfl) ?_
    refine lv_lload hC.1 hC.2.1 d_Rows_guess_50 (lv_at hl 2 rfl) ?_
    refine nv_lmul hC d_Rows_guess_52 ?_
    refine nv_lsub hC g1 d_Rows_guess_53 ?_
    refine lv_lload hC.1 hC.2.1 d_Rows_guess_54 (lv_at hl 2 rfl) ?_
    refine nv_lc_lt (tgt := 64) hC (by omega) (by omega) d_Rows_guess_56 d_Rows_guess_57 (by decide) (fun hs => ?_) (fun hs => ?_)
    · refine lv_lconst (v := lN 0) hC.1 hC.2.1 d_Rows_guess_64 (by decide) ?_
      refine nv_ladd hC d_Rows_guess_65 ?_
      refine nv_topl (y := lN (pr / b)) (by rw [g3, if_neg (by omega)]) ?_
      refine lv_lstore (lv' := [(9, .long (lN (pr / b))), (7, .long (lN (pr))), (5, .long (lN (b))), (0, .int (h)), (1, .int (m0)), (2, .int (lo)), (3, .int (t)), (4, .int (s2))]) hC.1 hC.2.1 d_Rows_guess_66 hl (by decide) rfl (fun ls hl => ?_)
      refine lv_lload hC.1 hC.2.1 d_Rows_guess_68 (lv_at hl 0 rfl) ?_
      refine lv_ldc2 (v := lN 4294967295) hC.1 hC.2.1 hC.2.2.2.1 (hC.2.2.2.2 _ kl_Rows_9) d_Rows_guess_70 ?_
      have hqd : pr / b * b ≤ pr := Nat.div_mul_le_self _ _
      have hqm := Nat.mod_add_div pr b
      have hqr := Nat.mod_lt pr (show b > 0 by omega)
      have hqb : pr / b < 2 ^ 63 := by rw [Nat.div_lt_iff_lt_mul (by omega)]; have : 2 ^ 63 * 2147483648 ≤ 2 ^ 63 * b := Nat.mul_le_mul_left _ (by omega); omega
      refine nv_mminL hC hl.1 kj_Rows_11 kj_s_minL ki_Math kj_c_minL (Nat.le_of_ble_eq_true rfl) (Nat.le_of_ble_eq_true rfl) hqb (by decide) d_Rows_guess_73 ?_
      obtain ⟨w1, hw1⟩ : ∃ z, z = min (pr / b) 4294967295 := ⟨_, rfl⟩
      refine nv_topl (y := lN (w1)) (by rw [hw1]) ?_
      have hle : w1 * b ≤ pr := Nat.le_trans (Nat.mul_le_mul_right b (show w1 ≤ pr / b by omega)) hqd
      have hov : pr - w1 * b < 2 * 4294967296 := by
        rcases Nat.lt_or_ge (pr / b) 4294967295 with z | z
        · have e : w1 = pr / b := by omega
          rw [e, Nat.mul_comm]
          omega
        · have e : w1 = 4294967295 := by omega
          rw [e]
          omega
      refine lv_lstore (lv' := [(9, .long (lN (w1))), (7, .long (lN (pr))), (5, .long (lN (b))), (0, .int (h)), (1, .int (m0)), (2, .int (lo)), (3, .int (t)), (4, .int (s2))]) hC.1 hC.2.1 d_Rows_guess_76 hl (by decide) rfl (fun ls hl => ?_)
      refine lv_lload hC.1 hC.2.1 d_Rows_guess_78 (lv_at hl 1 rfl) ?_
      refine lv_lload hC.1 hC.2.1 d_Rows_guess_80 (lv_at hl 0 rfl) ?_
      refine lv_lload hC.1 hC.2.1 d_Rows_guess_82 (lv_at hl 2 rfl) ?_
      refine nv_lmul hC d_Rows_guess_84 ?_
      refine nv_lsub hC hle d_Rows_guess_85 ?_
      refine lv_lstore (lv' := [(11, .long (lN (pr - (w1 * b)))), (9, .long (lN (w1))), (7, .long (lN (pr))), (5, .long (lN (b))), (0, .int (h)), (1, .int (m0)), (2, .int (lo)), (3, .int (t)), (4, .int (s2))]) hC.1 hC.2.1 d_Rows_guess_86 hl (by decide) rfl (fun ls hl => ?_)
      refine lv_iconst (v := nI 0) hC.1 hC.2.1 d_Rows_guess_88 (by decide) ?_
      refine lv_istore (lv' := [(13, .int (nI (0))), (11, .long (lN (pr - (w1 * b)))), (9, .long (lN (w1))), (7, .long (lN (pr))), (5, .long (lN (b))), (0, .int (h)), (1, .int (m0)), (2, .int (lo)), (3, .int (t)), (4, .int (s2))]) hC.1 hC.2.1 d_Rows_guess_89 hl (by decide) rfl (fun ls hl => ?_)
      refine lp_Rows_guess hC lo s2 pr b (by omega) hb2 (fun H locs ls hM hl => ?_) 3 0 w1 (pr - w1 * b) (by decide) (by omega) (by
        have h1 := wm_gu_0 (pair := pr) (b := b) (sec := wm_u s2) (lo := wm_u lo) (by omega) (wm_u_lt _)
        have h2 := wm_gs_lt (pr * 4294967296 + wm_u lo) (b * 4294967296 + wm_u s2)
        omega) (by omega) (by omega) (by omega) (by decide) _ _ _ hM (lv_sub hl [7, 9, 4, 2, 1, 0] rfl)
      refine lv_lload hC.1 hC.2.1 d_Rows_guess_156 (lv_at hl 0 rfl) ?_
      exact pu_lret hC hr hM hlk (by rw [hpr, hb]) d_Rows_guess_158
    · refine lv_lconst (v := lN 1) hC.1 hC.2.1 d_Rows_guess_60 (by decide) ?_
      refine lv_goto (tgt := 65) hC.1 hC.2.1 d_Rows_guess_61 (by decide) ?_
      refine nv_ladd hC d_Rows_guess_65 ?_
      refine nv_topl (y := lN (pr / b)) (by rw [g3, if_pos hs]) ?_
      refine lv_lstore (lv' := [(9, .long (lN (pr / b))), (7, .long (lN (pr))), (5, .long (lN (b))), (0, .int (h)), (1, .int (m0)), (2, .int (lo)), (3, .int (t)), (4, .int (s2))]) hC.1 hC.2.1 d_Rows_guess_66 hl (by decide) rfl (fun ls hl => ?_)
      refine lv_lload hC.1 hC.2.1 d_Rows_guess_68 (lv_at hl 0 rfl) ?_
      refine lv_ldc2 (v := lN 4294967295) hC.1 hC.2.1 hC.2.2.2.1 (hC.2.2.2.2 _ kl_Rows_9) d_Rows_guess_70 ?_
      have hqd : pr / b * b ≤ pr := Nat.div_mul_le_self _ _
      have hqm := Nat.mod_add_div pr b
      have hqr := Nat.mod_lt pr (show b > 0 by omega)
      have hqb : pr / b < 2 ^ 63 := by rw [Nat.div_lt_iff_lt_mul (by omega)]; have : 2 ^ 63 * 2147483648 ≤ 2 ^ 63 * b := Nat.mul_le_mul_left _ (by omega); omega
      refine nv_mminL hC hl.1 kj_Rows_11 kj_s_minL ki_Math kj_c_minL (Nat.le_of_ble_eq_true rfl) (Nat.le_of_ble_eq_true rfl) hqb (by decide) d_Rows_guess_73 ?_
      obtain ⟨w1, hw1⟩ : ∃ z, z = min (pr / b) 4294967295 := ⟨_, rfl⟩
      refine nv_topl (y := lN (w1)) (by rw [hw1]) ?_
      have hle : w1 * b ≤ pr := Nat.le_trans (Nat.mul_le_mul_right b (show w1 ≤ pr / b by omega)) hqd
      have hov : pr - w1 * b < 2 * 4294967296 := by
        rcases Nat.lt_or_ge (pr / b) 4294967295 with z | z
        · have e : w1 = pr / b := by omega
          rw [e, Nat.mul_comm]
          omega
        · have e : w1 = 4294967295 := by omega
          rw [e]
          omega
      refine lv_lstore (lv' := [(9, .long (lN (w1))), (7, .long (lN (pr))), (5, .long (lN (b))), (0, .int (h)), (1, .int (m0)), (2, .int (lo)), (3, .int (t)), (4, .int (s2))]) hC.1 hC.2.1 d_Rows_guess_76 hl (by decide) rfl (fun ls hl => ?_)
      refine lv_lload hC.1 hC.2.1 d_Rows_guess_78 (lv_at hl 1 rfl) ?_
      refine lv_lload hC.1 hC.2.1 d_Rows_guess_80 (lv_at hl 0 rfl) ?_
      refine lv_lload hC.1 hC.2.1 d_Rows_guess_82 (lv_at hl 2 rfl) ?_
      refine nv_lmul hC d_Rows_guess_84 ?_
      refine nv_lsub hC hle d_Rows_guess_85 ?_
      refine lv_lstore (lv' := [(11, .long (lN (pr - (w1 * b)))), (9, .long (lN (w1))), (7, .long (lN (pr))), (5, .long (lN (b))), (0, .int (h)), (1, .int (m0)), (2, .int (lo)), (3, .int (t)), (4, .int (s2))]) hC.1 hC.2.1 d_Rows_guess_86 hl (by decide) rfl (fun ls hl => ?_)
      refine lv_iconst (v := nI 0) hC.1 hC.2.1 d_Rows_guess_88 (by decide) ?_
      refine lv_istore (lv' := [(13, .int (nI (0))), (11, .long (lN (pr - (w1 * b)))), (9, .long (lN (w1))), (7, .long (lN (pr))), (5, .long (lN (b))), (0, .int (h)), (1, .int (m0)), (2, .int (lo)), (3, .int (t)), (4, .int (s2))]) hC.1 hC.2.1 d_Rows_guess_89 hl (by decide) rfl (fun ls hl => ?_)
      refine lp_Rows_guess hC lo s2 pr b (by omega) hb2 (fun H locs ls hM hl => ?_) 3 0 w1 (pr - w1 * b) (by decide) (by omega) (by
        have h1 := wm_gu_0 (pair := pr) (b := b) (sec := wm_u s2) (lo := wm_u lo) (by omega) (wm_u_lt _)
        have h2 := wm_gs_lt (pr * 4294967296 + wm_u lo) (b * 4294967296 + wm_u s2)
        omega) (by omega) (by omega) (by omega) (by decide) _ _ _ hM (lv_sub hl [7, 9, 4, 2, 1, 0] rfl)
      refine lv_lload hC.1 hC.2.1 d_Rows_guess_156 (lv_at hl 0 rfl) ?_
      exact pu_lret hC hr hM hlk (by rw [hpr, hb]) d_Rows_guess_158
  · exact absurd hz (by omega)
