set_option maxHeartbeats 4000000 in
set_option maxRecDepth 100000 in
theorem lp_Mod_compareRows {p : Program} {l : Launch} {e : Env} {R : Room} {s : State} {m : MethodId} {args : Array Value} {below : List Frame} {meth : Method} {c : Code} {Q : State → Prop} {D : va_G} {ad : Nat → Nat} {cA : ClassId} (hC : CallFix p m c b_Mod_compareRows 5 s args lw_T R_Mod) (hK : va_K D classes (md_ty cA) s) (ln : Nat → Nat) (wd : Nat → Nat → Nat) (i j n0 A B : Nat) (hi : 2 ≤ i ∧ i < 5) (hj : 2 ≤ j ∧ j < 5) (ha : mr_r 8200 (wd i) n0 A) (hb : mr_r 8200 (wd j) n0 B) (hret : ∀ (r : Int32) (pc : Nat) (H : Heap) (locs : List Loc) (ls : Array Slot), decode b_Mod_compareRows pc = .ok (.ireturn, 1) → r = wm_ord A B → md_M D ad cA s ln wd H locs → W p l e R s m args below meth c H locs 0 0 Q (F0 m pc ls [.int r])) :
    ∀ (n : Nat) (x : Nat), (x ≤ n0) → (∀ k, x ≤ k → k < n0 → wd i k = wd j k) → x + 1 ≤ n → ∀ (H : Heap) (locs : List Loc) (ls : Array Slot), md_M D ad cA s (ln) (wd) H locs → lv_has ls 5 [(0, .ref (ad i)), (2, .ref (ad j)), (4, .int (nI (x) + (-1)))] → W p l e R s m args below meth c H locs 0 0 Q (F0 m 21 ls []) := by
  intro n
  induction n with
  | zero =>
    intro x hx heq hn
    exact absurd hn (by omega)
  | succ n ih =>
    intro x hx heq hn H locs ls hM hl
    have hl1 := ha.1
    refine lv_iload hC.1 hC.2.1 d_Mod_compareRows_21 (lv_at hl 2 rfl) ?_
    refine nv_down_lt (tgt := 60) hC (by omega) d_Mod_compareRows_23 (by decide) (fun hz => ?_) (fun y hy => ?_)
    · subst hz
      refine lv_iconst (v := nI 0) hC.1 hC.2.1 d_Mod_compareRows_60 (by decide) ?_
      exact hret _ _ H locs ls d_Mod_compareRows_61 (wm_ord_eq (by rw [← ha.2.2.2.2, ← hb.2.2.2.2]; exact mv_congr (fun k hk => heq k (Nat.zero_le _) hk))).symm hM
    · subst hy
      have hl : lv_has ls 5 [(0, .ref (ad i)), (2, .ref (ad j)), (4, .int (nI (y)))] := by rw [pk_m1] at hl; exact hl
      have d1 := ha.2.1 y (by omega)
      have d2 := hb.2.1 y (by omega)
      refine lv_aload_n hC.1 hC.2.1 d_Mod_compareRows_26 rfl (lv_at hl 0 rfl) ?_
      refine lv_iload hC.1 hC.2.1 d_Mod_compareRows_27 (lv_at hl 2 rfl) ?_
      refine md_ald hC hK hM (j := i) (k := y) hi.2 (md_ltk hi (by omega)) d_Mod_compareRows_29 ?_
      refine lv_aload_n hC.1 hC.2.1 d_Mod_compareRows_30 rfl (lv_at hl 1 rfl) ?_
      refine lv_iload hC.1 hC.2.1 d_Mod_compareRows_31 (lv_at hl 2 rfl) ?_
      refine md_ald hC hK hM (j := j) (k := y) hj.2 (md_ltk hj (by omega)) d_Mod_compareRows_33 ?_
      refine nv_icmp_eq (tgt := 54) hC (by omega) (by omega) d_Mod_compareRows_34 (by decide) (fun hc => ?_) (fun hc => ?_)
      · refine lv_iinc (v := nI (y) + (-1)) (lv' := [(4, .int (nI (y) + (-1))), (0, .ref (ad i)), (2, .ref (ad j))]) hC.1 hC.2.1 d_Mod_compareRows_54 hl (k := 2) rfl (rfl) (by decide) rfl (fun ls hl => ?_)
        refine lv_goto (tgt := 21) hC.1 hC.2.1 d_Mod_compareRows_57 (by decide) ?_
        exact ih y (by omega) (fun k h1 h2 => by
        rcases Nat.eq_or_lt_of_le h1 with z | z
        · rw [← z]; exact hc
        · exact heq k (by omega) h2) (by omega) H locs ls hM (lv_sub hl [1, 2, 0] rfl)
      · refine lv_aload_n hC.1 hC.2.1 d_Mod_compareRows_37 rfl (lv_at hl 0 rfl) ?_
        refine lv_iload hC.1 hC.2.1 d_Mod_compareRows_38 (lv_at hl 2 rfl) ?_
        refine md_ald hC hK hM (j := i) (k := y) hi.2 (md_ltk hi (by omega)) d_Mod_compareRows_40 ?_
        refine lv_aload_n hC.1 hC.2.1 d_Mod_compareRows_41 rfl (lv_at hl 1 rfl) ?_
        refine lv_iload hC.1 hC.2.1 d_Mod_compareRows_42 (lv_at hl 2 rfl) ?_
        refine md_ald hC hK hM (j := j) (k := y) hj.2 (md_ltk hj (by omega)) d_Mod_compareRows_44 ?_
        refine nv_icmp_ge (tgt := 52) hC (by omega) (by omega) d_Mod_compareRows_45 (by decide) (fun hl2 => ?_) (fun hl2 => ?_)
        · refine lv_iconst (v := nI 1) hC.1 hC.2.1 d_Mod_compareRows_52 (by decide) ?_
          exact hret _ _ H locs ls d_Mod_compareRows_53 (wm_ord_gt (by rw [← ha.2.2.2.2, ← hb.2.2.2.2]; exact mv_cmp (i := y) (fun q hq => hb.2.1 q (by omega)) (by omega) (fun k h1 h2 => (heq k (by omega) h2).symm) (by omega))).symm hM
        · refine lv_iconst (v := -1) hC.1 hC.2.1 d_Mod_compareRows_48 (by decide) ?_
          refine lv_goto (tgt := 53) hC.1 hC.2.1 d_Mod_compareRows_49 (by decide) ?_
          exact hret _ _ H locs ls d_Mod_compareRows_53 (wm_ord_lt (by rw [← ha.2.2.2.2, ← hb.2.2.2.2]; exact mv_cmp (i := y) (fun q hq => ha.2.1 q (by omega)) (by omega) (fun k h1 h2 => heq k (by omega) h2) hl2)).symm hM
set_option maxHeartbeats 4000000 in
set_option maxRecDepth 100000 in
theorem c_Mod_compareRows (l : Launch) (D : va_G) (ad : Nat → Nat) (cA : ClassId) (sz : Nat) (ln : Nat → Nat) (wd : Nat → Nat → Nat) (i n0 j m0 A B : Nat) (hi : 2 ≤ i ∧ i < 5) (hj : 2 ≤ j ∧ j < 5) (ha : mr_r 8200 (wd i) n0 A) (hb : mr_r 8200 (wd j) m0 B) : Met l y_Mod_compareRows (Cond.code y_Mod_compareRows b_Mod_compareRows 5 (some .int) :: lw_T) ({ frames := 0, cells := 0, slots := 0, locals := 0 }) (va_Pc [.ref (ad i), .int (nI (n0)), .ref (ad j), .int (nI (m0))] (md_B D ad cA sz ln wd)) (va_Qi (fun (r : Int32) (u : md_St) => r = wm_ord A B ∧ u = (ln, wd)) (md_E D ad cA sz) (md_A ad sz)) 0 0 (md_A ad sz) := by
  refine md_met l (by decide) (Nat.le_of_ble_eq_true rfl) ?_
  intro p e s m below meth c ls hsz hC hK hr hlk hM hl
  subst hsz
  have hC : CallFix p m c b_Mod_compareRows 5 s _ lw_T R_Mod := hC
  have hl : lv_has ls 5 [(0, .ref (ad i)), (1, .int (nI (n0))), (2, .ref (ad j)), (3, .int (nI (m0)))] := hl
  have hl1 := ha.1
  have hl2 := hb.1
  refine lv_iload_n hC.1 hC.2.1 d_Mod_compareRows_0 rfl (lv_at hl 1 rfl) ?_
  refine lv_iload_n hC.1 hC.2.1 d_Mod_compareRows_1 rfl (lv_at hl 3 rfl) ?_
  refine nv_icmp_eq (tgt := 16) hC (by omega) (by omega) d_Mod_compareRows_2 (by decide) (fun hc => ?_) (fun hc => ?_)
  · have hb2 := hb
    rw [← hc] at hb2
    refine lv_iload_n hC.1 hC.2.1 d_Mod_compareRows_16 rfl (lv_at hl 1 rfl) ?_
    refine lv_iconst (v := nI 1) hC.1 hC.2.1 d_Mod_compareRows_17 (by decide) ?_
    refine nv_isub1 hC d_Mod_compareRows_18 ?_
    refine lv_istore (lv' := [(4, .int (nI (n0) + (-1))), (0, .ref (ad i)), (1, .int (nI (n0))), (2, .ref (ad j)), (3, .int (nI (m0)))]) hC.1 hC.2.1 d_Mod_compareRows_19 hl (by decide) rfl (fun ls hl => ?_)
    exact lp_Mod_compareRows hC hK ln wd i j n0 A B hi hj ha hb2 (fun r pc H locs ls hd hrr hM => md_iret hC hK hM hr hlk ⟨hrr, rfl⟩ hd) (n0 + 1) n0 (Nat.le_refl _) (fun k h1 h2 => absurd h2 (by omega)) (Nat.le_refl _) _ _ _ hM (lv_sub hl [1, 3, 0] rfl)
  · refine lv_iload_n hC.1 hC.2.1 d_Mod_compareRows_5 rfl (lv_at hl 1 rfl) ?_
    refine lv_iload_n hC.1 hC.2.1 d_Mod_compareRows_6 rfl (lv_at hl 3 rfl) ?_
    refine nv_icmp_ge (tgt := 14) hC (by omega) (by omega) d_Mod_compareRows_7 (by decide) (fun hd => ?_) (fun hd => ?_)
    · refine lv_iconst (v := nI 1) hC.1 hC.2.1 d_Mod_compareRows_14 (by decide) ?_
      exact md_iret hC hK hM hr hlk ⟨(wm_ord_gt (mr_cmp hb ha (by omega))).symm, rfl⟩ d_Mod_compareRows_15
    · refine lv_iconst (v := -1) hC.1 hC.2.1 d_Mod_compareRows_10 (by decide) ?_
      refine lv_goto (tgt := 15) hC.1 hC.2.1 d_Mod_compareRows_11 (by decide) ?_
      exact md_iret hC hK hM hr hlk ⟨(wm_ord_lt (mr_cmp ha hb hd)).symm, rfl⟩ d_Mod_compareRows_15
set_option maxHeartbeats 4000000 in
set_option maxRecDepth 100000 in
theorem lp_Mod_lessen {p : Program} {l : Launch} {e : Env} {R : Room} {s : State} {m : MethodId} {args : Array Value} {below : List Frame} {meth : Method} {c : Code} {Q : State → Prop} {D : va_G} {ad : Nat → Nat} {cA : ClassId} (hC : CallFix p m c b_Mod_lessen 7 s args lw_T R_Mod) (hK : va_K D classes (md_ty cA) s) (ln : Nat → Nat) (wd : Nat → Nat → Nat) (i j n0 m0 A B : Nat) (hi : 2 ≤ i ∧ i < 5) (hj : 2 ≤ j ∧ j < 5) (hij : i ≠ j) (ha : mr_r 8200 (wd i) n0 A) (hb : mr_r 8200 (wd j) m0 B)
    (hex : ∀ (cy : Nat) (w : Nat → Nat → Nat), (cy ≤ 1) → (∀ j, j ≠ i → w j = wd j) → (mv_v (w i) n0 + mv_v (wd j) n0 = mv_v (wd i) n0 + cy * 65536 ^ n0) → (∀ q, q < 8200 → w i q < 65536) → (∀ q, n0 ≤ q → w i q = wd i q) → ∀ (H : Heap) (locs : List Loc) (ls : Array Slot), md_M D ad cA s (ln) (w) H locs → lv_has ls 7 [(0, .ref (ad i)), (1, .int (nI (n0)))] → W p l e R s m args below meth c H locs 0 0 Q (F0 m 73 ls [])) :
    ∀ (n : Nat) (k : Nat) (cy : Nat) (w : Nat → Nat → Nat), (k ≤ n0) → (cy ≤ 1) → (∀ j, j ≠ i → w j = wd j) → (mv_v (w i) k + mv_v (wd j) k = mv_v (wd i) k + cy * 65536 ^ k) → (∀ q, q < 8200 → w i q < 65536) → (∀ q, k ≤ q → w i q = wd i q) → n0 + 1 ≤ k + n → ∀ (H : Heap) (locs : List Loc) (ls : Array Slot), md_M D ad cA s (ln) (w) H locs → lv_has ls 7 [(0, .ref (ad i)), (1, .int (nI (n0))), (2, .ref (ad j)), (3, .int (nI (m0))), (4, .int (nI (cy))), (5, .int (nI (k)))] → W p l e R s m args below meth c H locs 0 0 Q (F0 m 6 ls []) := by
  intro n
  induction n with
  | zero =>
    intro k cy w hk hc hw hS hd ho hn
    exact absurd hn (by omega)
  | succ n ih =>
    intro k cy w hk hc hw hS hd ho hn H locs ls hM hl
    have hn1 := ha.1
    have hm1 := hb.1
    refine lv_iload hC.1 hC.2.1 d_Mod_lessen_6 (lv_at hl 5 rfl) ?_
    refine lv_iload_n hC.1 hC.2.1 d_Mod_lessen_8 rfl (lv_at hl 1 rfl) ?_
    refine nv_icmp_ge (tgt := 73) hC (by omega) (by omega) d_Mod_lessen_9 (by decide) (fun hk2 => ?_) (fun hk2 => ?_)
    · obtain rfl : k = n0 := by omega
      exact hex cy w hc hw hS hd ho H locs ls hM (lv_sub hl [0, 1] rfl)
    · have d1 := ha.2.1 k (by omega)
      have d2 := hb.2.1 k (by omega)
      refine lv_aload_n hC.1 hC.2.1 d_Mod_lessen_12 rfl (lv_at hl 0 rfl) ?_
      refine lv_iload hC.1 hC.2.1 d_Mod_lessen_13 (lv_at hl 5 rfl) ?_
      refine md_ald hC hK hM (j := i) (k := k) hi.2 (md_ltk hi (by omega)) d_Mod_lessen_15 ?_
      refine nv_top (y := nI (wd i k)) (by rw [ho _ (Nat.le_refl _)]) ?_
      refine lv_iload hC.1 hC.2.1 d_Mod_lessen_16 (lv_at hl 5 rfl) ?_
      refine lv_iload_n hC.1 hC.2.1 d_Mod_lessen_18 rfl (lv_at hl 3 rfl) ?_
      refine nv_icmp_ge (tgt := 29) hC (by omega) (by omega) d_Mod_lessen_19 (by decide) (fun hm => ?_) (fun hm => ?_)
      · refine lv_iconst (v := nI 0) hC.1 hC.2.1 d_Mod_lessen_29 (by decide) ?_
        refine nv_top (y := nI (wd j k)) (by rw [hb.2.2.1 k hm (by omega)]) ?_
        rcases Nat.lt_or_ge (wd i k) (wd j k + cy) with hlt | hge
        · have hneg := md_neg d2 hc hlt
          have hlt2 := Int32.not_le.mpr hneg.1
          refine lv_isub hC.1 hC.2.1 d_Mod_lessen_30 ?_
          refine lv_iload hC.1 hC.2.1 d_Mod_lessen_31 (lv_at hl 4 rfl) ?_
          refine lv_isub hC.1 hC.2.1 d_Mod_lessen_33 ?_
          refine lv_istore (lv' := [(6, .int (((nI (wd i k)) - (nI (wd j k))) - (nI (cy)))), (0, .ref (ad i)), (1, .int (nI (n0))), (2, .ref (ad j)), (3, .int (nI (m0))), (4, .int (nI (cy))), (5, .int (nI (k)))]) hC.1 hC.2.1 d_Mod_lessen_34 hl (by decide) rfl (fun ls hl => ?_)
          refine lv_iload hC.1 hC.2.1 d_Mod_lessen_36 (lv_at hl 0 rfl) ?_
          refine lv_if_ge (tgt := 45) hC.1 hC.2.1 d_Mod_lessen_38 (by decide) (fun hs => ?_) (fun hs => ?_)
          · exact absurd hs hlt2
          · refine lv_iconst (v := nI 1) hC.1 hC.2.1 d_Mod_lessen_41 (by decide) ?_
            refine lv_goto (tgt := 46) hC.1 hC.2.1 d_Mod_lessen_42 (by decide) ?_
            refine lv_istore (lv' := [(4, .int (nI (1))), (6, .int (((nI (wd i k)) - (nI (wd j k))) - (nI (cy)))), (0, .ref (ad i)), (1, .int (nI (n0))), (2, .ref (ad j)), (3, .int (nI (m0))), (5, .int (nI (k)))]) hC.1 hC.2.1 d_Mod_lessen_46 hl (by decide) rfl (fun ls hl => ?_)
            refine lv_aload_n hC.1 hC.2.1 d_Mod_lessen_48 rfl (lv_at hl 2 rfl) ?_
            refine lv_iload hC.1 hC.2.1 d_Mod_lessen_49 (lv_at hl 6 rfl) ?_
            refine lv_iload hC.1 hC.2.1 d_Mod_lessen_51 (lv_at hl 1 rfl) ?_
            refine lv_if_ge (tgt := 64) hC.1 hC.2.1 d_Mod_lessen_53 (by decide) (fun hs2 => ?_) (fun hs2 => ?_)
            · exact absurd hs2 hlt2
            · refine lv_iload hC.1 hC.2.1 d_Mod_lessen_56 (lv_at hl 1 rfl) ?_
              refine lv_ldc (v := nI 65536) hC.1 hC.2.1 hC.2.2.2.1 (hC.2.2.2.2 _ kk_Mod_7) d_Mod_lessen_58 ?_
              refine lv_iadd hC.1 hC.2.1 d_Mod_lessen_60 ?_
              refine nv_top (y := nI (65536 + wd i k - wd j k - cy)) hneg.2 ?_
              refine lv_goto (tgt := 66) hC.1 hC.2.1 d_Mod_lessen_61 (by decide) ?_
              refine md_ast hC hK hM (j := i) (k := k) (v := 65536 + wd i k - wd j k - cy) hi.2 (md_ltk hi (by omega)) d_Mod_lessen_66 (fun H locs hM => ?_)
              refine lv_iinc (v := nI (k + 1)) (lv' := [(5, .int (nI (k + 1))), (4, .int (nI (1))), (6, .int (((nI (wd i k)) - (nI (wd j k))) - (nI (cy)))), (0, .ref (ad i)), (1, .int (nI (n0))), (2, .ref (ad j)), (3, .int (nI (m0)))]) hC.1 hC.2.1 d_Mod_lessen_67 hl (k := 6) rfl (nv_inc _) (by decide) rfl (fun ls hl => ?_)
              refine lv_goto (tgt := 6) hC.1 hC.2.1 d_Mod_lessen_70 (by decide) ?_
              exact ih (k + 1) 1 (va_up w i (va_up (w i) k (65536 + wd i k - wd j k - cy))) (by omega) (Nat.le_refl _) (fun j hj => by rw [va_up_ne _ _ hj]; exact hw j hj) (by
              rw [va_up_self, mv_ups, mv_s, mv_s, Nat.pow_succ]
              exact mv_subst hS (by omega)) (by rw [va_up_self]; exact mv_upd_d hd (by omega)) (fun q hq => by rw [va_up_self, va_up_ne _ _ (by omega)]; exact ho q (by omega)) (by omega) H locs ls hM (lv_sub hl [3, 4, 5, 6, 1, 0] rfl)
        · refine nv_isub hC (by omega) d_Mod_lessen_30 ?_
          refine lv_iload hC.1 hC.2.1 d_Mod_lessen_31 (lv_at hl 4 rfl) ?_
          refine nv_isub hC (by omega) d_Mod_lessen_33 ?_
          refine lv_istore (lv' := [(6, .int (nI (((wd i k) - (wd j k)) - cy))), (0, .ref (ad i)), (1, .int (nI (n0))), (2, .ref (ad j)), (3, .int (nI (m0))), (4, .int (nI (cy))), (5, .int (nI (k)))]) hC.1 hC.2.1 d_Mod_lessen_34 hl (by decide) rfl (fun ls hl => ?_)
          refine lv_iload hC.1 hC.2.1 d_Mod_lessen_36 (lv_at hl 0 rfl) ?_
          refine lv_if_ge (tgt := 45) hC.1 hC.2.1 d_Mod_lessen_38 (by decide) (fun hs => ?_) (fun hs => ?_)
          · refine lv_iconst (v := nI 0) hC.1 hC.2.1 d_Mod_lessen_45 (by decide) ?_
            refine lv_istore (lv' := [(4, .int (nI (0))), (6, .int (nI (((wd i k) - (wd j k)) - cy))), (0, .ref (ad i)), (1, .int (nI (n0))), (2, .ref (ad j)), (3, .int (nI (m0))), (5, .int (nI (k)))]) hC.1 hC.2.1 d_Mod_lessen_46 hl (by decide) rfl (fun ls hl => ?_)
            refine lv_aload_n hC.1 hC.2.1 d_Mod_lessen_48 rfl (lv_at hl 2 rfl) ?_
            refine lv_iload hC.1 hC.2.1 d_Mod_lessen_49 (lv_at hl 6 rfl) ?_
            refine lv_iload hC.1 hC.2.1 d_Mod_lessen_51 (lv_at hl 1 rfl) ?_
            refine lv_if_ge (tgt := 64) hC.1 hC.2.1 d_Mod_lessen_53 (by decide) (fun hs2 => ?_) (fun hs2 => ?_)
            · refine lv_iload hC.1 hC.2.1 d_Mod_lessen_64 (lv_at hl 1 rfl) ?_
              refine md_ast hC hK hM (j := i) (k := k) (v := ((wd i k) - (wd j k)) - cy) hi.2 (md_ltk hi (by omega)) d_Mod_lessen_66 (fun H locs hM => ?_)
              refine lv_iinc (v := nI (k + 1)) (lv' := [(5, .int (nI (k + 1))), (4, .int (nI (0))), (6, .int (nI (((wd i k) - (wd j k)) - cy))), (0, .ref (ad i)), (1, .int (nI (n0))), (2, .ref (ad j)), (3, .int (nI (m0)))]) hC.1 hC.2.1 d_Mod_lessen_67 hl (k := 6) rfl (nv_inc _) (by decide) rfl (fun ls hl => ?_)
              refine lv_goto (tgt := 6) hC.1 hC.2.1 d_Mod_lessen_70 (by decide) ?_
              exact ih (k + 1) 0 (va_up w i (va_up (w i) k (wd i k - wd j k - cy))) (by omega) (Nat.zero_le _) (fun j hj => by rw [va_up_ne _ _ hj]; exact hw j hj) (by
              rw [va_up_self, mv_ups, mv_s, mv_s, Nat.pow_succ]
              exact mv_subst hS (by omega)) (by rw [va_up_self]; exact mv_upd_d hd (by omega)) (fun q hq => by rw [va_up_self, va_up_ne _ _ (by omega)]; exact ho q (by omega)) (by omega) H locs ls hM (lv_sub hl [3, 4, 5, 6, 1, 0] rfl)
            · exact absurd (nI_pos' (by omega)) hs2
          · exact absurd (nI_pos' (by omega)) hs
      · refine lv_aload_n hC.1 hC.2.1 d_Mod_lessen_22 rfl (lv_at hl 2 rfl) ?_
        refine lv_iload hC.1 hC.2.1 d_Mod_lessen_23 (lv_at hl 5 rfl) ?_
        refine md_ald hC hK hM (j := j) (k := k) hj.2 (md_ltk hj (by omega)) d_Mod_lessen_25 ?_
        refine nv_top (y := nI (wd j k)) (by rw [hw j (Ne.symm hij)]) ?_
        refine lv_goto (tgt := 30) hC.1 hC.2.1 d_Mod_lessen_26 (by decide) ?_
        rcases Nat.lt_or_ge (wd i k) (wd j k + cy) with hlt | hge
        · have hneg := md_neg d2 hc hlt
          have hlt2 := Int32.not_le.mpr hneg.1
          refine lv_isub hC.1 hC.2.1 d_Mod_lessen_30 ?_
          refine lv_iload hC.1 hC.2.1 d_Mod_lessen_31 (lv_at hl 4 rfl) ?_
          refine lv_isub hC.1 hC.2.1 d_Mod_lessen_33 ?_
          refine lv_istore (lv' := [(6, .int (((nI (wd i k)) - (nI (wd j k))) - (nI (cy)))), (0, .ref (ad i)), (1, .int (nI (n0))), (2, .ref (ad j)), (3, .int (nI (m0))), (4, .int (nI (cy))), (5, .int (nI (k)))]) hC.1 hC.2.1 d_Mod_lessen_34 hl (by decide) rfl (fun ls hl => ?_)
          refine lv_iload hC.1 hC.2.1 d_Mod_lessen_36 (lv_at hl 0 rfl) ?_
          refine lv_if_ge (tgt := 45) hC.1 hC.2.1 d_Mod_lessen_38 (by decide) (fun hs => ?_) (fun hs => ?_)
          · exact absurd hs hlt2
          · refine lv_iconst (v := nI 1) hC.1 hC.2.1 d_Mod_lessen_41 (by decide) ?_
            refine lv_goto (tgt := 46) hC.1 hC.2.1 d_Mod_lessen_42 (by decide) ?_
            refine lv_istore (lv' := [(4, .int (nI (1))), (6, .int (((nI (wd i k)) - (nI (wd j k))) - (nI (cy)))), (0, .ref (ad i)), (1, .int (nI (n0))), (2, .ref (ad j)), (3, .int (nI (m0))), (5, .int (nI (k)))]) hC.1 hC.2.1 d_Mod_lessen_46 hl (by decide) rfl (fun ls hl => ?_)
            refine lv_aload_n hC.1 hC.2.1 d_Mod_lessen_48 rfl (lv_at hl 2 rfl) ?_
            refine lv_iload hC.1 hC.2.1 d_Mod_lessen_49 (lv_at hl 6 rfl) ?_
            refine lv_iload hC.1 hC.2.1 d_Mod_lessen_51 (lv_at hl 1 rfl) ?_
            refine lv_if_ge (tgt := 64) hC.1 hC.2.1 d_Mod_lessen_53 (by decide) (fun hs2 => ?_) (fun hs2 => ?_)
            · exact absurd hs2 hlt2
            · refine lv_iload hC.1 hC.2.1 d_Mod_lessen_56 (lv_at hl 1 rfl) ?_
              refine lv_ldc (v := nI 65536) hC.1 hC.2.1 hC.2.2.2.1 (hC.2.2.2.2 _ kk_Mod_7) d_Mod_lessen_58 ?_
              refine lv_iadd hC.1 hC.2.1 d_Mod_lessen_60 ?_
              refine nv_top (y := nI (65536 + wd i k - wd j k - cy)) hneg.2 ?_
              refine lv_goto (tgt := 66) hC.1 hC.2.1 d_Mod_lessen_61 (by decide) ?_
              refine md_ast hC hK hM (j := i) (k := k) (v := 65536 + wd i k - wd j k - cy) hi.2 (md_ltk hi (by omega)) d_Mod_lessen_66 (fun H locs hM => ?_)
              refine lv_iinc (v := nI (k + 1)) (lv' := [(5, .int (nI (k + 1))), (4, .int (nI (1))), (6, .int (((nI (wd i k)) - (nI (wd j k))) - (nI (cy)))), (0, .ref (ad i)), (1, .int (nI (n0))), (2, .ref (ad j)), (3, .int (nI (m0)))]) hC.1 hC.2.1 d_Mod_lessen_67 hl (k := 6) rfl (nv_inc _) (by decide) rfl (fun ls hl => ?_)
              refine lv_goto (tgt := 6) hC.1 hC.2.1 d_Mod_lessen_70 (by decide) ?_
              exact ih (k + 1) 1 (va_up w i (va_up (w i) k (65536 + wd i k - wd j k - cy))) (by omega) (Nat.le_refl _) (fun j hj => by rw [va_up_ne _ _ hj]; exact hw j hj) (by
              rw [va_up_self, mv_ups, mv_s, mv_s, Nat.pow_succ]
              exact mv_subst hS (by omega)) (by rw [va_up_self]; exact mv_upd_d hd (by omega)) (fun q hq => by rw [va_up_self, va_up_ne _ _ (by omega)]; exact ho q (by omega)) (by omega) H locs ls hM (lv_sub hl [3, 4, 5, 6, 1, 0] rfl)
        · refine nv_isub hC (by omega) d_Mod_lessen_30 ?_
          refine lv_iload hC.1 hC.2.1 d_Mod_lessen_31 (lv_at hl 4 rfl) ?_
          refine nv_isub hC (by omega) d_Mod_lessen_33 ?_
          refine lv_istore (lv' := [(6, .int (nI (((wd i k) - (wd j k)) - cy))), (0, .ref (ad i)), (1, .int (nI (n0))), (2, .ref (ad j)), (3, .int (nI (m0))), (4, .int (nI (cy))), (5, .int (nI (k)))]) hC.1 hC.2.1 d_Mod_lessen_34 hl (by decide) rfl (fun ls hl => ?_)
          refine lv_iload hC.1 hC.2.1 d_Mod_lessen_36 (lv_at hl 0 rfl) ?_
          refine lv_if_ge (tgt := 45) hC.1 hC.2.1 d_Mod_lessen_38 (by decide) (fun hs => ?_) (fun hs => ?_)
          · refine lv_iconst (v := nI 0) hC.1 hC.2.1 d_Mod_lessen_45 (by decide) ?_
            refine lv_istore (lv' := [(4, .int (nI (0))), (6, .int (nI (((wd i k) - (wd j k)) - cy))), (0, .ref (ad i)), (1, .int (nI (n0))), (2, .ref (ad j)), (3, .int (nI (m0))), (5, .int (nI (k)))]) hC.1 hC.2.1 d_Mod_lessen_46 hl (by decide) rfl (fun ls hl => ?_)
            refine lv_aload_n hC.1 hC.2.1 d_Mod_lessen_48 rfl (lv_at hl 2 rfl) ?_
            refine lv_iload hC.1 hC.2.1 d_Mod_lessen_49 (lv_at hl 6 rfl) ?_
            refine lv_iload hC.1 hC.2.1 d_Mod_lessen_51 (lv_at hl 1 rfl) ?_
            refine lv_if_ge (tgt := 64) hC.1 hC.2.1 d_Mod_lessen_53 (by decide) (fun hs2 => ?_) (fun hs2 => ?_)
            · refine lv_iload hC.1 hC.2.1 d_Mod_lessen_64 (lv_at hl 1 rfl) ?_
              refine md_ast hC hK hM (j := i) (k := k) (v := ((wd i k) - (wd j k)) - cy) hi.2 (md_ltk hi (by omega)) d_Mod_lessen_66 (fun H locs hM => ?_)
              refine lv_iinc (v := nI (k + 1)) (lv' := [(5, .int (nI (k + 1))), (4, .int (nI (0))), (6, .int (nI (((wd i k) - (wd j k)) - cy))), (0, .ref (ad i)), (1, .int (nI (n0))), (2, .ref (ad j)), (3, .int (nI (m0)))]) hC.1 hC.2.1 d_Mod_lessen_67 hl (k := 6) rfl (nv_inc _) (by decide) rfl (fun ls hl => ?_)
              refine lv_goto (tgt := 6) hC.1 hC.2.1 d_Mod_lessen_70 (by decide) ?_
              exact ih (k + 1) 0 (va_up w i (va_up (w i) k (wd i k - wd j k - cy))) (by omega) (Nat.zero_le _) (fun j hj => by rw [va_up_ne _ _ hj]; exact hw j hj) (by
              rw [va_up_self, mv_ups, mv_s, mv_s, Nat.pow_succ]
              exact mv_subst hS (by omega)) (by rw [va_up_self]; exact mv_upd_d hd (by omega)) (fun q hq => by rw [va_up_self, va_up_ne _ _ (by omega)]; exact ho q (by omega)) (by omega) H locs ls hM (lv_sub hl [3, 4, 5, 6, 1, 0] rfl)
            · exact absurd (nI_pos' (by omega)) hs2
          · exact absurd (nI_pos' (by omega)) hs
set_option maxHeartbeats 4000000 in
set_option maxRecDepth 100000 in
theorem c_Mod_lessen (l : Launch) (D : va_G) (ad : Nat → Nat) (cA : ClassId) (sz : Nat) (ln : Nat → Nat) (wd : Nat → Nat → Nat) (i n0 j m0 A B : Nat) (hi : 2 ≤ i ∧ i < 5) (hj : 2 ≤ j ∧ j < 5) (hij : i ≠ j) (ha : mr_r 8200 (wd i) n0 A) (hb : mr_r 8200 (wd j) m0 B) (hle : B ≤ A) : Met l y_Mod_lessen (Cond.code y_Mod_lessen b_Mod_lessen 7 (some .int) :: lw_T) ({ frames := 1, cells := 0, slots := 0, locals := 22 }) (va_Pc [.ref (ad i), .int (nI (n0)), .ref (ad j), .int (nI (m0))] (md_B D ad cA sz ln wd)) (va_Qi (fun (r : Int32) (u : md_St) => ∃ t, r = nI t ∧ mr_r 8200 (u.2 i) t (A - B) ∧ (∀ k, k ≠ i → u.2 k = wd k) ∧ u.1 = ln ∧ t ≤ n0) (md_E D ad cA sz) (md_A ad sz)) 0 0 (md_A ad sz) := by
  refine md_met l (by decide) (Nat.le_of_ble_eq_true rfl) ?_
  intro p e s m below meth c ls hsz hC hK hr hlk hM hl
  subst hsz
  have hC : CallFix p m c b_Mod_lessen 7 s _ lw_T R_Mod := hC
  have hl : lv_has ls 7 [(0, .ref (ad i)), (1, .int (nI (n0))), (2, .ref (ad j)), (3, .int (nI (m0)))] := hl
  refine lv_iconst (v := nI 0) hC.1 hC.2.1 d_Mod_lessen_0 (by decide) ?_
  refine lv_istore (lv' := [(4, .int (nI (0))), (0, .ref (ad i)), (1, .int (nI (n0))), (2, .ref (ad j)), (3, .int (nI (m0)))]) hC.1 hC.2.1 d_Mod_lessen_1 hl (by decide) rfl (fun ls hl => ?_)
  refine lv_iconst (v := nI 0) hC.1 hC.2.1 d_Mod_lessen_3 (by decide) ?_
  refine lv_istore (lv' := [(5, .int (nI (0))), (4, .int (nI (0))), (0, .ref (ad i)), (1, .int (nI (n0))), (2, .ref (ad j)), (3, .int (nI (m0)))]) hC.1 hC.2.1 d_Mod_lessen_4 hl (by decide) rfl (fun ls hl => ?_)
  refine lp_Mod_lessen hC hK ln wd i j n0 m0 A B hi hj hij ha hb (fun cy w hc hw hS hd ho H locs ls hM hl => ?_) (n0 + 1) 0 0 wd (Nat.zero_le _) (Nat.zero_le _) (fun _ _ => rfl) (by rw [mv_0, mv_0, Nat.zero_mul]) ha.2.1 (fun _ _ => rfl) (by omega) _ _ _ hM (lv_sub hl [2, 3, 4, 5, 1, 0] rfl)
  refine lv_aload_n hC.1 hC.2.1 d_Mod_lessen_73 rfl (lv_at hl 0 rfl) ?_
  refine lv_iload_n hC.1 hC.2.1 d_Mod_lessen_74 rfl (lv_at hl 1 rfl) ?_
  refine md_callSi hC hK hM (As := [.ref (ad i), .int (nI (n0))]) (rest := []) (c_Mod_trim l D ad cA _ ln w i n0 hi ha.1 hd) kc_Mod_trim km_Mod_36 ki_Mod ks_Mod_trim kd_Mod_trim ⟨rfl, rfl⟩ ⟨Nat.le_of_ble_eq_true rfl, Nat.le_of_ble_eq_true rfl⟩ rfl hl.1 (Nat.le_of_ble_eq_true rfl) d_Mod_lessen_75 (fun r u H locs hp hM => ?_)
  obtain ⟨rfl, rfl⟩ := hp
  have hmn : m0 ≤ n0 := Nat.le_of_not_lt (fun z => absurd (mr_cmp ha hb z) (Nat.not_lt.mpr hle))
  rw [ha.2.2.2.2, mr_v hb hmn ha.1] at hS
  have hV := mv_less hS (mv_lt (fun q hq => hd q (Nat.lt_of_lt_of_le hq ha.1))) hle hc
  have hT := mr_of ha.1 hd (fun q h1 h2 => by rw [ho q h1]; exact ha.2.2.1 q h1 h2)
  rw [hV] at hT
  exact md_iret hC hK hM hr hlk ⟨_, rfl, hT, hw, rfl, (mv_top_spec (w i) n0).1⟩ d_Mod_lessen_78
set_option maxHeartbeats 4000000 in
set_option maxRecDepth 100000 in
theorem lp_Mod_twice {p : Program} {l : Launch} {e : Env} {R : Room} {s : State} {m : MethodId} {args : Array Value} {below : List Frame} {meth : Method} {c : Code} {Q : State → Prop} {D : va_G} {ad : Nat → Nat} {cA : ClassId} (hC : CallFix p m c b_Mod_twice 6 s args lw_T R_Mod) (hK : va_K D classes (md_ty cA) s) (ln : Nat → Nat) (wd : Nat → Nat → Nat) (i n0 b A : Nat) (hi : 2 ≤ i ∧ i < 5) (hn0 : n0 < 8200) (ha : mr_r 8200 (wd i) n0 A)
    (hex : ∀ (cy : Nat) (w : Nat → Nat → Nat), (cy < 2) → (∀ j, j ≠ i → w j = wd j) → (mv_v (w i) n0 + cy * 65536 ^ n0 = 2 * mv_v (wd i) n0 + b) → (∀ q, q < 8200 → w i q < 65536) → (∀ q, n0 ≤ q → w i q = wd i q) → ∀ (H : Heap) (locs : List Loc) (ls : Array Slot), md_M D ad cA s (ln) (w) H locs → lv_has ls 6 [(0, .ref (ad i)), (1, .int (nI (n0))), (3, .int (nI (cy)))] → W p l e R s m args below meth c H locs 0 0 Q (F0 m 42 ls [])) :
    ∀ (n : Nat) (k : Nat) (cy : Nat) (w : Nat → Nat → Nat), (k ≤ n0) → (cy < 2) → (∀ j, j ≠ i → w j = wd j) → (mv_v (w i) k + cy * 65536 ^ k = 2 * mv_v (wd i) k + b) → (∀ q, q < 8200 → w i q < 65536) → (∀ q, k ≤ q → w i q = wd i q) → n0 + 1 ≤ k + n → ∀ (H : Heap) (locs : List Loc) (ls : Array Slot), md_M D ad cA s (ln) (w) H locs → lv_has ls 6 [(0, .ref (ad i)), (1, .int (nI (n0))), (3, .int (nI (cy))), (4, .int (nI (k)))] → W p l e R s m args below meth c H locs 0 0 Q (F0 m 5 ls []) := by
  intro n
  induction n with
  | zero =>
    intro k cy w hk hc hw hS hd ho hn
    exact absurd hn (by omega)
  | succ n ih =>
    intro k cy w hk hc hw hS hd ho hn H locs ls hM hl
    refine lv_iload hC.1 hC.2.1 d_Mod_twice_5 (lv_at hl 3 rfl) ?_
    refine lv_iload_n hC.1 hC.2.1 d_Mod_twice_7 rfl (lv_at hl 1 rfl) ?_
    refine nv_icmp_ge (tgt := 42) hC (by omega) (by omega) d_Mod_twice_8 (by decide) (fun hk2 => ?_) (fun hk2 => ?_)
    · obtain rfl : k = n0 := by omega
      exact hex cy w hc hw hS hd ho H locs ls hM (lv_sub hl [0, 1, 2] rfl)
    · have d1 := ha.2.1 k (by omega)
      refine lv_iconst (v := nI 2) hC.1 hC.2.1 d_Mod_twice_11 (by decide) ?_
      refine lv_aload_n hC.1 hC.2.1 d_Mod_twice_12 rfl (lv_at hl 0 rfl) ?_
      refine lv_iload hC.1 hC.2.1 d_Mod_twice_13 (lv_at hl 3 rfl) ?_
      refine md_ald hC hK hM (j := i) (k := k) hi.2 (md_ltk hi (by omega)) d_Mod_twice_15 ?_
      refine nv_top (y := nI (wd i k)) (by rw [ho _ (Nat.le_refl _)]) ?_
      refine nv_imul hC d_Mod_twice_16 ?_
      refine lv_iload_n hC.1 hC.2.1 d_Mod_twice_17 rfl (lv_at hl 2 rfl) ?_
      refine nv_iadd hC d_Mod_twice_18 ?_
      refine lv_istore (lv' := [(5, .int (nI ((2 * (wd i k)) + cy))), (0, .ref (ad i)), (1, .int (nI (n0))), (3, .int (nI (cy))), (4, .int (nI (k)))]) hC.1 hC.2.1 d_Mod_twice_19 hl (by decide) rfl (fun ls hl => ?_)
      refine lv_iload hC.1 hC.2.1 d_Mod_twice_21 (lv_at hl 0 rfl) ?_
      refine lv_bipush (v := nI 16) hC.1 hC.2.1 d_Mod_twice_23 (by decide) ?_
      refine nv_ishrp (q := 65536) hC (by decide) (by omega) (by decide) d_Mod_twice_25 ?_
      refine lv_istore_n (lv' := [(3, .int (nI (((2 * (wd i k)) + cy) / 65536))), (5, .int (nI ((2 * (wd i k)) + cy))), (0, .ref (ad i)), (1, .int (nI (n0))), (4, .int (nI (k)))]) hC.1 hC.2.1 d_Mod_twice_26 rfl hl (by decide) rfl (fun ls hl => ?_)
      refine lv_aload_n hC.1 hC.2.1 d_Mod_twice_27 rfl (lv_at hl 2 rfl) ?_
      refine lv_iload hC.1 hC.2.1 d_Mod_twice_28 (lv_at hl 4 rfl) ?_
      refine lv_iload hC.1 hC.2.1 d_Mod_twice_30 (lv_at hl 1 rfl) ?_
      refine lv_ldc (v := nI 65535) hC.1 hC.2.1 hC.2.2.2.1 (hC.2.2.2.2 _ kk_Mod_40) d_Mod_twice_32 ?_
      refine nv_iandp (k := 16) (q := 65536) hC (by decide) (by decide) (by omega) (by decide) d_Mod_twice_34 ?_
      refine md_ast hC hK hM (j := i) (k := k) (v := ((2 * (wd i k)) + cy) % 65536) hi.2 (md_ltk hi (by omega)) d_Mod_twice_35 (fun H locs hM => ?_)
      refine lv_iinc (v := nI (k + 1)) (lv' := [(4, .int (nI (k + 1))), (3, .int (nI (((2 * (wd i k)) + cy) / 65536))), (5, .int (nI ((2 * (wd i k)) + cy))), (0, .ref (ad i)), (1, .int (nI (n0)))]) hC.1 hC.2.1 d_Mod_twice_36 hl (k := 4) rfl (nv_inc _) (by decide) rfl (fun ls hl => ?_)
      refine lv_goto (tgt := 5) hC.1 hC.2.1 d_Mod_twice_39 (by decide) ?_
      exact ih (k + 1) ((2 * wd i k + cy) / 65536) (va_up w i (va_up (w i) k ((2 * wd i k + cy) % 65536))) (by omega) (by omega) (fun j hj => by rw [va_up_ne _ _ hj]; exact hw j hj) (by
        have h := mv_chain (d := 2 * wd i k) hS
        rw [va_up_self, mv_s (wd i), Nat.add_comm (2 * wd i k) cy, h, Nat.mul_add, ← Nat.mul_assoc 2 (wd i k)]
        omega) (by rw [va_up_self]; exact mv_upd_d hd (Nat.mod_lt _ (by decide))) (fun q hq => by rw [va_up_self, va_up_ne _ _ (by omega)]; exact ho q (by omega)) (by omega) H locs ls hM (lv_sub hl [3, 4, 1, 0] rfl)
set_option maxHeartbeats 4000000 in
set_option maxRecDepth 100000 in
theorem c_Mod_twice (l : Launch) (D : va_G) (ad : Nat → Nat) (cA : ClassId) (sz : Nat) (ln : Nat → Nat) (wd : Nat → Nat → Nat) (i n0 b A : Nat) (hi : 2 ≤ i ∧ i < 5) (hn0 : n0 < 8200) (hb : b < 2) (ha : mr_r 8200 (wd i) n0 A) : Met l y_Mod_twice (Cond.code y_Mod_twice b_Mod_twice 6 (some .int) :: lw_T) ({ frames := 0, cells := 0, slots := 0, locals := 0 }) (va_Pc [.ref (ad i), .int (nI (n0)), .int (nI (b))] (md_B D ad cA sz ln wd)) (va_Qi (fun (r : Int32) (u : md_St) => ∃ t, r = nI t ∧ t ≤ n0 + 1 ∧ mr_r 8200 (u.2 i) t (2 * A + b) ∧ (∀ k, k ≠ i → u.2 k = wd k) ∧ u.1 = ln) (md_E D ad cA sz) (md_A ad sz)) 0 0 (md_A ad sz) := by
  refine md_met l (by decide) (Nat.le_of_ble_eq_true rfl) ?_
  intro p e s m below meth c ls hsz hC hK hr hlk hM hl
  subst hsz
  have hC : CallFix p m c b_Mod_twice 6 s _ lw_T R_Mod := hC
  have hl : lv_has ls 6 [(0, .ref (ad i)), (1, .int (nI (n0))), (2, .int (nI (b)))] := hl
  refine lv_iload_n hC.1 hC.2.1 d_Mod_twice_0 rfl (lv_at hl 2 rfl) ?_
  refine lv_istore_n (lv' := [(3, .int (nI (b))), (0, .ref (ad i)), (1, .int (nI (n0))), (2, .int (nI (b)))]) hC.1 hC.2.1 d_Mod_twice_1 rfl hl (by decide) rfl (fun ls hl => ?_)
  refine lv_iconst (v := nI 0) hC.1 hC.2.1 d_Mod_twice_2 (by decide) ?_
  refine lv_istore (lv' := [(4, .int (nI (0))), (3, .int (nI (b))), (0, .ref (ad i)), (1, .int (nI (n0))), (2, .int (nI (b)))]) hC.1 hC.2.1 d_Mod_twice_3 hl (by decide) rfl (fun ls hl => ?_)
  refine lp_Mod_twice hC hK ln wd i n0 b A hi hn0 ha (fun cy w hc hw hS hd ho H locs ls hM hl => ?_) (n0 + 1) 0 b wd (Nat.zero_le _) hb (fun _ _ => rfl) (by rw [mv_0, Nat.pow_zero]; omega) ha.2.1 (fun _ _ => rfl) (by omega) _ _ _ hM (lv_sub hl [2, 3, 1, 0] rfl)
  rw [ha.2.2.2.2] at hS
  refine lv_aload_n hC.1 hC.2.1 d_Mod_twice_42 rfl (lv_at hl 0 rfl) ?_
  refine lv_iload_n hC.1 hC.2.1 d_Mod_twice_43 rfl (lv_at hl 1 rfl) ?_
  refine lv_iload_n hC.1 hC.2.1 d_Mod_twice_44 rfl (lv_at hl 2 rfl) ?_
  refine md_ast hC hK hM (j := i) (k := n0) (v := cy) hi.2 (md_ltk hi (by omega)) d_Mod_twice_45 (fun H locs hM => ?_)
  refine lv_iload_n hC.1 hC.2.1 d_Mod_twice_46 rfl (lv_at hl 2 rfl) ?_
  refine nv_if_le (tgt := 56) hC (by omega) d_Mod_twice_47 (by decide) (fun hz => ?_) (fun hz => ?_)
  · subst hz
    refine lv_iload_n hC.1 hC.2.1 d_Mod_twice_56 rfl (lv_at hl 1 rfl) ?_
    have hT : mr_r 8200 (va_up w i (va_up (w i) n0 0) i) (n0) (2 * A + b) := by
      refine mr_mk (by omega) (by rw [va_up_self]; exact mv_upd_d hd (by omega)) (fun q h1 h2 => ?_) (by rw [va_up_self, mv_up (Nat.le_refl _)]; omega) (by
        rcases Nat.eq_zero_or_pos n0 with z | z
        · exact Or.inl z
        · obtain ⟨y, rfl⟩ : ∃ y, n0 = y + 1 := ⟨n0 - 1, by omega⟩
          have := mr_ge ha
          refine Or.inr ?_
          rw [Nat.add_sub_cancel]; omega)
      rw [va_up_self]
      by_cases e : q = n0
      · rw [e, va_up_self]
      · rw [va_up_ne _ _ e, ho q (by omega)]; exact ha.2.2.1 q (by omega) h2
    exact md_iret hC hK hM hr hlk ⟨_, rfl, by omega, hT, md_keep hw, rfl⟩ d_Mod_twice_57
  · refine lv_iload_n hC.1 hC.2.1 d_Mod_twice_50 rfl (lv_at hl 1 rfl) ?_
    refine lv_iconst (v := nI 1) hC.1 hC.2.1 d_Mod_twice_51 (by decide) ?_
    refine nv_iadd hC d_Mod_twice_52 ?_
    refine lv_goto (tgt := 57) hC.1 hC.2.1 d_Mod_twice_53 (by decide) ?_
    have hT : mr_r 8200 (va_up w i (va_up (w i) n0 cy) i) (n0 + 1) (2 * A + b) := by
      refine mr_mk (by omega) (by rw [va_up_self]; exact mv_upd_d hd (by omega)) (fun q h1 h2 => ?_) (by rw [va_up_self, mv_ups]; exact hS) (Or.inr (by
        have hc1 : cy = 1 := by omega
        rw [hc1, Nat.one_mul] at hS
        rw [Nat.add_sub_cancel]; omega))
      rw [va_up_self]
      by_cases e : q = n0
      · exact absurd h1 (by omega)
      · rw [va_up_ne _ _ e, ho q (by omega)]; exact ha.2.2.1 q (by omega) h2
    exact md_iret hC hK hM hr hlk ⟨_, rfl, by omega, hT, md_keep hw, rfl⟩ d_Mod_twice_57
set_option maxHeartbeats 4000000 in
set_option maxRecDepth 100000 in
theorem c_Mod_bitOf (l : Launch) (D : va_G) (ad : Nat → Nat) (cA : ClassId) (sz : Nat) (ln : Nat → Nat) (wd : Nat → Nat → Nat) (i q0 : Nat) (hi : 2 ≤ i ∧ i < 5) (hq : q0 < 131200) (hd : mv_d (wd i) 8200) : Met l y_Mod_bitOf (Cond.code y_Mod_bitOf b_Mod_bitOf 2 (some .int) :: lw_T) ({ frames := 0, cells := 0, slots := 0, locals := 0 }) (va_Pc [.ref (ad i), .int (nI (q0))] (md_B D ad cA sz ln wd)) (va_Qi (fun (r : Int32) (u : md_St) => r = nI (wd i (q0 / 16) / 2 ^ (q0 % 16) % 2) ∧ u = (ln, wd)) (md_E D ad cA sz) (md_A ad sz)) 0 0 (md_A ad sz) := by
  refine md_met l (by decide) (Nat.le_of_ble_eq_true rfl) ?_
  intro p e s m below meth c ls hsz hC hK hr hlk hM hl
  subst hsz
  have hC : CallFix p m c b_Mod_bitOf 2 s _ lw_T R_Mod := hC
  have hl : lv_has ls 2 [(0, .ref (ad i)), (1, .int (nI (q0)))] := hl
  have d1 := hd (q0 / 16) (by omega)
  have hs : q0 % 16 < 16 := Nat.mod_lt _ (by decide)
  have hq2 : wd i (q0 / 16) / 2 ^ (q0 % 16) ≤ wd i (q0 / 16) := Nat.div_le_self _ _
  refine lv_aload_n hC.1 hC.2.1 d_Mod_bitOf_0 rfl (lv_at hl 0 rfl) ?_
  refine lv_iload_n hC.1 hC.2.1 d_Mod_bitOf_1 rfl (lv_at hl 1 rfl) ?_
  refine lv_iconst (v := nI 4) hC.1 hC.2.1 d_Mod_bitOf_2 (by decide) ?_
  refine nv_ishrp (q := 16) hC (by decide) (by omega) (by decide) d_Mod_bitOf_3 ?_
  refine md_ald hC hK hM (j := i) (k := q0 / 16) hi.2 (md_ltk hi (by omega)) d_Mod_bitOf_4 ?_
  refine lv_iload_n hC.1 hC.2.1 d_Mod_bitOf_5 rfl (lv_at hl 1 rfl) ?_
  refine lv_bipush (v := nI 15) hC.1 hC.2.1 d_Mod_bitOf_6 (by decide) ?_
  refine nv_iandp (k := 4) (q := 16) hC (by decide) (by decide) (by omega) (by decide) d_Mod_bitOf_8 ?_
  refine nv_ishr hC (by omega) (by omega) d_Mod_bitOf_9 ?_
  refine lv_iconst (v := nI 1) hC.1 hC.2.1 d_Mod_bitOf_10 (by decide) ?_
  refine nv_iandp (k := 1) (q := 2) hC (by decide) (by decide) (by omega) (by decide) d_Mod_bitOf_11 ?_
  exact md_iret hC hK hM hr hlk ⟨rfl, rfl⟩ d_Mod_bitOf_12
set_option maxHeartbeats 4000000 in
set_option maxRecDepth 100000 in
theorem lp_Mod_halve {p : Program} {l : Launch} {e : Env} {R : Room} {s : State} {m : MethodId} {args : Array Value} {below : List Frame} {meth : Method} {c : Code} {Q : State → Prop} {D : va_G} {ad : Nat → Nat} {cA : ClassId} (hC : CallFix p m c b_Mod_halve 2 s args lw_T R_Mod) (hK : va_K D classes (md_ty cA) s) (ln : Nat → Nat) (wd : Nat → Nat → Nat) (n0 A : Nat) (h1 : ln 1 = n0) (hn0 : n0 < 8200) (ha : mr_r 8200 (wd 3) n0 A)
    (hex : ∀ (w : Nat → Nat → Nat), (∀ j, j ≠ 3 → w j = wd j) → (∀ q, q < n0 → w 3 q = mv_h (wd 3) q) → (∀ q, n0 ≤ q → w 3 q = wd 3 q) → ∀ (H : Heap) (locs : List Loc) (ls : Array Slot), md_M D ad cA s (ln) (w) H locs → lv_has ls 2 [(0, .ref (ad 5))] → W p l e R s m args below meth c H locs 0 0 Q (F0 m 44 ls [])) :
    ∀ (n : Nat) (k : Nat) (w : Nat → Nat → Nat), (k ≤ n0) → (∀ j, j ≠ 3 → w j = wd j) → (∀ q, q < k → w 3 q = mv_h (wd 3) q) → (∀ q, k ≤ q → w 3 q = wd 3 q) → n0 + 1 ≤ k + n → ∀ (H : Heap) (locs : List Loc) (ls : Array Slot), md_M D ad cA s (ln) (w) H locs → lv_has ls 2 [(0, .ref (ad 5)), (1, .int (nI (k)))] → W p l e R s m args below meth c H locs 0 0 Q (F0 m 2 ls []) := by
  intro n
  induction n with
  | zero =>
    intro k w hk hw hf ho hn
    exact absurd hn (by omega)
  | succ n ih =>
    intro k w hk hw hf ho hn H locs ls hM hl
    refine lv_iload_n hC.1 hC.2.1 d_Mod_halve_2 rfl (lv_at hl 1 rfl) ?_
    refine lv_aload_n hC.1 hC.2.1 d_Mod_halve_3 rfl (lv_at hl 0 rfl) ?_
    refine md_n1 hC hK hM kf_Mod_30 d_Mod_halve_4 ?_
    refine nv_top (y := nI (n0)) (by rw [h1]) ?_
    refine nv_icmp_ge (tgt := 44) hC (by omega) (by omega) d_Mod_halve_7 (by decide) (fun hk2 => ?_) (fun hk2 => ?_)
    · obtain rfl : k = n0 := by omega
      exact hex w hw hf ho H locs ls hM (lv_sub hl [0] rfl)
    · have d1 := ha.2.1 k (by omega)
      have d2 := ha.2.1 (k + 1) (by omega)
      refine lv_aload_n hC.1 hC.2.1 d_Mod_halve_10 rfl (lv_at hl 0 rfl) ?_
      refine md_f3 hC hK hM kf_Mod_20 d_Mod_halve_11 ?_
      refine lv_iload_n hC.1 hC.2.1 d_Mod_halve_14 rfl (lv_at hl 1 rfl) ?_
      refine lv_aload_n hC.1 hC.2.1 d_Mod_halve_15 rfl (lv_at hl 0 rfl) ?_
      refine md_f3 hC hK hM kf_Mod_20 d_Mod_halve_16 ?_
      refine lv_iload_n hC.1 hC.2.1 d_Mod_halve_19 rfl (lv_at hl 1 rfl) ?_
      refine md_ald hC hK hM (j := 3) (k := k) (by decide) (md_lt2 (by decide) (by decide) (by omega)) d_Mod_halve_20 ?_
      refine nv_top (y := nI (wd 3 k)) (by rw [ho _ (by omega)]) ?_
      refine lv_iconst (v := nI 1) hC.1 hC.2.1 d_Mod_halve_21 (by decide) ?_
      refine nv_ishrp (q := 2) hC (by decide) (by omega) (by decide) d_Mod_halve_22 ?_
      refine lv_aload_n hC.1 hC.2.1 d_Mod_halve_23 rfl (lv_at hl 0 rfl) ?_
      refine md_f3 hC hK hM kf_Mod_20 d_Mod_halve_24 ?_
      refine lv_iload_n hC.1 hC.2.1 d_Mod_halve_27 rfl (lv_at hl 1 rfl) ?_
      refine lv_iconst (v := nI 1) hC.1 hC.2.1 d_Mod_halve_28 (by decide) ?_
      refine nv_iadd hC d_Mod_halve_29 ?_
      refine md_ald hC hK hM (j := 3) (k := k + 1) (by decide) (md_lt2 (by decide) (by decide) (by omega)) d_Mod_halve_30 ?_
      refine nv_top (y := nI (wd 3 (k + 1))) (by rw [ho _ (by omega)]) ?_
      refine lv_iconst (v := nI 1) hC.1 hC.2.1 d_Mod_halve_31 (by decide) ?_
      refine nv_iandp (k := 1) (q := 2) hC (by decide) (by decide) (by omega) (by decide) d_Mod_halve_32 ?_
      refine lv_bipush (v := nI 15) hC.1 hC.2.1 d_Mod_halve_33 (by decide) ?_
      refine nv_ishl hC (by omega) (by omega) d_Mod_halve_35 ?_
      refine nv_ior hC (by omega) (by omega) d_Mod_halve_36 ?_
      refine md_ast hC hK hM (j := 3) (k := k) (v := (wd 3 k) / 2 + ((wd 3 (k + 1)) % 2) * 2 ^ 15) (by decide) (md_lt2 (by decide) (by decide) (by omega)) d_Mod_halve_37 (fun H locs hM => ?_)
      refine lv_iinc (v := nI (k + 1)) (lv' := [(1, .int (nI (k + 1))), (0, .ref (ad 5))]) hC.1 hC.2.1 d_Mod_halve_38 hl (k := 1) rfl (nv_inc _) (by decide) rfl (fun ls hl => ?_)
      refine lv_goto (tgt := 2) hC.1 hC.2.1 d_Mod_halve_41 (by decide) ?_
      exact ih (k + 1) (va_up w 3 (va_up (w 3) k (wd 3 k / 2 + wd 3 (k + 1) % 2 * 2 ^ 15))) (by omega) (fun j hj => by rw [va_up_ne _ _ hj]; exact hw j hj) (by rw [va_up_self]; exact md_fill hf rfl) (fun q hq => by rw [va_up_self, va_up_ne _ _ (by omega)]; exact ho q (by omega)) (by omega) H locs ls hM (lv_sub hl [1, 0] rfl)
set_option maxHeartbeats 4000000 in
set_option maxRecDepth 100000 in
theorem c_Mod_halve (l : Launch) (D : va_G) (ad : Nat → Nat) (cA : ClassId) (sz : Nat) (ln : Nat → Nat) (wd : Nat → Nat → Nat) (n0 A : Nat) (h1 : ln 1 = n0) (hn0 : n0 < 8200) (ha : mr_r 8200 (wd 3) n0 A) : Met l y_Mod_halve (Cond.code y_Mod_halve b_Mod_halve 2 none :: lw_T) ({ frames := 1, cells := 0, slots := 0, locals := 22 }) (va_Pc [.ref (ad 5)] (md_B D ad cA sz ln wd)) (va_Qv (fun (u : md_St) => ∃ t, t ≤ n0 ∧ mr_r 8200 (u.2 3) t (A / 2) ∧ (∀ k, k ≠ 3 → u.2 k = wd k) ∧ u.1 = va_up ln 1 t) (md_E D ad cA sz) (md_A ad sz)) 0 0 (md_A ad sz) := by
  refine md_met l (by decide) (Nat.le_of_ble_eq_true rfl) ?_
  intro p e s m below meth c ls hsz hC hK hr hlk hM hl
  subst hsz
  have hC : CallFix p m c b_Mod_halve 2 s _ lw_T R_Mod := hC
  have hl : lv_has ls 2 [(0, .ref (ad 5))] := hl
  refine lv_iconst (v := nI 0) hC.1 hC.2.1 d_Mod_halve_0 (by decide) ?_
  refine lv_istore_n (lv' := [(1, .int (nI (0))), (0, .ref (ad 5))]) hC.1 hC.2.1 d_Mod_halve_1 rfl hl (by decide) rfl (fun ls hl => ?_)
  refine lp_Mod_halve hC hK ln wd n0 A h1 hn0 ha (fun w hw hf ho H locs ls hM hl => ?_) (n0 + 1) 0 wd (Nat.zero_le _) (fun _ _ => rfl) (fun q hq => absurd hq (by omega)) (fun _ _ => rfl) (by omega) _ _ _ hM (lv_sub hl [1, 0] rfl)
  have hd : mv_d (w 3) 8200 := by
    intro q hq
    by_cases z : q < n0
    · have d1 := ha.2.1 q hq
      have d2 := ha.2.1 (q + 1) (by omega)
      rw [hf q z]
      show wd 3 q / 2 + wd 3 (q + 1) % 2 * 2 ^ 15 < 65536
      omega
    · rw [ho q (by omega)]; exact ha.2.1 q hq
  have hT := mr_of (Nat.le_of_lt hn0) hd (fun q h1 h2 => by rw [ho q h1]; exact ha.2.2.1 q h1 h2)
  rw [mr_half ha hn0 hf] at hT
  refine lv_aload_n hC.1 hC.2.1 d_Mod_halve_44 rfl (lv_at hl 0 rfl) ?_
  refine lv_aload_n hC.1 hC.2.1 d_Mod_halve_45 rfl (lv_at hl 0 rfl) ?_
  refine md_f3 hC hK hM kf_Mod_20 d_Mod_halve_46 ?_
  refine lv_aload_n hC.1 hC.2.1 d_Mod_halve_49 rfl (lv_at hl 0 rfl) ?_
  refine md_n1 hC hK hM kf_Mod_30 d_Mod_halve_50 ?_
  refine nv_top (y := nI (n0)) (by rw [h1]) ?_
  refine md_callSi hC hK hM (As := [.ref (ad 3), .int (nI (n0))]) (rest := [.ref (ad 5)]) (c_Mod_trim l D ad cA _ ln w 3 n0 (by decide) (Nat.le_of_lt hn0) hd) kc_Mod_trim km_Mod_36 ki_Mod ks_Mod_trim kd_Mod_trim ⟨rfl, rfl⟩ ⟨Nat.le_of_ble_eq_true rfl, Nat.le_of_ble_eq_true rfl⟩ rfl hl.1 (Nat.le_of_ble_eq_true rfl) d_Mod_halve_53 (fun r u H locs hp hM => ?_)
  obtain ⟨rfl, rfl⟩ := hp
  have hM : md_M D ad cA s (ln) (w) H locs := by
    exact hM
  refine md_p1 hC hK hM kf_Mod_30 d_Mod_halve_56 (fun H locs hM => ?_)
  exact md_vret hC hK hM hr hlk ⟨_, (mv_top_spec (w 3) n0).1, hT, hw, rfl⟩ d_Mod_halve_59
