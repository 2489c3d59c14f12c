set_option maxHeartbeats 4000000 in
set_option maxRecDepth 100000 in
theorem lp_Mod_loadX {p : Program} {l : Launch} {e : Env} {R : Room} {s : State} {m : MethodId} {args : Array Value} {below : List Frame} {meth : Method} {c : Code} {Q : State → Prop} {D : va_G} {ad : Nat → Nat} {cA : ClassId} (hC : CallFix p m c b_Mod_loadX 3 s args lw_T R_Mod) (hK : va_K D classes (md_ty cA) s) (ln : Nat → Nat) (wd : Nat → Nat → Nat) (a : Nat) (ha : a < 16) (h1 : wd 1 a ≤ 4096)
    (hex : ∀ (w : Nat → Nat → Nat), (∀ j, j ≠ 2 → w j = wd j) → (∀ q, q < 8200 → w 2 q = (fun q => if q < wd 1 a then wd 0 (4096 * a + q) else 0) q) → ∀ (H : Heap) (locs : List Loc) (ls : Array Slot), md_M D ad cA s (ln) (w) H locs → lv_has ls 3 [(0, .ref (ad 5)), (1, .int (nI (a)))] → W p l e R s m args below meth c H locs 0 0 Q (F0 m 47 ls [])) :
    ∀ (n : Nat) (k : Nat) (w : Nat → Nat → Nat), (k ≤ 8200) → (∀ j, j ≠ 2 → w j = wd j) → (∀ q, q < k → w 2 q = (fun q => if q < wd 1 a then wd 0 (4096 * a + q) else 0) q) → 8200 + 1 ≤ k + n → ∀ (H : Heap) (locs : List Loc) (ls : Array Slot), md_M D ad cA s (ln) (w) H locs → lv_has ls 3 [(0, .ref (ad 5)), (1, .int (nI (a))), (2, .int (nI (k)))] → W p l e R s m args below meth c H locs 0 0 Q (F0 m 2 ls []) := by
  intro n
  induction n with
  | zero =>
    intro k w hk hw hf hn
    exact absurd hn (by omega)
  | succ n ih =>
    intro k w hk hw hf hn H locs ls hM hl
    refine lv_iload_n hC.1 hC.2.1 d_Mod_loadX_2 rfl (lv_at hl 2 rfl) ?_
    refine lv_sipush (v := nI 8200) hC.1 hC.2.1 d_Mod_loadX_3 (by decide) ?_
    refine nv_icmp_ge (tgt := 47) hC (by omega) (by omega) d_Mod_loadX_6 (by decide) (fun hc => ?_) (fun hc => ?_)
    · obtain rfl : k = 8200 := by omega
      exact hex w hw hf H locs ls hM (lv_sub hl [0, 1] rfl)
    · refine lv_aload_n hC.1 hC.2.1 d_Mod_loadX_9 rfl (lv_at hl 0 rfl) ?_
      refine md_f2 hC hK hM kf_Mod_17 d_Mod_loadX_10 ?_
      refine lv_iload_n hC.1 hC.2.1 d_Mod_loadX_13 rfl (lv_at hl 2 rfl) ?_
      refine lv_iload_n hC.1 hC.2.1 d_Mod_loadX_14 rfl (lv_at hl 2 rfl) ?_
      refine lv_aload_n hC.1 hC.2.1 d_Mod_loadX_15 rfl (lv_at hl 0 rfl) ?_
      refine md_f1 hC hK hM kf_Mod_14 d_Mod_loadX_16 ?_
      refine lv_iload_n hC.1 hC.2.1 d_Mod_loadX_19 rfl (lv_at hl 1 rfl) ?_
      refine md_ald hC hK hM (j := 1) (k := a) (by decide) (md_lt1 (by omega)) d_Mod_loadX_20 ?_
      refine nv_top (y := nI (wd 1 (a))) (by rw [hw 1 (by decide)]) ?_
      refine nv_icmp_ge (tgt := 39) hC (by omega) (by omega) d_Mod_loadX_21 (by decide) (fun hc2 => ?_) (fun hc2 => ?_)
      · refine lv_iconst (v := nI 0) hC.1 hC.2.1 d_Mod_loadX_39 (by decide) ?_
        refine md_ast hC hK hM (j := 2) (k := k) (v := 0) (by decide) (md_lt2 (by decide) (by decide) (by omega)) d_Mod_loadX_40 (fun H locs hM => ?_)
        refine lv_iinc (v := nI (k + 1)) (lv' := [(2, .int (nI (k + 1))), (0, .ref (ad 5)), (1, .int (nI (a)))]) hC.1 hC.2.1 d_Mod_loadX_41 hl (k := 2) rfl (nv_inc _) (by decide) rfl (fun ls hl => ?_)
        refine lv_goto (tgt := 2) hC.1 hC.2.1 d_Mod_loadX_44 (by decide) ?_
        exact ih (k + 1) (va_up w 2 (va_up (w 2) k (0))) (by omega) (fun j hj => by rw [va_up_ne _ _ hj]; exact hw j hj) (by rw [va_up_self]; exact md_fill hf ((if_neg (by omega)).symm)) (by omega) H locs ls hM (lv_sub hl [1, 2, 0] rfl)
      · refine lv_aload_n hC.1 hC.2.1 d_Mod_loadX_24 rfl (lv_at hl 0 rfl) ?_
        refine md_f0 hC hK hM kf_Mod_8 d_Mod_loadX_25 ?_
        refine lv_sipush (v := nI 4096) hC.1 hC.2.1 d_Mod_loadX_28 (by decide) ?_
        refine lv_iload_n hC.1 hC.2.1 d_Mod_loadX_31 rfl (lv_at hl 1 rfl) ?_
        refine nv_imul hC d_Mod_loadX_32 ?_
        refine lv_iload_n hC.1 hC.2.1 d_Mod_loadX_33 rfl (lv_at hl 2 rfl) ?_
        refine nv_iadd hC d_Mod_loadX_34 ?_
        refine md_ald hC hK hM (j := 0) (k := (4096 * a) + k) (by decide) (md_lt0 (by omega)) d_Mod_loadX_35 ?_
        refine nv_top (y := nI (wd 0 ((4096 * a) + k))) (by rw [hw 0 (by decide)]) ?_
        refine lv_goto (tgt := 40) hC.1 hC.2.1 d_Mod_loadX_36 (by decide) ?_
        refine md_ast hC hK hM (j := 2) (k := k) (v := wd 0 ((4096 * a) + k)) (by decide) (md_lt2 (by decide) (by decide) (by omega)) d_Mod_loadX_40 (fun H locs hM => ?_)
        refine lv_iinc (v := nI (k + 1)) (lv' := [(2, .int (nI (k + 1))), (0, .ref (ad 5)), (1, .int (nI (a)))]) hC.1 hC.2.1 d_Mod_loadX_41 hl (k := 2) rfl (nv_inc _) (by decide) rfl (fun ls hl => ?_)
        refine lv_goto (tgt := 2) hC.1 hC.2.1 d_Mod_loadX_44 (by decide) ?_
        exact ih (k + 1) (va_up w 2 (va_up (w 2) k (wd 0 (4096 * a + k)))) (by omega) (fun j hj => by rw [va_up_ne _ _ hj]; exact hw j hj) (by rw [va_up_self]; exact md_fill hf ((if_pos hc2).symm)) (by omega) H locs ls hM (lv_sub hl [1, 2, 0] rfl)
set_option maxHeartbeats 4000000 in
set_option maxRecDepth 100000 in
theorem c_Mod_loadX (l : Launch) (D : va_G) (ad : Nat → Nat) (cA : ClassId) (sz : Nat) (ln : Nat → Nat) (wd : Nat → Nat → Nat) (a A : Nat) (ha : a < 16) (h : mr_r 4096 (fun i => wd 0 (4096 * a + i)) (wd 1 a) A) : Met l y_Mod_loadX (Cond.code y_Mod_loadX b_Mod_loadX 3 none :: lw_T) ({ frames := 0, cells := 0, slots := 0, locals := 0 }) (va_Pc [.ref (ad 5), .int (nI (a))] (md_B D ad cA sz ln wd)) (va_Qv (fun (u : md_St) => mr_r 8200 (u.2 2) (wd 1 a) A ∧ (∀ k, k ≠ 2 → u.2 k = wd k) ∧ u.1 = va_up ln 0 (wd 1 a)) (md_E D ad cA sz) (md_A ad sz)) 0 0 (md_A ad sz) := by
  refine md_met l (by decide) (Nat.le_of_ble_eq_true rfl) ?_
  intro p e s m below meth c ls hsz hC hK hr hlk hM hl
  subst hsz
  have hC : CallFix p m c b_Mod_loadX 3 s _ lw_T R_Mod := hC
  have hl : lv_has ls 3 [(0, .ref (ad 5)), (1, .int (nI (a)))] := hl
  refine lv_iconst (v := nI 0) hC.1 hC.2.1 d_Mod_loadX_0 (by decide) ?_
  refine lv_istore_n (lv' := [(2, .int (nI (0))), (0, .ref (ad 5)), (1, .int (nI (a)))]) hC.1 hC.2.1 d_Mod_loadX_1 rfl hl (by decide) rfl (fun ls hl => ?_)
  refine lp_Mod_loadX hC hK ln wd a ha h.1 (fun w hw hf H locs ls hM hl => ?_) 8201 0 wd (Nat.zero_le _) (fun _ _ => rfl) (fun q hq => absurd hq (by omega)) (by omega) _ _ _ hM (lv_sub hl [1, 2, 0] rfl)
  refine lv_aload_n hC.1 hC.2.1 d_Mod_loadX_47 rfl (lv_at hl 0 rfl) ?_
  refine lv_aload_n hC.1 hC.2.1 d_Mod_loadX_48 rfl (lv_at hl 0 rfl) ?_
  refine md_f1 hC hK hM kf_Mod_14 d_Mod_loadX_49 ?_
  refine lv_iload_n hC.1 hC.2.1 d_Mod_loadX_52 rfl (lv_at hl 1 rfl) ?_
  refine md_ald hC hK hM (j := 1) (k := a) (by decide) (md_lt1 (by omega)) d_Mod_loadX_53 ?_
  refine nv_top (y := nI (wd 1 (a))) (by rw [hw 1 (by decide)]) ?_
  refine md_p0 hC hK hM kf_Mod_26 d_Mod_loadX_54 (fun H locs hM => ?_)
  exact md_vret hC hK hM hr hlk ⟨mr_ld h hf, hw, rfl⟩ d_Mod_loadX_57
set_option maxHeartbeats 4000000 in
set_option maxRecDepth 100000 in
theorem lp_Mod_loadY {p : Program} {l : Launch} {e : Env} {R : Room} {s : State} {m : MethodId} {args : Array Value} {below : List Frame} {meth : Method} {c : Code} {Q : State → Prop} {D : va_G} {ad : Nat → Nat} {cA : ClassId} (hC : CallFix p m c b_Mod_loadY 3 s args lw_T R_Mod) (hK : va_K D classes (md_ty cA) s) (ln : Nat → Nat) (wd : Nat → Nat → Nat) (a : Nat) (ha : a < 16) (h1 : wd 1 a ≤ 4096)
    (hex : ∀ (w : Nat → Nat → Nat), (∀ j, j ≠ 3 → w j = wd j) → (∀ q, q < 8200 → w 3 q = (fun q => if q < wd 1 a then wd 0 (4096 * a + q) else 0) q) → ∀ (H : Heap) (locs : List Loc) (ls : Array Slot), md_M D ad cA s (ln) (w) H locs → lv_has ls 3 [(0, .ref (ad 5)), (1, .int (nI (a)))] → W p l e R s m args below meth c H locs 0 0 Q (F0 m 47 ls [])) :
    ∀ (n : Nat) (k : Nat) (w : Nat → Nat → Nat), (k ≤ 8200) → (∀ j, j ≠ 3 → w j = wd j) → (∀ q, q < k → w 3 q = (fun q => if q < wd 1 a then wd 0 (4096 * a + q) else 0) q) → 8200 + 1 ≤ k + n → ∀ (H : Heap) (locs : List Loc) (ls : Array Slot), md_M D ad cA s (ln) (w) H locs → lv_has ls 3 [(0, .ref (ad 5)), (1, .int (nI (a))), (2, .int (nI (k)))] → W p l e R s m args below meth c H locs 0 0 Q (F0 m 2 ls []) := by
  intro n
  induction n with
  | zero =>
    intro k w hk hw hf hn
    exact absurd hn (by omega)
  | succ n ih =>
    intro k w hk hw hf hn H locs ls hM hl
    refine lv_iload_n hC.1 hC.2.1 d_Mod_loadY_2 rfl (lv_at hl 2 rfl) ?_
    refine lv_sipush (v := nI 8200) hC.1 hC.2.1 d_Mod_loadY_3 (by decide) ?_
    refine nv_icmp_ge (tgt := 47) hC (by omega) (by omega) d_Mod_loadY_6 (by decide) (fun hc => ?_) (fun hc => ?_)
    · obtain rfl : k = 8200 := by omega
      exact hex w hw hf H locs ls hM (lv_sub hl [0, 1] rfl)
    · refine lv_aload_n hC.1 hC.2.1 d_Mod_loadY_9 rfl (lv_at hl 0 rfl) ?_
      refine md_f3 hC hK hM kf_Mod_20 d_Mod_loadY_10 ?_
      refine lv_iload_n hC.1 hC.2.1 d_Mod_loadY_13 rfl (lv_at hl 2 rfl) ?_
      refine lv_iload_n hC.1 hC.2.1 d_Mod_loadY_14 rfl (lv_at hl 2 rfl) ?_
      refine lv_aload_n hC.1 hC.2.1 d_Mod_loadY_15 rfl (lv_at hl 0 rfl) ?_
      refine md_f1 hC hK hM kf_Mod_14 d_Mod_loadY_16 ?_
      refine lv_iload_n hC.1 hC.2.1 d_Mod_loadY_19 rfl (lv_at hl 1 rfl) ?_
      refine md_ald hC hK hM (j := 1) (k := a) (by decide) (md_lt1 (by omega)) d_Mod_loadY_20 ?_
      refine nv_top (y := nI (wd 1 (a))) (by rw [hw 1 (by decide)]) ?_
      refine nv_icmp_ge (tgt := 39) hC (by omega) (by omega) d_Mod_loadY_21 (by decide) (fun hc2 => ?_) (fun hc2 => ?_)
      · refine lv_iconst (v := nI 0) hC.1 hC.2.1 d_Mod_loadY_39 (by decide) ?_
        refine md_ast hC hK hM (j := 3) (k := k) (v := 0) (by decide) (md_lt2 (by decide) (by decide) (by omega)) d_Mod_loadY_40 (fun H locs hM => ?_)
        refine lv_iinc (v := nI (k + 1)) (lv' := [(2, .int (nI (k + 1))), (0, .ref (ad 5)), (1, .int (nI (a)))]) hC.1 hC.2.1 d_Mod_loadY_41 hl (k := 2) rfl (nv_inc _) (by decide) rfl (fun ls hl => ?_)
        refine lv_goto (tgt := 2) hC.1 hC.2.1 d_Mod_loadY_44 (by decide) ?_
        exact ih (k + 1) (va_up w 3 (va_up (w 3) k (0))) (by omega) (fun j hj => by rw [va_up_ne _ _ hj]; exact hw j hj) (by rw [va_up_self]; exact md_fill hf ((if_neg (by omega)).symm)) (by omega) H locs ls hM (lv_sub hl [1, 2, 0] rfl)
      · refine lv_aload_n hC.1 hC.2.1 d_Mod_loadY_24 rfl (lv_at hl 0 rfl) ?_
        refine md_f0 hC hK hM kf_Mod_8 d_Mod_loadY_25 ?_
        refine lv_sipush (v := nI 4096) hC.1 hC.2.1 d_Mod_loadY_28 (by decide) ?_
        refine lv_iload_n hC.1 hC.2.1 d_Mod_loadY_31 rfl (lv_at hl 1 rfl) ?_
        refine nv_imul hC d_Mod_loadY_32 ?_
        refine lv_iload_n hC.1 hC.2.1 d_Mod_loadY_33 rfl (lv_at hl 2 rfl) ?_
        refine nv_iadd hC d_Mod_loadY_34 ?_
        refine md_ald hC hK hM (j := 0) (k := (4096 * a) + k) (by decide) (md_lt0 (by omega)) d_Mod_loadY_35 ?_
        refine nv_top (y := nI (wd 0 ((4096 * a) + k))) (by rw [hw 0 (by decide)]) ?_
        refine lv_goto (tgt := 40) hC.1 hC.2.1 d_Mod_loadY_36 (by decide) ?_
        refine md_ast hC hK hM (j := 3) (k := k) (v := wd 0 ((4096 * a) + k)) (by decide) (md_lt2 (by decide) (by decide) (by omega)) d_Mod_loadY_40 (fun H locs hM => ?_)
        refine lv_iinc (v := nI (k + 1)) (lv' := [(2, .int (nI (k + 1))), (0, .ref (ad 5)), (1, .int (nI (a)))]) hC.1 hC.2.1 d_Mod_loadY_41 hl (k := 2) rfl (nv_inc _) (by decide) rfl (fun ls hl => ?_)
        refine lv_goto (tgt := 2) hC.1 hC.2.1 d_Mod_loadY_44 (by decide) ?_
        exact ih (k + 1) (va_up w 3 (va_up (w 3) k (wd 0 (4096 * a + k)))) (by omega) (fun j hj => by rw [va_up_ne _ _ hj]; exact hw j hj) (by rw [va_up_self]; exact md_fill hf ((if_pos hc2).symm)) (by omega) H locs ls hM (lv_sub hl [1, 2, 0] rfl)
set_option maxHeartbeats 4000000 in
set_option maxRecDepth 100000 in
theorem c_Mod_loadY (l : Launch) (D : va_G) (ad : Nat → Nat) (cA : ClassId) (sz : Nat) (ln : Nat → Nat) (wd : Nat → Nat → Nat) (a A : Nat) (ha : a < 16) (h : mr_r 4096 (fun i => wd 0 (4096 * a + i)) (wd 1 a) A) : Met l y_Mod_loadY (Cond.code y_Mod_loadY b_Mod_loadY 3 none :: lw_T) ({ frames := 0, cells := 0, slots := 0, locals := 0 }) (va_Pc [.ref (ad 5), .int (nI (a))] (md_B D ad cA sz ln wd)) (va_Qv (fun (u : md_St) => mr_r 8200 (u.2 3) (wd 1 a) A ∧ (∀ k, k ≠ 3 → u.2 k = wd k) ∧ u.1 = va_up ln 1 (wd 1 a)) (md_E D ad cA sz) (md_A ad sz)) 0 0 (md_A ad sz) := by
  refine md_met l (by decide) (Nat.le_of_ble_eq_true rfl) ?_
  intro p e s m below meth c ls hsz hC hK hr hlk hM hl
  subst hsz
  have hC : CallFix p m c b_Mod_loadY 3 s _ lw_T R_Mod := hC
  have hl : lv_has ls 3 [(0, .ref (ad 5)), (1, .int (nI (a)))] := hl
  refine lv_iconst (v := nI 0) hC.1 hC.2.1 d_Mod_loadY_0 (by decide) ?_
  refine lv_istore_n (lv' := [(2, .int (nI (0))), (0, .ref (ad 5)), (1, .int (nI (a)))]) hC.1 hC.2.1 d_Mod_loadY_1 rfl hl (by decide) rfl (fun ls hl => ?_)
  refine lp_Mod_loadY hC hK ln wd a ha h.1 (fun w hw hf H locs ls hM hl => ?_) 8201 0 wd (Nat.zero_le _) (fun _ _ => rfl) (fun q hq => absurd hq (by omega)) (by omega) _ _ _ hM (lv_sub hl [1, 2, 0] rfl)
  refine lv_aload_n hC.1 hC.2.1 d_Mod_loadY_47 rfl (lv_at hl 0 rfl) ?_
  refine lv_aload_n hC.1 hC.2.1 d_Mod_loadY_48 rfl (lv_at hl 0 rfl) ?_
  refine md_f1 hC hK hM kf_Mod_14 d_Mod_loadY_49 ?_
  refine lv_iload_n hC.1 hC.2.1 d_Mod_loadY_52 rfl (lv_at hl 1 rfl) ?_
  refine md_ald hC hK hM (j := 1) (k := a) (by decide) (md_lt1 (by omega)) d_Mod_loadY_53 ?_
  refine nv_top (y := nI (wd 1 (a))) (by rw [hw 1 (by decide)]) ?_
  refine md_p1 hC hK hM kf_Mod_30 d_Mod_loadY_54 (fun H locs hM => ?_)
  exact md_vret hC hK hM hr hlk ⟨mr_ld h hf, hw, rfl⟩ d_Mod_loadY_57
set_option maxHeartbeats 4000000 in
set_option maxRecDepth 100000 in
theorem lp_Mod_clearZ {p : Program} {l : Launch} {e : Env} {R : Room} {s : State} {m : MethodId} {args : Array Value} {below : List Frame} {meth : Method} {c : Code} {Q : State → Prop} {D : va_G} {ad : Nat → Nat} {cA : ClassId} (hC : CallFix p m c b_Mod_clearZ 2 s args lw_T R_Mod) (hK : va_K D classes (md_ty cA) s) (ln : Nat → Nat) (wd : Nat → Nat → Nat)
    (hex : ∀ (w : Nat → Nat → Nat), (∀ j, j ≠ 4 → w j = wd j) → (∀ q, q < 8200 → w 4 q = (fun _ => 0) q) → ∀ (H : Heap) (locs : List Loc) (ls : Array Slot), md_M D ad cA s (ln) (w) H locs → lv_has ls 2 [(0, .ref (ad 5))] → W p l e R s m args below meth c H locs 0 0 Q (F0 m 22 ls [])) :
    ∀ (n : Nat) (k : Nat) (w : Nat → Nat → Nat), (k ≤ 8200) → (∀ j, j ≠ 4 → w j = wd j) → (∀ q, q < k → w 4 q = (fun _ => 0) q) → 8200 + 1 ≤ k + n → ∀ (H : Heap) (locs : List Loc) (ls : Array Slot), md_M D ad cA s (ln) (w) H locs → lv_has ls 2 [(0, .ref (ad 5)), (1, .int (nI (k)))] → W p l e R s m args below meth c H locs 0 0 Q (F0 m 2 ls []) := by
  intro n
  induction n with
  | zero =>
    intro k w hk hw hf hn
    exact absurd hn (by omega)
  | succ n ih =>
    intro k w hk hw hf hn H locs ls hM hl
    refine lv_iload_n hC.1 hC.2.1 d_Mod_clearZ_2 rfl (lv_at hl 1 rfl) ?_
    refine lv_sipush (v := nI 8200) hC.1 hC.2.1 d_Mod_clearZ_3 (by decide) ?_
    refine nv_icmp_ge (tgt := 22) hC (by omega) (by omega) d_Mod_clearZ_6 (by decide) (fun hc => ?_) (fun hc => ?_)
    · obtain rfl : k = 8200 := by omega
      exact hex w hw hf H locs ls hM (lv_sub hl [0] rfl)
    · refine lv_aload_n hC.1 hC.2.1 d_Mod_clearZ_9 rfl (lv_at hl 0 rfl) ?_
      refine md_f4 hC hK hM kf_Mod_23 d_Mod_clearZ_10 ?_
      refine lv_iload_n hC.1 hC.2.1 d_Mod_clearZ_13 rfl (lv_at hl 1 rfl) ?_
      refine lv_iconst (v := nI 0) hC.1 hC.2.1 d_Mod_clearZ_14 (by decide) ?_
      refine md_ast hC hK hM (j := 4) (k := k) (v := 0) (by decide) (md_lt2 (by decide) (by decide) (by omega)) d_Mod_clearZ_15 (fun H locs hM => ?_)
      refine lv_iinc (v := nI (k + 1)) (lv' := [(1, .int (nI (k + 1))), (0, .ref (ad 5))]) hC.1 hC.2.1 d_Mod_clearZ_16 hl (k := 1) rfl (nv_inc _) (by decide) rfl (fun ls hl => ?_)
      refine lv_goto (tgt := 2) hC.1 hC.2.1 d_Mod_clearZ_19 (by decide) ?_
      exact ih (k + 1) (va_up w 4 (va_up (w 4) k 0)) (by omega) (fun j hj => by rw [va_up_ne _ _ hj]; exact hw j hj) (by rw [va_up_self]; exact md_fill hf rfl) (by omega) H locs ls hM (lv_sub hl [1, 0] rfl)
set_option maxHeartbeats 4000000 in
set_option maxRecDepth 100000 in
theorem c_Mod_clearZ (l : Launch) (D : va_G) (ad : Nat → Nat) (cA : ClassId) (sz : Nat) (ln : Nat → Nat) (wd : Nat → Nat → Nat)  : Met l y_Mod_clearZ (Cond.code y_Mod_clearZ b_Mod_clearZ 2 none :: lw_T) ({ frames := 0, cells := 0, slots := 0, locals := 0 }) (va_Pc [.ref (ad 5)] (md_B D ad cA sz ln wd)) (va_Qv (fun (u : md_St) => (∀ q, q < 8200 → u.2 4 q = 0) ∧ (∀ k, k ≠ 4 → u.2 k = wd k) ∧ u.1 = va_up ln 2 0) (md_E D ad cA sz) (md_A ad sz)) 0 0 (md_A ad sz) := by
  refine md_met l (by decide) (Nat.le_of_ble_eq_true rfl) ?_
  intro p e s m below meth c ls hsz hC hK hr hlk hM hl
  subst hsz
  have hC : CallFix p m c b_Mod_clearZ 2 s _ lw_T R_Mod := hC
  have hl : lv_has ls 2 [(0, .ref (ad 5))] := hl
  refine lv_iconst (v := nI 0) hC.1 hC.2.1 d_Mod_clearZ_0 (by decide) ?_
  refine lv_istore_n (lv' := [(1, .int (nI (0))), (0, .ref (ad 5))]) hC.1 hC.2.1 d_Mod_clearZ_1 rfl hl (by decide) rfl (fun ls hl => ?_)
  refine lp_Mod_clearZ hC hK ln wd (fun w hw hf H locs ls hM hl => ?_) 8201 0 wd (Nat.zero_le _) (fun _ _ => rfl) (fun q hq => absurd hq (by omega)) (by omega) _ _ _ hM (lv_sub hl [1, 0] rfl)
  refine lv_aload_n hC.1 hC.2.1 d_Mod_clearZ_22 rfl (lv_at hl 0 rfl) ?_
  refine lv_iconst (v := nI 0) hC.1 hC.2.1 d_Mod_clearZ_23 (by decide) ?_
  refine md_p2 hC hK hM kf_Mod_33 d_Mod_clearZ_24 (fun H locs hM => ?_)
  exact md_vret hC hK hM hr hlk ⟨hf, hw, rfl⟩ d_Mod_clearZ_27
set_option maxHeartbeats 4000000 in
set_option maxRecDepth 100000 in
theorem lp_Mod_put {p : Program} {l : Launch} {e : Env} {R : Room} {s : State} {m : MethodId} {args : Array Value} {below : List Frame} {meth : Method} {c : Code} {Q : State → Prop} {D : va_G} {ad : Nat → Nat} {cA : ClassId} (hC : CallFix p m c b_Mod_put 6 s args lw_T R_Mod) (hK : va_K D classes (md_ty cA) s) (ln : Nat → Nat) (wd : Nat → Nat → Nat) (d i t : Nat) (hd : d < 16) (hi : 2 ≤ i ∧ i < 5) (ht : t ≤ 4096)
    (hex : ∀ (w : Nat → Nat → Nat), (∀ j, j ≠ 0 → w j = wd j) → (∀ q, q < 4096 → w 0 (4096 * d + q) = (fun q => if q < t then wd i q else 0) q) → (∀ q, (q < 4096 * d ∨ 4096 * d + 4096 ≤ q) → w 0 q = wd 0 q) → ∀ (H : Heap) (locs : List Loc) (ls : Array Slot), md_M D ad cA s (ln) (w) H locs → lv_has ls 6 [(0, .ref (ad 5)), (1, .int (nI (d))), (4, .int (nI (t)))] → W p l e R s m args below meth c H locs 0 0 Q (F0 m 62 ls [])) :
    ∀ (n : Nat) (k : Nat) (w : Nat → Nat → Nat), (k ≤ 4096) → (∀ j, j ≠ 0 → w j = wd j) → (∀ q, q < k → w 0 (4096 * d + q) = (fun q => if q < t then wd i q else 0) q) → (∀ q, (q < 4096 * d ∨ 4096 * d + 4096 ≤ q) → w 0 q = wd 0 q) → 4096 + 1 ≤ k + n → ∀ (H : Heap) (locs : List Loc) (ls : Array Slot), md_M D ad cA s (ln) (w) H locs → lv_has ls 6 [(0, .ref (ad 5)), (1, .int (nI (d))), (2, .ref (ad i)), (4, .int (nI (t))), (5, .int (nI (k)))] → W p l e R s m args below meth c H locs 0 0 Q (F0 m 20 ls []) := by
  intro n
  induction n with
  | zero =>
    intro k w hk hw hf ho hn
    exact absurd hn (by omega)
  | succ n ih =>
    intro k w hk hw hf ho hn H locs ls hM hl
    refine lv_iload hC.1 hC.2.1 d_Mod_put_20 (lv_at hl 4 rfl) ?_
    refine lv_sipush (v := nI 4096) hC.1 hC.2.1 d_Mod_put_22 (by decide) ?_
    refine nv_icmp_ge (tgt := 62) hC (by omega) (by omega) d_Mod_put_25 (by decide) (fun hc => ?_) (fun hc => ?_)
    · obtain rfl : k = 4096 := by omega
      exact hex w hw hf ho H locs ls hM (lv_sub hl [0, 1, 3] rfl)
    · refine lv_aload_n hC.1 hC.2.1 d_Mod_put_28 rfl (lv_at hl 0 rfl) ?_
      refine md_f0 hC hK hM kf_Mod_8 d_Mod_put_29 ?_
      refine lv_sipush (v := nI 4096) hC.1 hC.2.1 d_Mod_put_32 (by decide) ?_
      refine lv_iload_n hC.1 hC.2.1 d_Mod_put_35 rfl (lv_at hl 1 rfl) ?_
      refine nv_imul hC d_Mod_put_36 ?_
      refine lv_iload hC.1 hC.2.1 d_Mod_put_37 (lv_at hl 4 rfl) ?_
      refine nv_iadd hC d_Mod_put_39 ?_
      refine lv_iload hC.1 hC.2.1 d_Mod_put_40 (lv_at hl 4 rfl) ?_
      refine lv_iload hC.1 hC.2.1 d_Mod_put_42 (lv_at hl 3 rfl) ?_
      refine nv_icmp_ge (tgt := 54) hC (by omega) (by omega) d_Mod_put_44 (by decide) (fun hc2 => ?_) (fun hc2 => ?_)
      · refine lv_iconst (v := nI 0) hC.1 hC.2.1 d_Mod_put_54 (by decide) ?_
        refine md_ast hC hK hM (j := 0) (k := (4096 * d) + k) (v := 0) (by decide) (md_lt0 (by omega)) d_Mod_put_55 (fun H locs hM => ?_)
        refine lv_iinc (v := nI (k + 1)) (lv' := [(5, .int (nI (k + 1))), (0, .ref (ad 5)), (1, .int (nI (d))), (2, .ref (ad i)), (4, .int (nI (t)))]) hC.1 hC.2.1 d_Mod_put_56 hl (k := 4) rfl (nv_inc _) (by decide) rfl (fun ls hl => ?_)
        refine lv_goto (tgt := 20) hC.1 hC.2.1 d_Mod_put_59 (by decide) ?_
        exact ih (k + 1) (va_up w 0 (va_up (w 0) (4096 * d + k) (0))) (by omega) (fun j hj => by rw [va_up_ne _ _ hj]; exact hw j hj) (fun q hq => by
          rw [va_up_self]
          by_cases e : q = k
          · rw [e, va_up_self]; exact (if_neg (by omega)).symm
          · rw [va_up_ne _ _ (by omega)]; exact hf q (by omega)) (fun q hq => by rw [va_up_self, va_up_ne _ _ (by omega)]; exact ho q hq) (by omega) H locs ls hM (lv_sub hl [1, 2, 3, 4, 0] rfl)
      · refine lv_aload_n hC.1 hC.2.1 d_Mod_put_47 rfl (lv_at hl 2 rfl) ?_
        refine lv_iload hC.1 hC.2.1 d_Mod_put_48 (lv_at hl 4 rfl) ?_
        refine md_ald hC hK hM (j := i) (k := k) hi.2 (md_ltk hi (by omega)) d_Mod_put_50 ?_
        refine nv_top (y := nI (wd i (k))) (by rw [hw i (by omega)]) ?_
        refine lv_goto (tgt := 55) hC.1 hC.2.1 d_Mod_put_51 (by decide) ?_
        refine md_ast hC hK hM (j := 0) (k := (4096 * d) + k) (v := wd i (k)) (by decide) (md_lt0 (by omega)) d_Mod_put_55 (fun H locs hM => ?_)
        refine lv_iinc (v := nI (k + 1)) (lv' := [(5, .int (nI (k + 1))), (0, .ref (ad 5)), (1, .int (nI (d))), (2, .ref (ad i)), (4, .int (nI (t)))]) hC.1 hC.2.1 d_Mod_put_56 hl (k := 4) rfl (nv_inc _) (by decide) rfl (fun ls hl => ?_)
        refine lv_goto (tgt := 20) hC.1 hC.2.1 d_Mod_put_59 (by decide) ?_
        exact ih (k + 1) (va_up w 0 (va_up (w 0) (4096 * d + k) (wd i (k)))) (by omega) (fun j hj => by rw [va_up_ne _ _ hj]; exact hw j hj) (fun q hq => by
          rw [va_up_self]
          by_cases e : q = k
          · rw [e, va_up_self]; exact (if_pos hc2).symm
          · rw [va_up_ne _ _ (by omega)]; exact hf q (by omega)) (fun q hq => by rw [va_up_self, va_up_ne _ _ (by omega)]; exact ho q hq) (by omega) H locs ls hM (lv_sub hl [1, 2, 3, 4, 0] rfl)
set_option maxHeartbeats 4000000 in
set_option maxRecDepth 100000 in
theorem c_Mod_put (l : Launch) (D : va_G) (ad : Nat → Nat) (cA : ClassId) (sz : Nat) (ln : Nat → Nat) (wd : Nat → Nat → Nat) (N : Nat → Nat) (d i n0 X : Nat) (hR : md_R N wd) (hd : d < 16) (hi : 2 ≤ i ∧ i < 5) (hn0 : n0 ≤ 8200) (hdd : mv_d (wd i) 8200) (hX : mv_v (wd i) n0 = X) : Met l y_Mod_put (Cond.code y_Mod_put b_Mod_put 6 (some .boolean) :: lw_T) ({ frames := 1, cells := 0, slots := 0, locals := 22 }) (va_Pc [.ref (ad 5), .int (nI (d)), .ref (ad i), .int (nI (n0))] (md_B D ad cA sz ln wd)) (va_Qi (fun (r : Int32) (u : md_St) => r = (sp_putv N d X).1 ∧ md_R (sp_putv N d X).2 u.2 ∧ u.1 = ln ∧ ∀ k, 2 ≤ k → u.2 k = wd k) (md_E D ad cA sz) (md_A ad sz)) 0 0 (md_A ad sz) := by
  refine md_met l (by decide) (Nat.le_of_ble_eq_true rfl) ?_
  intro p e s m below meth c ls hsz hC hK hr hlk hM hl
  subst hsz
  have hC : CallFix p m c b_Mod_put 6 s _ lw_T R_Mod := hC
  have hl : lv_has ls 6 [(0, .ref (ad 5)), (1, .int (nI (d))), (2, .ref (ad i)), (3, .int (nI (n0)))] := hl
  have hT := mr_trim (n := n0) hdd hn0
  rw [hX] at hT
  have hT1 := hT.1
  refine lv_aload_n hC.1 hC.2.1 d_Mod_put_0 rfl (lv_at hl 2 rfl) ?_
  refine lv_iload_n hC.1 hC.2.1 d_Mod_put_1 rfl (lv_at hl 3 rfl) ?_
  refine md_callSi hC hK hM (As := [.ref (ad i), .int (nI (n0))]) (rest := []) (c_Mod_trim l D ad cA _ ln wd i n0 hi hn0 hdd) kc_Mod_trim km_Mod_36 ki_Mod ks_Mod_trim kd_Mod_trim ⟨rfl, rfl⟩ ⟨Nat.le_of_ble_eq_true rfl, Nat.le_of_ble_eq_true rfl⟩ rfl hl.1 (Nat.le_of_ble_eq_true rfl) d_Mod_put_2 (fun r u H locs hp hM => ?_)
  obtain ⟨rfl, rfl⟩ := hp
  obtain ⟨t, hteq⟩ : ∃ t, t = mv_top (wd i) n0 := ⟨_, rfl⟩
  rw [← hteq] at hT hT1 ⊢
  have hM : md_M D ad cA s (ln) (wd) H locs := by
    exact hM
  refine lv_istore (lv' := [(4, .int (nI (t))), (0, .ref (ad 5)), (1, .int (nI (d))), (2, .ref (ad i)), (3, .int (nI (n0)))]) hC.1 hC.2.1 d_Mod_put_5 hl (by decide) rfl (fun ls hl => ?_)
  refine lv_iload hC.1 hC.2.1 d_Mod_put_7 (lv_at hl 0 rfl) ?_
  refine lv_sipush (v := nI 4096) hC.1 hC.2.1 d_Mod_put_9 (by decide) ?_
  refine nv_icmp_le (tgt := 17) hC (by omega) (by omega) d_Mod_put_12 (by decide) (fun hc => ?_) (fun hc => ?_)
  · refine lv_iconst (v := nI 0) hC.1 hC.2.1 d_Mod_put_17 (by decide) ?_
    refine lv_istore (lv' := [(5, .int (nI (0))), (4, .int (nI (t))), (0, .ref (ad 5)), (1, .int (nI (d))), (2, .ref (ad i)), (3, .int (nI (n0)))]) hC.1 hC.2.1 d_Mod_put_18 hl (by decide) rfl (fun ls hl => ?_)
    refine lp_Mod_put hC hK ln wd d i t hd hi hc (fun w hw hf ho H locs ls hM hl => ?_) 4097 0 wd (Nat.zero_le _) (fun _ _ => rfl) (fun q hq => absurd hq (by omega)) (fun _ _ => rfl) (by omega) _ _ _ hM (lv_sub hl [2, 3, 4, 1, 0] rfl)
    refine lv_aload_n hC.1 hC.2.1 d_Mod_put_62 rfl (lv_at hl 0 rfl) ?_
    refine md_f1 hC hK hM kf_Mod_14 d_Mod_put_63 ?_
    refine lv_iload_n hC.1 hC.2.1 d_Mod_put_66 rfl (lv_at hl 1 rfl) ?_
    refine lv_iload hC.1 hC.2.1 d_Mod_put_67 (lv_at hl 2 rfl) ?_
    refine md_ast hC hK hM (j := 1) (k := d) (v := t) (by decide) (md_lt1 (by omega)) d_Mod_put_69 (fun H locs hM => ?_)
    refine lv_iconst (v := nI 1) hC.1 hC.2.1 d_Mod_put_70 (by decide) ?_
    have hs := mr_small hT hc
    have hput := mr_put hT hc hf
    refine md_zret hC hK hM hr hlk rfl ?_ d_Mod_put_71
    refine ⟨by rw [sp_putv, if_pos hs], ?_, rfl, fun k hk => ?_⟩
    · rw [sp_putv, if_pos hs]
      refine md_R_up hR hd (fun q hq => ?_) (fun q hq => ?_) ?_
      · show va_up w 1 (va_up (w 1) d t) 0 q = _
        rw [va_up_ne _ _ (by decide)]; exact ho q hq
      · show va_up w 1 (va_up (w 1) d t) 1 q = _
        rw [va_up_self, va_up_ne _ _ hq, hw 1 (by decide)]
      · show mr_r 4096 (fun i => va_up w 1 (va_up (w 1) d t) 0 (4096 * d + i)) (va_up w 1 (va_up (w 1) d t) 1 d) X
        rw [va_up_ne _ _ (by decide), va_up_self, va_up_self]; exact hput
    · show va_up w 1 (va_up (w 1) d t) k = _
      rw [va_up_ne _ _ (by omega)]; exact hw k (by omega)
  · refine lv_iconst (v := nI 0) hC.1 hC.2.1 d_Mod_put_15 (by decide) ?_
    have hs := mr_big hT hc
    exact md_zret hC hK hM hr hlk rfl ⟨by rw [sp_putv, if_neg hs], by rw [sp_putv, if_neg hs]; exact hR, rfl, fun k hk => rfl⟩ d_Mod_put_16
