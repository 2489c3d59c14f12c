set_option maxHeartbeats 4000000 in
set_option maxRecDepth 100000 in
theorem lp_Whole_settle_1 {p : Program} {l : Launch} {e : Env} {R : Room} {s : State} {m : MethodId} {args : Array Value} {below : List Frame} {meth : Method} {c : Code} {Q : State → Prop} {D : va_G} {ad : Nat → Nat} {cA cR : ClassId} (hC : CallFix p m c b_Whole_settle 3 s args lw_T R_Whole) (hK : va_K D classes (wm_ty cA cR) s) (ln : Nat → Nat) (wd : Nat → Nat → Int32) (i count : Nat) (hi : i < 19) (hlen : ln i ≤ 2050) (hcnt : count ≤ 2050)
    (hex : ∀ (k : Nat), ∀ (H : Heap) (locs : List Loc) (ls : Array Slot), wm_M D ad cA cR s (ln) (va_up wd i (wm_clr (wd i) count (max count (ln i)))) H locs → lv_has ls 3 [(0, .ref (ad i)), (1, .int (nI (count))), (2, .int (nI (k)))] → W p l e R s m args below meth c H locs 0 0 Q (F0 m 23 ls [])) :
    ∀ (n : Nat) (k : Nat), (count ≤ k) → (k ≤ max count (ln i)) → max count (ln i) + 1 ≤ k + n → ∀ (H : Heap) (locs : List Loc) (ls : Array Slot), wm_M D ad cA cR s (ln) (va_up wd i (wm_clr (wd i) count k)) H locs → lv_has ls 3 [(0, .ref (ad i)), (1, .int (nI (count))), (2, .int (nI (k)))] → W p l e R s m args below meth c H locs 0 0 Q (F0 m 2 ls []) := by
  intro n
  induction n with
  | zero =>
    intro k hk hk2 hn
    exact absurd hn (by omega)
  | succ n ih =>
    intro k hk hk2 hn H locs ls hM hl
    refine lv_iload_n hC.1 hC.2.1 d_Whole_settle_2 rfl (lv_at hl 2 rfl) ?_
    refine lv_aload_n hC.1 hC.2.1 d_Whole_settle_3 rfl (lv_at hl 0 rfl) ?_
    refine wm_len hC hK hM (j := i) hi kf_Whole_15 d_Whole_settle_4 ?_
    refine nv_icmp_ge (tgt := 23) hC (by omega) (by omega) d_Whole_settle_7 (by decide) (fun hc => ?_) (fun hc => ?_)
    · have hM : wm_M D ad cA cR s (ln) (va_up wd i (wm_clr (wd i) count (max count (ln i)))) H locs := by
        rw [show max count (ln i) = k by omega]; exact hM
      exact hex k H locs ls hM (lv_sub hl [0, 1, 2] rfl)
    · refine lv_aload_n hC.1 hC.2.1 d_Whole_settle_10 rfl (lv_at hl 0 rfl) ?_
      refine wm_wds hC hK hM (j := i) hi kf_Whole_9 d_Whole_settle_11 ?_
      refine lv_iload_n hC.1 hC.2.1 d_Whole_settle_14 rfl (lv_at hl 2 rfl) ?_
      refine lv_iconst (v := nI 0) hC.1 hC.2.1 d_Whole_settle_15 (by decide) ?_
      refine wm_ast hC hK hM (j := i) (k := k) hi (by omega) d_Whole_settle_16 (fun H locs hM => ?_)
      have hM : wm_M D ad cA cR s (ln) (va_up wd i (wm_clr (wd i) count (k + 1))) H locs := by
        rw [← wm_clr_s (by omega), ← wm_uu wd i (wm_clr (wd i) count k)]; rw [va_up_self] at hM; exact hM
      refine lv_iinc (v := nI (k + 1)) (lv' := [(2, .int (nI (k + 1))), (0, .ref (ad i)), (1, .int (nI (count)))]) hC.1 hC.2.1 d_Whole_settle_17 hl (k := 2) rfl (nv_inc _) (by decide) rfl (fun ls hl => ?_)
      refine lv_goto (tgt := 2) hC.1 hC.2.1 d_Whole_settle_20 (by decide) ?_
      exact ih (k + 1) (by omega) (by omega) (by omega) H locs ls hM (lv_sub hl [1, 2, 0] rfl)
set_option maxHeartbeats 4000000 in
set_option maxRecDepth 100000 in
theorem lp_Whole_settle_2 {p : Program} {l : Launch} {e : Env} {R : Room} {s : State} {m : MethodId} {args : Array Value} {below : List Frame} {meth : Method} {c : Code} {Q : State → Prop} {D : va_G} {ad : Nat → Nat} {cA cR : ClassId} (hC : CallFix p m c b_Whole_settle 3 s args lw_T R_Whole) (hK : va_K D classes (wm_ty cA cR) s) (ln : Nat → Nat) (wd : Nat → Nat → Int32) (i count kk : Nat) (hi : i < 19)
    (hex : ∀ (H : Heap) (locs : List Loc) (ls : Array Slot), wm_M D ad cA cR s (va_up ln i (wm_top (wd i) count)) (wd) H locs → lv_has ls 3 [(0, .ref (ad i)), (1, .int (nI (count))), (2, .int (nI (kk)))] → W p l e R s m args below meth c H locs 0 0 Q (F0 m 62 ls [])) :
    ∀ (n : Nat) (k : Nat), (k ≤ 2050) → (wm_top (wd i) count = wm_top (wd i) k) → k + 1 ≤ n → ∀ (H : Heap) (locs : List Loc) (ls : Array Slot), wm_M D ad cA cR s (va_up ln i k) (wd) H locs → lv_has ls 3 [(0, .ref (ad i)), (1, .int (nI (count))), (2, .int (nI (kk)))] → W p l e R s m args below meth c H locs 0 0 Q (F0 m 28 ls []) := by
  intro n
  induction n with
  | zero =>
    intro k hk ht hn
    exact absurd hn (by omega)
  | succ n ih =>
    intro k hk ht hn H locs ls hM hl
    refine lv_aload_n hC.1 hC.2.1 d_Whole_settle_28 rfl (lv_at hl 0 rfl) ?_
    refine wm_len hC hK hM (j := i) hi kf_Whole_15 d_Whole_settle_29 ?_
    refine nv_top (y := nI (k)) (by rw [va_up_self]) ?_
    refine nv_if_le (tgt := 62) hC (by omega) d_Whole_settle_32 (by decide) (fun hc => ?_) (fun hc => ?_)
    · have hM : wm_M D ad cA cR s (va_up ln i (wm_top (wd i) count)) (wd) H locs := by
        rw [ht, hc, wm_top_0]; rw [hc] at hM; exact hM
      exact hex H locs ls hM hl
    · obtain ⟨j, rfl⟩ : ∃ j, k = j + 1 := ⟨k - 1, by omega⟩
      refine lv_aload_n hC.1 hC.2.1 d_Whole_settle_35 rfl (lv_at hl 0 rfl) ?_
      refine wm_wds hC hK hM (j := i) hi kf_Whole_9 d_Whole_settle_36 ?_
      refine lv_aload_n hC.1 hC.2.1 d_Whole_settle_39 rfl (lv_at hl 0 rfl) ?_
      refine wm_len hC hK hM (j := i) hi kf_Whole_15 d_Whole_settle_40 ?_
      refine nv_top (y := nI (j + 1)) (by rw [va_up_self]) ?_
      refine lv_iconst (v := nI 1) hC.1 hC.2.1 d_Whole_settle_43 (by decide) ?_
      refine nv_isub hC (by omega) d_Whole_settle_44 ?_
      refine wm_ald hC hK hM (j := i) (k := j) hi (by omega) d_Whole_settle_45 ?_
      refine lv_if_ne (tgt := 62) hC.1 hC.2.1 d_Whole_settle_46 (by decide) (fun hz => ?_) (fun hz => ?_)
      · have hM : wm_M D ad cA cR s (va_up ln i (wm_top (wd i) count)) (wd) H locs := by
          rw [ht, wm_top_n hz]; exact hM
        exact hex H locs ls hM hl
      · refine lv_aload_n hC.1 hC.2.1 d_Whole_settle_49 rfl (lv_at hl 0 rfl) ?_
        refine lv_dup hC.1 hC.2.1 d_Whole_settle_50 rfl ?_
        refine wm_len hC hK hM (j := i) hi kf_Whole_15 d_Whole_settle_51 ?_
        refine nv_top (y := nI (j + 1)) (by rw [va_up_self]) ?_
        refine lv_iconst (v := nI 1) hC.1 hC.2.1 d_Whole_settle_54 (by decide) ?_
        refine nv_isub hC (by omega) d_Whole_settle_55 ?_
        refine wm_putlen hC hK hM (j := i) hi kf_Whole_15 d_Whole_settle_56 (fun H locs hM => ?_)
        have hM : wm_M D ad cA cR s (va_up ln i j) (wd) H locs := by
          rw [wm_uu] at hM; exact hM
        refine lv_goto (tgt := 28) hC.1 hC.2.1 d_Whole_settle_59 (by decide) ?_
        exact ih j (by omega) (by rw [ht, wm_top_z hz]) (by omega) H locs ls hM hl
set_option maxHeartbeats 4000000 in
set_option maxRecDepth 100000 in
theorem c_Whole_settle (l : Launch) (D : va_G) (ad : Nat → Nat) (cA cR : ClassId) (sz : Nat) (ln : Nat → Nat) (wd : Nat → Nat → Int32) (i count : Nat) (hi : i < 19) (hlen : ln i ≤ 2050) (hcnt : count ≤ 2050) : Met l y_Whole_settle (Cond.code y_Whole_settle b_Whole_settle 3 none :: lw_T) ({ frames := 0, cells := 0, slots := 0, locals := 0 }) (va_Pc [.ref (ad i), .int (nI (count))] (wm_B D ad cA cR sz ln wd)) (va_Qv (fun u : wm_St => u = (va_up ln i (wm_top (wd i) count), va_up wd i (wm_clr (wd i) count (ln i)))) (wm_E D ad cA cR sz) (wm_A ad sz)) 0 0 (wm_A ad sz) := by
  refine wm_met l (by decide) (Nat.le_of_ble_eq_true rfl) ?_
  intro p e s m below meth c ls hsz hC hK hr hlk hM hl
  subst hsz
  have hC : CallFix p m c b_Whole_settle 3 s _ lw_T R_Whole := hC
  have hl : lv_has ls 3 [(0, .ref (ad i)), (1, .int (nI (count)))] := hl
  refine lv_iload_n hC.1 hC.2.1 d_Whole_settle_0 rfl (lv_at hl 1 rfl) ?_
  refine lv_istore_n (lv' := [(2, .int (nI (count))), (0, .ref (ad i)), (1, .int (nI (count)))]) hC.1 hC.2.1 d_Whole_settle_1 rfl hl (by decide) rfl (fun ls hl => ?_)
  have hM : wm_M D ad cA cR s (ln) (va_up wd i (wm_clr (wd i) count count)) s.heap [] := by
    rw [wm_clr_e (Nat.le_refl _), wm_eta]; exact hM
  refine lp_Whole_settle_1 hC hK ln wd i count hi hlen hcnt (fun k H locs ls hM hl => ?_) (max count (ln i) + 1 - count) count (Nat.le_refl _) (by omega) (by omega) _ _ _ hM (lv_sub hl [1, 2, 0] rfl)
  have hM : wm_M D ad cA cR s (ln) (va_up wd i (wm_clr (wd i) count (ln i))) H locs := by
    rw [wm_clr_max] at hM; exact hM
  refine lv_aload_n hC.1 hC.2.1 d_Whole_settle_23 rfl (lv_at hl 0 rfl) ?_
  refine lv_iload_n hC.1 hC.2.1 d_Whole_settle_24 rfl (lv_at hl 1 rfl) ?_
  refine wm_putlen hC hK hM (j := i) hi kf_Whole_15 d_Whole_settle_25 (fun H locs hM => ?_)
  refine lp_Whole_settle_2 hC hK ln (va_up wd i (wm_clr (wd i) count (ln i))) i count k hi (fun H locs ls hM hl => ?_) (count + 1) count hcnt rfl (Nat.le_refl _) _ _ _ hM hl
  refine wm_vret hC hK hM hr hlk ?_ d_Whole_settle_62
  rw [va_up_self, wm_top_congr (g := wd i) (fun k hk => wm_clr_lo hk)]
