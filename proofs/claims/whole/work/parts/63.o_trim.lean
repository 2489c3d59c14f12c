set_option maxHeartbeats 4000000 in
set_option maxRecDepth 100000 in
theorem lp_Mod_trim {p : Program} {l : Launch} {e : Env} {R : Room} {s : State} {m : MethodId} {args : Array Value} {below : List Frame} {meth : Method} {c : Code} {Q : State → Prop} {D : va_G} {ad : Nat → Nat} {cA : ClassId} (hC : CallFix p m c b_Mod_trim 3 s args lw_T R_Mod) (hK : va_K D classes (md_ty cA) s) (ln : Nat → Nat) (wd : Nat → Nat → Nat) (k n0 : Nat) (hk : 2 ≤ k ∧ k < 5) (hn0 : n0 ≤ 8200) (hd : mv_d (wd k) 8200)
    (hex : ∀ (H : Heap) (locs : List Loc) (ls : Array Slot), md_M D ad cA s (ln) (wd) H locs → lv_has ls 3 [(2, .int (nI (mv_top (wd k) n0)))] → W p l e R s m args below meth c H locs 0 0 Q (F0 m 20 ls [])) :
    ∀ (n : Nat) (i : Nat), (i ≤ n0) → (mv_top (wd k) n0 = mv_top (wd k) i) → i + 1 ≤ n → ∀ (H : Heap) (locs : List Loc) (ls : Array Slot), md_M D ad cA s (ln) (wd) H locs → lv_has ls 3 [(0, .ref (ad k)), (2, .int (nI (i)))] → W p l e R s m args below meth c H locs 0 0 Q (F0 m 2 ls []) := by
  intro n
  induction n with
  | zero =>
    intro i hi2 ht hn
    exact absurd hn (by omega)
  | succ n ih =>
    intro i hi2 ht hn H locs ls hM hl
    refine lv_iload_n hC.1 hC.2.1 d_Mod_trim_2 rfl (lv_at hl 1 rfl) ?_
    refine nv_if_le (tgt := 20) hC (by omega) d_Mod_trim_3 (by decide) (fun hc => ?_) (fun hc => ?_)
    · subst hc
      exact hex H locs ls hM (by rw [ht]; exact lv_sub hl [1] rfl)
    · obtain ⟨q, rfl⟩ : ∃ q, i = q + 1 := ⟨i - 1, by omega⟩
      refine lv_aload_n hC.1 hC.2.1 d_Mod_trim_6 rfl (lv_at hl 0 rfl) ?_
      refine lv_iload_n hC.1 hC.2.1 d_Mod_trim_7 rfl (lv_at hl 1 rfl) ?_
      refine lv_iconst (v := nI 1) hC.1 hC.2.1 d_Mod_trim_8 (by decide) ?_
      refine nv_isub hC (by omega) d_Mod_trim_9 ?_
      refine md_ald hC hK hM (j := k) (k := q) hk.2 (md_ltk hk (by omega)) d_Mod_trim_10 ?_
      refine nv_if_ne (tgt := 20) hC (by have := hd q (by omega); omega) d_Mod_trim_11 (by decide) (fun hz => ?_) (fun hz => ?_)
      · exact hex H locs ls hM (by rw [ht, mv_top_n hz]; exact lv_sub hl [1] rfl)
      · refine lv_iinc (v := nI (q)) (lv' := [(2, .int (nI (q))), (0, .ref (ad k))]) hC.1 hC.2.1 d_Mod_trim_14 hl (k := 1) rfl (nv_dec q) (by decide) rfl (fun ls hl => ?_)
        refine lv_goto (tgt := 2) hC.1 hC.2.1 d_Mod_trim_17 (by decide) ?_
        exact ih q (by omega) (by rw [ht, mv_top_z hz]) (by omega) H locs ls hM (lv_sub hl [1, 0] rfl)
set_option maxHeartbeats 4000000 in
set_option maxRecDepth 100000 in
theorem c_Mod_trim (l : Launch) (D : va_G) (ad : Nat → Nat) (cA : ClassId) (sz : Nat) (ln : Nat → Nat) (wd : Nat → Nat → Nat) (k n0 : Nat) (hk : 2 ≤ k ∧ k < 5) (hn0 : n0 ≤ 8200) (hd : mv_d (wd k) 8200) : Met l y_Mod_trim (Cond.code y_Mod_trim b_Mod_trim 3 (some .int) :: lw_T) ({ frames := 0, cells := 0, slots := 0, locals := 0 }) (va_Pc [.ref (ad k), .int (nI (n0))] (md_B D ad cA sz ln wd)) (va_Qi (fun (r : Int32) (u : md_St) => r = nI (mv_top (wd k) n0) ∧ u = (ln, wd)) (md_E D ad cA sz) (md_A ad sz)) 0 0 (md_A ad sz) := by
  refine md_met l (by decide) (Nat.le_of_ble_eq_true rfl) ?_
  intro p e s m below meth c ls hsz hC hK hr hlk hM hl
  subst hsz
  have hC : CallFix p m c b_Mod_trim 3 s _ lw_T R_Mod := hC
  have hl : lv_has ls 3 [(0, .ref (ad k)), (1, .int (nI (n0)))] := hl
  refine lv_iload_n hC.1 hC.2.1 d_Mod_trim_0 rfl (lv_at hl 1 rfl) ?_
  refine lv_istore_n (lv' := [(2, .int (nI (n0))), (0, .ref (ad k)), (1, .int (nI (n0)))]) hC.1 hC.2.1 d_Mod_trim_1 rfl hl (by decide) rfl (fun ls hl => ?_)
  refine lp_Mod_trim hC hK ln wd k n0 hk hn0 hd (fun H locs ls hM hl => ?_) (n0 + 1) n0 (Nat.le_refl _) rfl (Nat.le_refl _) _ _ _ hM (lv_sub hl [1, 0] rfl)
  refine lv_iload_n hC.1 hC.2.1 d_Mod_trim_20 rfl (lv_at hl 0 rfl) ?_
  exact md_iret hC hK hM hr hlk ⟨rfl, rfl⟩ d_Mod_trim_21
