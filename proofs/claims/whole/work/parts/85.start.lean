theorem lw_R0 : wm_R (fun _ => 0) (fun _ => 0) (fun _ _ => nI 0) :=
  ⟨⟨fun _ => 0, fun j hj => ⟨Nat.zero_le _, fun _ _ _ => (show nI 0 = 0 from by decide), fun h => absurd h (Nat.lt_irrefl 0), rfl⟩, fun _ _ => rfl⟩, fun _ _ => by unfold sp_L; exact Nat.two_pow_pos _⟩
theorem lw_R1 : md_R (fun _ => 0) (fun _ _ => 0) := fun r hr => ⟨Nat.zero_le _, fun _ _ => (show 0 < 65536 from by decide), fun _ _ _ => rfl, fun h => absurd h (Nat.lt_irrefl 0), rfl⟩
theorem km_law_9 : Cond.methodLink R_law 9 y_Mill_init ∈ lw_T := by decide +kernel
theorem km_law_12 : Cond.methodLink R_law 12 y_Mod_init ∈ lw_T := by decide +kernel
theorem kg_law_7 : Cond.classLink R_law 7 R_Mill ∈ lw_T := by decide +kernel
theorem kg_law_10 : Cond.classLink R_law 10 R_Mod ∈ lw_T := by decide +kernel
theorem ko_ov : Cond.arrayOver (.object "WholeMill$Whole") ∈ lw_tbl := by decide +kernel
set_option maxHeartbeats 4000000 in
set_option maxRecDepth 100000 in
/-- from the entry, for every script of at most 2560 ints, the law comes to its end with true -/
theorem whole_start {p : Program} {e : Env} {s : State} {m : MethodId} {below : List Frame} {meth : Method} {c : Code} (l : Launch) {b L : Nat} {xs : Nat → Int32} (hL : L ≤ 2560) (C0 : lw_At p s m meth c b L xs) : W p l e room_1 s m #[Value.ref b] below meth c s.heap [] 0 0 (lw_Z below #[Value.ref b] s) (entryFrame m ([Value.ref b] : List Value).toArray 4) := by
  obtain ⟨hx, hb, hr, hml, hown, hts, hX, hbl, hlocks, hgv⟩ := id C0
  have hC : CallFix p m c code 4 s #[Value.ref b] lw_T R_law := ⟨hx, hb, hml, hown, fun w hw => hts w (List.mem_filter.mp hw).1⟩
  have hA : ∀ q : Nat, s.heap.size ≤ q → (fun q : Nat => s.heap.size ≤ q) q := fun _ h => h
  have hAO : va_AO R_Whole s := va_AO.of (A := #[Value.ref b]) (hts _ ko_ov)
  obtain ⟨k0, iS0, hKn0⟩ := u_known (C := R_Mill) (T := F_Mill) (N := 4) (n := 4) hC.2.2.2.2 i_Mill (hC.2.2.2.2 _ ko_im)
  obtain ⟨k1, iS1, hKn1⟩ := u_known (C := R_Whole) (T := F_Whole) (N := 2) (n := 2) hC.2.2.2.2 i_Whole (hC.2.2.2.2 _ ko_iw)
  obtain ⟨k2, iS2, hKn2⟩ := u_known (C := R_Mod) (T := F_Mod) (N := 8) (n := 8) hC.2.2.2.2 i_Mod (hC.2.2.2.2 _ ko_io)
  obtain ⟨D, hKc⟩ : ∃ (D : va_G), ∀ (k : Nat) (q : vw_C), classes[k]? = some q → u_Kn s q.1 q.2.1 q.2.2 (D.1 k) (D.2 k) := by
    refine ⟨(fun k => if k = 0 then k0 else if k = 1 then k1 else k2, fun k => if k = 0 then iS0 else if k = 1 then iS1 else iS2), ?_⟩
    intro k q hq
    match k, hq with
    | 0, hq => cases hq; exact hKn0
    | 1, hq => cases hq; exact hKn1
    | 2, hq => cases hq; exact hKn2
    | k + 3, hq => simp [classes] at hq
  have hS : va_S (fun q : Nat => s.heap.size ≤ q) s.heap s.heap [] := va_S.rf
  have hK : va_K D classes [] s := ⟨hKc, fun k q h => by simp at h⟩
  have hP : va_P D classes [] s.heap := fun k q h => by simp at h
  have hD : va_D (fun q : Nat => s.heap.size ≤ q) [] := ⟨fun i j p q h => by simp at h, fun k q h => by simp at h⟩
  have hl := lv_entry ([.ref b]) (n := 4) (Nat.le_of_ble_eq_true rfl)
  rw [lg_entry_eq]
  generalize (lg_sl ([.ref b]) ++ List.replicate (4 - (lg_sl ([.ref b])).length) Slot.unset).toArray = ls at hl ⊢
  have hl : lv_has ls 4 [(0, .ref b)] := hl
  refine va_new (ci := 0) (fs := [.null, .null, .null, .null]) (C := R_Mill) (T := F_Mill) (N := 4) hC.1 hC.2.1 hC.2.2.2.2 i_Mill t_Mill t_Mill_ok hC.2.2.2.1 (hC.2.2.2.2 _ kg_law_7) (hC.2.2.2.2 _ ko_im) (hC.2.2.2.2 _ ki_Mill) hK hP hD hS hA rfl (fun j hj => by rcases (show j = 0 ∨ j = 1 ∨ j = 2 ∨ j = 3 by omega) with rfl | rfl | rfl | rfl <;> rfl) (Nat.le_of_ble_eq_true rfl) (Nat.le_of_ble_eq_true rfl) d_law_0 (fun h0 H hP hD hS => ?_)
  have hP : va_P D classes (cm_w0 h0) H := hP
  have hD : va_D (fun q : Nat => s.heap.size ≤ q) (cm_w0 h0) := hD
  refine lv_dup hC.1 hC.2.1 d_law_3 rfl ?_
  have hFc := va_free (wc := cm_w0 h0) hD hS hA [0] rfl
  refine va_callv (va_runI (As := []) (rest := [.ref h0]) hC (c_Mill_init l D h0 H.size) ⟨callB_of 0 hC.2.2.2.2 (wm_good kc_Mill_init) rfl rfl rfl (hC.2.2.2.2 _ ki_Mill) (hC.2.2.2.2 _ km_law_9) kd_Mill_init ⟨Nat.le_of_ble_eq_true rfl, Nat.le_of_ble_eq_true rfl⟩, rfl, hC.2.2.2.2 _ kn_Mill_init⟩ ⟨ct_blindA _ _ _ _, fun U hU hW => ⟨rfl, by rw [hU], by rw [hU]; exact hP, va_K.moved hW.alike hK, hD.weaken (fun _ _ _ _ => trivial), va_AO.moved hW.alike hAO⟩⟩ rfl rfl hl.1 rfl (lv_room (Nat.le_of_ble_eq_true rfl)) d_law_4 ⟨Nat.le_of_ble_eq_true rfl, Nat.le_of_ble_eq_true rfl⟩) hS (fun q _ h => hFc q h) hFc (fun u t H1 locs ht hvm hw hB hz1 hk1 hS => ?_)
  obtain ⟨ad, cA, cR⟩ := u
  obtain ⟨hP1, hK1, hD1⟩ := hB
  rw [ht] at hP1
  have hK1 : va_K D classes (wm_ty cA cR) s := va_K.moved hvm.symm hK1
  have hw : ad 38 = h0 := hw
  subst hw
  have hP : va_P D classes (wm_w ad cA cR (fun _ => 0) (fun _ _ => nI 0)) H1 := hP1
  have hD : va_D (fun q : Nat => s.heap.size ≤ q) (wm_w ad cA cR (fun _ => 0) (fun _ _ => nI 0)) := hD1.weaken (fun _ _ _ h => hFc _ h)
  clear hP1 hD1 hk1 hFc
  refine lv_astore_n (lv' := [(1, .ref (ad 38)), (0, .ref b)]) hC.1 hC.2.1 d_law_7 rfl hl (by decide) rfl (fun ls hl => ?_)
  refine va_new (ci := 2) (fs := [.null, .null, .null, .null, .null, .int 0, .int 0, .int 0]) (C := R_Mod) (T := F_Mod) (N := 8) hC.1 hC.2.1 hC.2.2.2.2 i_Mod t_Mod t_Mod_ok hC.2.2.2.1 (hC.2.2.2.2 _ kg_law_10) (hC.2.2.2.2 _ ko_io) (hC.2.2.2.2 _ ki_Mod) hK1 hP hD hS hA rfl (fun j hj => by rcases (show j = 0 ∨ j = 1 ∨ j = 2 ∨ j = 3 ∨ j = 4 ∨ j = 5 ∨ j = 6 ∨ j = 7 by omega) with rfl | rfl | rfl | rfl | rfl | rfl | rfl | rfl <;> rfl) (Nat.le_of_ble_eq_true rfl) (Nat.le_of_ble_eq_true rfl) d_law_8 (fun h1 H hP hD hS => ?_)
  have hP : va_P D classes (wm_w ad cA cR (fun _ => 0) (fun _ _ => nI 0) ++ co_w0 h1) H := hP
  have hD : va_D (fun q : Nat => s.heap.size ≤ q) (wm_w ad cA cR (fun _ => 0) (fun _ _ => nI 0) ++ co_w0 h1) := hD
  refine lv_dup hC.1 hC.2.1 d_law_11 rfl ?_
  have hPc := lw_Pr hP
  have hDc := lw_Dr hD
  have hFc := va_free (wc := co_w0 h1) hDc hS hA [0] rfl
  refine va_callv (va_runI (As := []) (rest := [.ref h1]) hC (c_Mod_init l D h1 H.size) ⟨callB_of 0 hC.2.2.2.2 (wm_good kc_Mod_init) rfl rfl rfl (hC.2.2.2.2 _ ki_Mod) (hC.2.2.2.2 _ km_law_12) kd_Mod_init ⟨Nat.le_of_ble_eq_true rfl, Nat.le_of_ble_eq_true rfl⟩, rfl, hC.2.2.2.2 _ kn_Mod_init⟩ ⟨ct_blind _ _ _ _, fun U hU hW => ⟨rfl, by rw [hU], by rw [hU]; exact hPc, va_K.moved hW.alike hK, hDc.weaken (fun _ _ _ _ => trivial), trivial⟩⟩ rfl rfl hl.1 rfl (lv_room (Nat.le_of_ble_eq_true rfl)) d_law_12 ⟨Nat.le_of_ble_eq_true rfl, Nat.le_of_ble_eq_true rfl⟩) hS (fun q _ h => hFc q h) hFc (fun u t H1 locs ht hvm hw hB hz1 hk1 hS => ?_)
  obtain ⟨ad2, cB⟩ := u
  obtain ⟨hP1, hK2, hD1⟩ := hB
  rw [ht] at hP1
  have hK2 : va_K D classes (md_ty cB) s := va_K.moved hvm.symm hK2
  have hw : ad2 5 = h1 := hw
  obtain ⟨hP, hD⟩ := va_joinQ (X := co_w0 h1) (cx := co_w0 h1) (wr := []) (w1 := md_w ad2 cB (fun _ => 0) (fun _ _ => 0)) (pl := wm_w ad cA cR (fun _ => 0) (fun _ _ => nI 0)) (lw_swP hP) (lw_swD hD) [0] [] rfl rfl (by decide) (fun i hi => absurd hi List.not_mem_nil) hk1 hFc hP1 hD1
  have hM : lw_M D ad cA cR ad2 cB s (fun _ => 0) (fun _ _ => nI 0) (fun _ => 0) (fun _ _ => 0) H1 locs := ⟨lw_swP hP, lw_swD hD, hS⟩
  subst hw
  refine lv_astore_n (lv' := [(2, .ref (ad2 5)), (1, .ref (ad 38)), (0, .ref b)]) hC.1 hC.2.1 d_law_15 rfl hl (by decide) rfl (fun ls hl => ?_)
  refine lv_iconst (v := nI 0) hC.1 hC.2.1 d_law_16 (by decide) ?_
  refine lv_istore_n (lv' := [(3, .int (nI 0)), (2, .ref (ad2 5)), (1, .ref (ad 38)), (0, .ref b)]) hC.1 hC.2.1 d_law_17 rfl hl (by decide) rfl (fun ls hl => ?_)
  refine W.widen (k := 600000) (n := 7302250) (by decide) (by decide) ?_
  exact lw_loop hC hr hlocks hK1 hK2 hX hbl hL (L + 1) 0 (fun _ => 0) _ _ _ _ H1 locs ls (Nat.zero_le _) (by omega) lw_R0 lw_R1 hM (lv_sub hl [3, 2, 1, 0] rfl)
