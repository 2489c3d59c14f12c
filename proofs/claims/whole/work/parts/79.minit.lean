/-! ===== the mill's constructor ===== -/
def pw (q w : Nat → Nat) (cA : ClassId) : Nat → va_W
  | 0 => []
  | k + 1 => pw q w cA k ++ cw_w1 (q k) (w k) cA
theorem pw_len (q w : Nat → Nat) (cA : ClassId) (k : Nat) : (pw q w cA k).length = 2 * k := by
  induction k with
  | zero => rfl
  | succ k ih =>
    show (pw q w cA k ++ cw_w1 (q k) (w k) cA).length = 2 * (k + 1)
    rw [List.length_append, ih]
    rfl
theorem pw_congr {q w q' w' : Nat → Nat} {cA : ClassId} {k : Nat} (h : ∀ j, j < k → q j = q' j ∧ w j = w' j) : pw q w cA k = pw q' w' cA k := by
  induction k with
  | zero => rfl
  | succ k ih =>
    show pw q w cA k ++ cw_w1 (q k) (w k) cA = pw q' w' cA k ++ cw_w1 (q' k) (w' k) cA
    rw [ih (fun j hj => h j (by omega)), (h k (by omega)).1, (h k (by omega)).2]
theorem pw_up (q w : Nat → Nat) (cA : ClassId) (k a b : Nat) : pw (va_up q k a) (va_up w k b) cA (k + 1) = pw q w cA k ++ cw_w1 a b cA := by
  show pw (va_up q k a) (va_up w k b) cA k ++ cw_w1 (va_up q k a k) (va_up w k b k) cA = _
  rw [va_up_self, va_up_self, pw_congr (fun j hj => ⟨va_up_ne _ _ (by omega), va_up_ne _ _ (by omega)⟩)]
theorem pw_at0 (q w : Nat → Nat) (cA : ClassId) {k j : Nat} (hj : j < k) : (pw q w cA k)[2 * j]? = some (q j, .inr (1, [.ref (w j), .int (nI 0)])) ∧ (pw q w cA k)[2 * j + 1]? = some (w j, .inl (cA, 2050, .inl (fun _ => nI 0))) := by
  induction k with
  | zero => omega
  | succ k ih =>
    have e : pw q w cA (k + 1) = pw q w cA k ++ cw_w1 (q k) (w k) cA := rfl
    have hl := pw_len q w cA k
    rw [e]
    by_cases h : j < k
    · rw [List.getElem?_append_left (by omega), List.getElem?_append_left (by omega)]
      exact ih h
    · have : j = k := by omega
      subst this
      rw [List.getElem?_append_right (by omega), List.getElem?_append_right (by omega), hl, show 2 * j - 2 * j = 0 by omega, show 2 * j + 1 - 2 * j = 1 by omega]
      exact ⟨rfl, rfl⟩
theorem arrV_ext {cI : ClassId} {n : Nat} {f g : Nat → Value} (h : ∀ j, j < n → f j = g j) : arrV cI n f = arrV cI n g := by
  unfold arrV
  congr 1
  apply congrArg
  funext j
  exact h j.1 j.2
abbrev cm_w0 (h0 : Nat) : va_W := [(h0, .inr (0, [.null, .null, .null, .null]))]
abbrev cm_x (h0 g : Nat) (cR : ClassId) (fs : List Value) (f : Nat → Option Nat) : va_W := [(h0, .inr (0, fs)), (g, .inl (cR, 16, .inr (.inr (.inr (.inr f)))))]
def cm_ad (q w : Nat → Nat) (h0 g : Nat) : Nat → Nat := fun k => if k < 19 then q k else if k < 38 then w (k - 19) else if k < 39 then h0 else g
def cm_g (k : Nat) : Nat := if k < 19 then 2 + 2 * k else if k < 38 then 3 + 2 * (k - 19) else k - 38
theorem cm_to {q w : Nat → Nat} {h0 g : Nat} {cA cR : ClassId} (k : Nat) (x : Nat × va_E) (h : (wm_w (cm_ad q w h0 g) cA cR (fun _ => 0) (fun _ _ => nI 0))[k]? = some x) : (cm_x h0 g cR [.ref g, .ref (q 16), .ref (q 17), .ref (q 18)] (fun i => some (cm_ad q w h0 g i)) ++ pw q w cA 19)[cm_g k]? = some x := by
  have hk := (wm_w_of h).1
  rw [wm_w_at hk] at h
  cases h
  unfold cm_g wm_e
  by_cases h1 : k < 19
  · rw [if_pos h1, if_pos h1, List.getElem?_append_right (by show 2 ≤ _; omega), show 2 + 2 * k - (cm_x h0 g cR [.ref g, .ref (q 16), .ref (q 17), .ref (q 18)] (fun i => some (cm_ad q w h0 g i))).length = 2 * k by show 2 + 2 * k - 2 = _; omega, (pw_at0 q w cA h1).1]
    unfold cm_ad
    rw [if_pos h1, if_neg (by omega), if_pos (by omega), Nat.add_sub_cancel_left]
  · by_cases h2 : k < 38
    · rw [if_neg h1, if_pos h2, if_neg h1, if_pos h2, List.getElem?_append_right (by show 2 ≤ _; omega), show 3 + 2 * (k - 19) - (cm_x h0 g cR [.ref g, .ref (q 16), .ref (q 17), .ref (q 18)] (fun i => some (cm_ad q w h0 g i))).length = 2 * (k - 19) + 1 by show 3 + 2 * (k - 19) - 2 = _; omega, (pw_at0 q w cA (show k - 19 < 19 by omega)).2]
      unfold cm_ad
      rw [if_neg h1, if_pos h2]
    · have : k = 38 ∨ k = 39 := by omega
      rcases this with rfl | rfl <;> rfl
theorem cm_inj (i j : Nat) (hi : i < 40) (hj : j < 40) (h : cm_g i = cm_g j) : i = j := by
  unfold cm_g at h
  split at h <;> split at h <;> (try split at h) <;> (try split at h) <;> omega
/-- two contents of the registers' array that agree -/
theorem cm_f {D : va_G} {h0 g : Nat} {cR : ClassId} {fs : List Value} {f f' : Nat → Option Nat} {pl : va_W} {H : Heap} (h : va_P D classes (cm_x h0 g cR fs f ++ pl) H) (hf : ∀ i, i < 16 → f i = f' i) : va_P D classes (cm_x h0 g cR fs f' ++ pl) H := by
  intro k x hx
  match k, hx with
  | 0, hx => cases hx; exact h 0 _ rfl
  | 1, hx =>
    cases hx
    have h1 := h 1 _ rfl
    show H[g]? = some (vp_cell _ _)
    have h2 : H[g]? = some (vp_cell cR (16, .inr (.inr (.inr (.inr f))))) := h1
    rw [h2, vp_cell_q, vp_cell_q, arrV_ext (fun j hj => by rw [hf j hj])]
  | k + 2, hx => exact h (k + 2) x hx
theorem cm_fD {A : Nat → Prop} {h0 g : Nat} {cR : ClassId} {fs fs' : List Value} {f f' : Nat → Option Nat} {pl : va_W} (h : va_D A (cm_x h0 g cR fs f ++ pl)) : va_D A (cm_x h0 g cR fs' f' ++ pl) := by
  have key : ∀ (k : Nat) (x : Nat × va_E), (cm_x h0 g cR fs' f' ++ pl)[k]? = some x → ∃ y, (cm_x h0 g cR fs f ++ pl)[k]? = some y ∧ y.1 = x.1 := by
    intro k x hx
    match k, hx with
    | 0, hx => cases hx; exact ⟨_, rfl, rfl⟩
    | 1, hx => cases hx; exact ⟨_, rfl, rfl⟩
    | k + 2, hx => exact ⟨x, hx, rfl⟩
  refine ⟨fun i j x y hx hy hxy => ?_, fun k x hx => ?_⟩
  · obtain ⟨x', h1, e1⟩ := key i x hx
    obtain ⟨y', h2, e2⟩ := key j y hy
    exact h.1 i j x' y' h1 h2 (by rw [e1, e2, hxy])
  · obtain ⟨x', h1, e1⟩ := key k x hx
    rw [← e1]
    exact h.2 k x' h1
theorem ct_blind (D : va_G) (ws : va_W) (sz : Nat) (As : List Value) : FrameBlind (va_Pc As (ct_B D ws sz (fun _ => True))) :=
  fun a U g mk q => by obtain ⟨q0, q1, qP, qK, qD, qX⟩ := q; exact ⟨q0, q1, qP, va_K.moved (u := U) (U := U.calling g mk a) (Vm.Alike.refl U.vm) qK, qD, trivial⟩
theorem ct_blindA (D : va_G) (ws : va_W) (sz : Nat) (As : List Value) : FrameBlind (va_Pc As (ct_B D ws sz (va_AO R_Whole))) :=
  fun a U g mk q => by obtain ⟨q0, q1, qP, qK, qD, qX⟩ := q; exact ⟨q0, q1, qP, va_K.moved (u := U) (U := U.calling g mk a) (Vm.Alike.refl U.vm) qK, qD, va_AO.moved (u := U) (U := U.calling g mk a) (Vm.Alike.refl U.vm) qX⟩
abbrev cm_rm : Room := { frames := 2, cells := 39, slots := 39004, locals := 40 }
section CtWhole
variable {p : Program} {l : Launch} {e : Env} {s : State} {m : MethodId} {args : Array Value} {below : List Frame} {meth : Method} {c : Code} {H : Heap} {locs : List Loc} {cells slots : Nat} {Q : State → Prop} {pc : Nat} {ls : Array Slot} {rest : List Value}
  {D : va_G} {A : Nat → Prop} {x0 x1 : Nat × va_E} {pl : va_W} {tys : List (ClassId × FieldType)}
set_option maxHeartbeats 4000000 in
set_option maxRecDepth 100000 in
/-- new Whole(): its two cells stand behind the first two -/
theorem ct_whole (hC : CallFix p m c b_Mill_init 2 s args lw_T R_Mill) (hsz : ls.size = 2) (hK : va_K D classes tys s) (hP : va_P D classes ([x0, x1] ++ pl) H) (hD : va_D A ([x0, x1] ++ pl)) (hS : va_S A s.heap H locs) (hA : ∀ q, s.heap.size ≤ q → A q) (hcells : cells + 1 + 1 ≤ 39) (hslots : slots + 2 + 2050 ≤ 39004) (hw : 1 + (rest.map fun v => v.category).sum ≤ 8)
    (hd0 : decode b_Mill_init pc = .ok (.new 9, 3)) (hd1 : decode b_Mill_init (pc + 3) = .ok (.dup, 1)) (hd2 : decode b_Mill_init (pc + 4) = .ok (.invokespecial 15, 3))
    (kk : ∀ (qn q1 : Nat) (c1 : ClassId) (H1 : Heap) (locs1 : List Loc), va_K D classes [(c1, .int)] s → va_P D classes (([x0, x1] ++ cw_w1 qn q1 c1) ++ pl) H1 → va_D A (([x0, x1] ++ cw_w1 qn q1 c1) ++ pl) → va_S A s.heap H1 locs1 →
      W p l e cm_rm s m args below meth c H1 locs1 (cells + 1 + 1) (slots + 2 + 2050) Q (F0 m (pc + 7) ls (.ref qn :: rest))) : W p l e cm_rm s m args below meth c H locs cells slots Q (F0 m pc ls rest) := by
  refine va_new (ci := 1) (fs := [.null, .int 0]) (C := R_Whole) (T := F_Whole) (N := 2) hC.1 hC.2.1 hC.2.2.2.2 i_Whole t_Whole t_Whole_ok hC.2.2.2.1 (hC.2.2.2.2 _ kg_Mill_9) (hC.2.2.2.2 _ ko_iw) (hC.2.2.2.2 _ ki_Whole) hK hP hD hS hA rfl (fun j hj => by rcases (show j = 0 ∨ j = 1 by omega) with rfl | rfl <;> rfl) (by show cells + 1 ≤ 39; omega) (by show slots + 2 ≤ 39004; omega) hd0 (fun qn H hP hD hS => ?_)
  have hP := hP.swap
  have hD := hD.swap
  have hP : va_P D classes (([x0, x1] ++ cw_w0 qn) ++ pl) H := hP
  have hD : va_D A (([x0, x1] ++ cw_w0 qn) ++ pl) := hD
  refine lv_dup hC.1 hC.2.1 hd1 rfl ?_
  have hPc : va_P D classes (cw_w0 qn) H := hP.sub [2] rfl
  have hDc : va_D A (cw_w0 qn) := hD.sub [2] (by decide) rfl
  have hKc := hK.sub (tys' := []) [] rfl
  have hFc := va_free (wc := cw_w0 qn) hD hS hA [2] rfl
  refine va_callv (va_runI (As := []) (rest := .ref qn :: rest) hC (c_Whole_init l D qn H.size) ⟨callB_of 0 hC.2.2.2.2 (wm_good kc_Whole_init) rfl rfl rfl (hC.2.2.2.2 _ ki_Whole) (hC.2.2.2.2 _ km_Mill_15) kd_Whole_init ⟨Nat.le_of_ble_eq_true rfl, Nat.le_of_ble_eq_true rfl⟩, rfl, hC.2.2.2.2 _ kn_Whole_init⟩ ⟨ct_blind _ _ _ _, fun U hU hW => ⟨rfl, by rw [hU], by rw [hU]; exact hPc, va_K.moved hW.alike hKc, hDc.weaken (fun _ _ _ _ => trivial), trivial⟩⟩ rfl rfl hsz rfl (lv_room (by show 1 + _ ≤ 8; exact hw)) hd2 ⟨by show cells + 1 + 1 ≤ 39; omega, by show slots + 2 + 2050 ≤ 39004; omega⟩) hS (fun q _ h => hFc q h) hFc (fun u t H1 locs1 ht hvm hw1 hB hz1 hk1 hS => ?_)
  obtain ⟨hP1, hK1, hD1⟩ := hB
  rw [ht] at hP1
  have hK1 := va_K.moved hvm.symm hK1
  obtain ⟨hP, hD⟩ := va_joinQ (X := [x0, x1] ++ cw_w0 qn) (cx := cw_w0 qn) (wr := [x0, x1]) (w1 := cw_w1 qn u.1 u.2) (pl := pl) hP hD [2] [0, 1] rfl rfl (by decide) (by decide) hk1 hFc hP1 hD1
  exact kk qn u.1 u.2 H1 locs1 hK1 hP hD hS
end CtWhole
section CtLoop
variable {p : Program} {l : Launch} {e : Env} {s : State} {m : MethodId} {args : Array Value} {below : List Frame} {meth : Method} {c : Code} {Q : State → Prop} {D : va_G} {A : Nat → Prop} {h0 g : Nat} {cR : ClassId}
set_option maxHeartbeats 4000000 in
set_option maxRecDepth 100000 in
theorem ct_loop (hC : CallFix p m c b_Mill_init 2 s args lw_T R_Mill) (hK : va_K D classes [(cR, .object "WholeMill$Whole")] s) (hA : ∀ q, s.heap.size ≤ q → A q)
    (hex : ∀ (q w : Nat → Nat) (cA : ClassId) (f : Nat → Option Nat) (H : Heap) (locs : List Loc) (ls : Array Slot), (∀ i, i < 16 → f i = some (q i)) → va_K D classes [(cA, .int)] s → va_P D classes (cm_x h0 g cR [.ref g, .null, .null, .null] f ++ pw q w cA 16) H → va_D A (cm_x h0 g cR [.ref g, .null, .null, .null] f ++ pw q w cA 16) → va_S A s.heap H locs → lv_has ls 2 [(0, .ref h0)] → W p l e cm_rm s m args below meth c H locs 33 32848 Q (F0 m 40 ls [])) :
    ∀ (n k : Nat) (q w : Nat → Nat) (cA : ClassId) (f : Nat → Option Nat) (H : Heap) (locs : List Loc) (ls : Array Slot), k ≤ 16 → 16 + 1 ≤ k + n → (∀ i, i < k → f i = some (q i)) → (0 < k → va_K D classes [(cA, .int)] s) → va_P D classes (cm_x h0 g cR [.ref g, .null, .null, .null] f ++ pw q w cA k) H → va_D A (cm_x h0 g cR [.ref g, .null, .null, .null] f ++ pw q w cA k) → va_S A s.heap H locs → lv_has ls 2 [(0, .ref h0), (1, .int (nI k))] → W p l e cm_rm s m args below meth c H locs (1 + 2 * k) (16 + 2052 * k) Q (F0 m 15 ls []) := by
  intro n
  induction n with
  | zero => intro k q w cA f H locs ls h1 h2; exact absurd h2 (by omega)
  | succ n ih =>
    intro k q w cA f H locs ls hk hn hf hKA hP hD hS hl
    refine lv_iload_n hC.1 hC.2.1 d_Mill_init_15 rfl (lv_at hl 1 rfl) ?_
    refine lv_bipush (v := nI 16) hC.1 hC.2.1 d_Mill_init_16 (by decide) ?_
    refine nv_icmp_ge (tgt := 40) hC (by omega) (by omega) d_Mill_init_18 (by decide) (fun hc => ?_) (fun hc => ?_)
    · obtain rfl : k = 16 := by omega
      exact hex q w cA f H locs ls hf (hKA (by decide)) hP hD hS (lv_sub hl [0] rfl)
    · refine lv_aload_n hC.1 hC.2.1 d_Mill_init_21 rfl (lv_at hl 0 rfl) ?_
      refine va_get (D := D) (ci := 0) (C := R_Mill) (T := F_Mill) (N := 4) hC.1 hC.2.1 hC.2.2.2.2 i_Mill hC.2.2.2.1 hK hP 0 rfl rfl 0 (by decide) (hC.2.2.2.2 _ kf_Mill_11) (fun _ h9 => h9) rfl d_Mill_init_22 ?_
      refine lv_iload_n hC.1 hC.2.1 d_Mill_init_25 rfl (lv_at hl 1 rfl) ?_
      refine ct_whole hC hl.1 hK hP hD hS hA (by omega) (by omega) (Nat.le_of_ble_eq_true rfl) d_Mill_init_26 d_Mill_init_29 d_Mill_init_30 (fun qn q1 c1 H locs hK1 hP hD hS => ?_)
      refine va_astq hC.1 hC.2.1 hK hP hD hS 1 0 2 1 (r := (R_Whole, F_Whole, 2)) rfl rfl rfl rfl (vp_in_nI hc (by decide)) d_Mill_init_33 (fun H locs hP hD hS => ?_)
      rw [nI_clamp (by omega)] at hP hD
      have hP : va_P D classes ((cm_x h0 g cR [.ref g, .null, .null, .null] (va_up f k (some qn)) ++ cw_w1 qn q1 c1) ++ pw q w cA k) H := hP
      have hD : va_D A ((cm_x h0 g cR [.ref g, .null, .null, .null] (va_up f k (some qn)) ++ cw_w1 qn q1 c1) ++ pw q w cA k) := hD
      have hP := hP.swap
      have hD := hD.swap
      have e : pw q w cA k = pw q w c1 k := by
        rcases Nat.eq_zero_or_pos k with z | z
        · subst z; rfl
        · rw [ct_one (i := 0) (j := 1) ((hKA z).app hK1) rfl rfl]
      rw [e, List.append_assoc, ← pw_up q w c1 k qn q1] at hP hD
      refine lv_iinc (v := nI (k + 1)) (lv' := [(1, .int (nI (k + 1))), (0, .ref h0)]) hC.1 hC.2.1 d_Mill_init_34 hl (k := 1) rfl (nv_inc _) (by decide) rfl (fun ls hl => ?_)
      refine lv_goto (tgt := 15) hC.1 hC.2.1 d_Mill_init_37 (by decide) ?_
      refine W.widen (k := 1 + 2 * (k + 1)) (n := 16 + 2052 * (k + 1)) (by omega) (by omega) ?_
      refine ih (k + 1) _ _ c1 _ H locs ls (by omega) (by omega) (fun i hi => ?_) (fun _ => hK1) hP hD hS (lv_sub hl [1, 0] rfl)
      by_cases z : i = k
      · rw [z, va_up_self, va_up_self]
      · rw [va_up_ne _ _ z, va_up_ne _ _ z]
        exact hf i (by omega)
end CtLoop
set_option maxHeartbeats 4000000 in
set_option maxRecDepth 100000 in
theorem c_Mill_init (l : Launch) (D : va_G) (h0 sz : Nat) : Met l y_Mill_init (Cond.code y_Mill_init b_Mill_init 2 none :: lw_T) cm_rm (va_Pc [.ref h0] (ct_B D (cm_w0 h0) sz (va_AO R_Whole))) (va_Qv (fun u : (Nat → Nat) × ClassId × ClassId => u.1 38 = h0) (fun u t => va_P D classes (wm_w u.1 u.2.1 u.2.2 (fun _ => 0) (fun _ _ => nI 0)) t.heap ∧ va_K D classes (wm_ty u.2.1 u.2.2) t ∧ va_D (va_A (cm_w0 h0) sz) (wm_w u.1 u.2.1 u.2.2 (fun _ => 0) (fun _ _ => nI 0))) (va_A (cm_w0 h0) sz)) 39 39004 (va_A (cm_w0 h0) sz) := by
  refine ct_met l (by decide) (Nat.le_of_ble_eq_true rfl) ?_
  intro p e s m below meth c ls hv hC hr hlk hin hl
  obtain ⟨rfl, hP, hK, hD0, hAO⟩ := hv
  have hC : CallFix p m c b_Mill_init 2 s _ lw_T R_Mill := hC
  have hl : lv_has ls 2 [(0, .ref h0)] := hl
  have hD := hD0.self (sz := s.heap.size)
  have hA : ∀ q : Nat, s.heap.size ≤ q → va_A (cm_w0 h0) s.heap.size q := fun q h => Or.inr h
  have hS : va_S (va_A (cm_w0 h0) s.heap.size) s.heap s.heap [] := va_S.rf
  generalize va_A (cm_w0 h0) s.heap.size = A at hD hA hS ⊢
  refine lv_aload_n hC.1 hC.2.1 d_Mill_init_0 rfl (lv_at hl 0 rfl) ?_
  refine ct_obj hC hl.1 km_Mill_1 (Nat.le_of_ble_eq_true rfl) (Nat.le_of_ble_eq_true rfl) d_Mill_init_1 ?_
  refine lv_aload_n hC.1 hC.2.1 d_Mill_init_4 rfl (lv_at hl 0 rfl) ?_
  refine lv_bipush (v := nI 16) hC.1 hC.2.1 d_Mill_init_5 (by decide) ?_
  refine va_newq (N' := 16) hC.1 hC.2.1 hC.2.2.2.1 (hC.2.2.2.2 _ kg_Mill_9) hAO hK hP hD hS hA (nI_pos (by decide)) (nI_clamp (by decide)) (by decide) (Nat.le_of_ble_eq_true rfl) (Nat.le_of_ble_eq_true rfl) d_Mill_init_7 (fun g cR H hK hP hD hS => ?_)
  have hP : va_P D classes (cm_x h0 g cR [.null, .null, .null, .null] (fun _ => none)) H := hP
  have hD : va_D A (cm_x h0 g cR [.null, .null, .null, .null] (fun _ => none)) := hD
  have hK : va_K D classes [(cR, .object "WholeMill$Whole")] s := hK
  refine va_putF (D := D) (ci := 0) (v := .ref g) (ty := .array (.object "WholeMill$Whole")) (C := R_Mill) (T := F_Mill) (N := 4) hC.1 hC.2.1 hC.2.2.2.2 i_Mill t_Mill t_Mill_ok n_Mill hC.2.2.2.1 hK hP hD hS 0 rfl rfl 0 (by decide) (hC.2.2.2.2 _ kf_Mill_11) (fun _ h9 => h9) rfl hin rfl (by decide +kernel) rfl rfl (Nat.le_of_ble_eq_true rfl) d_Mill_init_10 (fun H locs hP hD hS => ?_)
  refine lv_iconst (v := nI 0) hC.1 hC.2.1 d_Mill_init_13 (by decide) ?_
  refine lv_istore_n (lv' := [(1, .int (nI 0)), (0, .ref h0)]) hC.1 hC.2.1 d_Mill_init_14 rfl hl (by decide) rfl (fun ls hl => ?_)
  refine W.widen (k := 1 + 2 * 0) (n := 16 + 2052 * 0) (by omega) (by omega) ?_
  refine ct_loop hC hK hA (fun q w cA f H locs ls hf hKA hP hD hS hl => ?_) 17 0 (fun _ => 0) (fun _ => 0) cR (fun _ => none) H locs ls (Nat.zero_le _) (by omega) (fun i hi => absurd hi (by omega)) (fun h => absurd h (by omega)) (by rw [show pw (fun _ => 0) (fun _ => 0) cR 0 = [] from rfl, List.append_nil]; exact hP) (by rw [show pw (fun _ => 0) (fun _ => 0) cR 0 = [] from rfl, List.append_nil]; exact hD) hS (lv_sub hl [1, 0] rfl)
  refine lv_aload_n hC.1 hC.2.1 d_Mill_init_40 rfl (lv_at hl 0 rfl) ?_
  refine ct_whole hC hl.1 hK hP hD hS hA (by decide) (by decide) (Nat.le_of_ble_eq_true rfl) d_Mill_init_41 d_Mill_init_44 d_Mill_init_45 (fun q16 w16 c1 H locs hK1 hP hD hS => ?_)
  obtain rfl := ct_one (i := 0) (j := 1) (hKA.app hK1) rfl rfl
  refine va_putF (D := D) (ci := 0) (v := .ref q16) (ty := .object "WholeMill$Whole") (C := R_Mill) (T := F_Mill) (N := 4) hC.1 hC.2.1 hC.2.2.2.2 i_Mill t_Mill t_Mill_ok n_Mill hC.2.2.2.1 hK hP hD hS 0 rfl rfl 1 (by decide) (hC.2.2.2.2 _ kf_Mill_16) (fun _ h9 => h9) rfl hin rfl (by decide +kernel) rfl rfl (Nat.le_of_ble_eq_true rfl) d_Mill_init_48 (fun H locs hP hD hS => ?_)
  have hP : va_P D classes ((cm_x h0 g cR [.ref g, .ref q16, .null, .null] f ++ cw_w1 q16 w16 cA) ++ pw (q) (w) cA 16) H := hP
  have hD : va_D A ((cm_x h0 g cR [.ref g, .ref q16, .null, .null] f ++ cw_w1 q16 w16 cA) ++ pw (q) (w) cA 16) := hD
  have hP := hP.swap
  have hD := hD.swap
  rw [List.append_assoc, ← pw_up (q) (w) cA 16 q16 w16] at hP hD
  refine lv_aload_n hC.1 hC.2.1 d_Mill_init_51 rfl (lv_at hl 0 rfl) ?_
  refine ct_whole hC hl.1 hK hP hD hS hA (by decide) (by decide) (Nat.le_of_ble_eq_true rfl) d_Mill_init_52 d_Mill_init_55 d_Mill_init_56 (fun q17 w17 c1 H locs hK1 hP hD hS => ?_)
  obtain rfl := ct_one (i := 0) (j := 1) (hKA.app hK1) rfl rfl
  refine va_putF (D := D) (ci := 0) (v := .ref q17) (ty := .object "WholeMill$Whole") (C := R_Mill) (T := F_Mill) (N := 4) hC.1 hC.2.1 hC.2.2.2.2 i_Mill t_Mill t_Mill_ok n_Mill hC.2.2.2.1 hK hP hD hS 0 rfl rfl 2 (by decide) (hC.2.2.2.2 _ kf_Mill_20) (fun _ h9 => h9) rfl hin rfl (by decide +kernel) rfl rfl (Nat.le_of_ble_eq_true rfl) d_Mill_init_59 (fun H locs hP hD hS => ?_)
  have hP : va_P D classes ((cm_x h0 g cR [.ref g, .ref q16, .ref q17, .null] f ++ cw_w1 q17 w17 cA) ++ pw (va_up (q) 16 q16) (va_up (w) 16 w16) cA 17) H := hP
  have hD : va_D A ((cm_x h0 g cR [.ref g, .ref q16, .ref q17, .null] f ++ cw_w1 q17 w17 cA) ++ pw (va_up (q) 16 q16) (va_up (w) 16 w16) cA 17) := hD
  have hP := hP.swap
  have hD := hD.swap
  rw [List.append_assoc, ← pw_up (va_up (q) 16 q16) (va_up (w) 16 w16) cA 17 q17 w17] at hP hD
  refine lv_aload_n hC.1 hC.2.1 d_Mill_init_62 rfl (lv_at hl 0 rfl) ?_
  refine ct_whole hC hl.1 hK hP hD hS hA (by decide) (by decide) (Nat.le_of_ble_eq_true rfl) d_Mill_init_63 d_Mill_init_66 d_Mill_init_67 (fun q18 w18 c1 H locs hK1 hP hD hS => ?_)
  obtain rfl := ct_one (i := 0) (j := 1) (hKA.app hK1) rfl rfl
  refine va_putF (D := D) (ci := 0) (v := .ref q18) (ty := .object "WholeMill$Whole") (C := R_Mill) (T := F_Mill) (N := 4) hC.1 hC.2.1 hC.2.2.2.2 i_Mill t_Mill t_Mill_ok n_Mill hC.2.2.2.1 hK hP hD hS 0 rfl rfl 3 (by decide) (hC.2.2.2.2 _ kf_Mill_23) (fun _ h9 => h9) rfl hin rfl (by decide +kernel) rfl rfl (Nat.le_of_ble_eq_true rfl) d_Mill_init_70 (fun H locs hP hD hS => ?_)
  have hP : va_P D classes ((cm_x h0 g cR [.ref g, .ref q16, .ref q17, .ref q18] f ++ cw_w1 q18 w18 cA) ++ pw (va_up (va_up (q) 16 q16) 17 q17) (va_up (va_up (w) 16 w16) 17 w17) cA 18) H := hP
  have hD : va_D A ((cm_x h0 g cR [.ref g, .ref q16, .ref q17, .ref q18] f ++ cw_w1 q18 w18 cA) ++ pw (va_up (va_up (q) 16 q16) 17 q17) (va_up (va_up (w) 16 w16) 17 w17) cA 18) := hD
  have hP := hP.swap
  have hD := hD.swap
  rw [List.append_assoc, ← pw_up (va_up (va_up (q) 16 q16) 17 q17) (va_up (va_up (w) 16 w16) 17 w17) cA 18 q18 w18] at hP hD
  have hP : va_P D classes (cm_x h0 g cR [.ref g, .ref q16, .ref q17, .ref q18] f ++ pw (va_up (va_up (va_up q 16 q16) 17 q17) 18 q18) (va_up (va_up (va_up w 16 w16) 17 w17) 18 w18) cA 19) H := hP
  have hD : va_D A (cm_x h0 g cR [.ref g, .ref q16, .ref q17, .ref q18] f ++ pw (va_up (va_up (va_up q 16 q16) 17 q17) 18 q18) (va_up (va_up (va_up w 16 w16) 17 w17) 18 w18) cA 19) := hD
  obtain ⟨qq, hqq⟩ : ∃ z, z = va_up (va_up (va_up q 16 q16) 17 q17) 18 q18 := ⟨_, rfl⟩
  obtain ⟨ww, hww⟩ : ∃ z, z = va_up (va_up (va_up w 16 w16) 17 w17) 18 w18 := ⟨_, rfl⟩
  have e6 : qq 16 = q16 := by rw [hqq, va_up_ne _ _ (by decide), va_up_ne _ _ (by decide), va_up_self]
  have e7 : qq 17 = q17 := by rw [hqq, va_up_ne _ _ (by decide), va_up_self]
  have e8 : qq 18 = q18 := by rw [hqq, va_up_self]
  have ef : ∀ i, i < 16 → f i = some (cm_ad qq ww h0 g i) := fun i hi => by
    rw [hf i hi]
    unfold cm_ad
    rw [if_pos (by omega), hqq, va_up_ne _ _ (by omega), va_up_ne _ _ (by omega), va_up_ne _ _ (by omega)]
  rw [← hqq, ← hww, ← e6, ← e7, ← e8] at hP hD
  have hP := cm_f hP ef
  have hD := cm_fD (fs' := [.ref g, .ref (qq 16), .ref (qq 17), .ref (qq 18)]) (f' := fun i => some (cm_ad qq ww h0 g i)) hD
  have hP9 : va_P D classes (wm_w (cm_ad qq ww h0 g) cA cR (fun _ => 0) (fun _ _ => nI 0)) H := hP.by cm_g cm_to
  have hD9 : va_D A (wm_w (cm_ad qq ww h0 g) cA cR (fun _ => 0) (fun _ _ => nI 0)) := hD.by cm_g cm_to (fun i j hi hj h => cm_inj i j (by rw [wm_w_len] at hi; exact hi) (by rw [wm_w_len] at hj; exact hj) h)
  have hK9 : va_K D classes (wm_ty cA cR) s := hKA.app hK
  refine W.widen (k := 39) (n := 39004) (by decide) (by decide) ?_
  exact W.vret hC.1 hC.2.1 hr (fun t ht hW => ⟨⟨(cm_ad qq ww h0 g, cA, cR), rfl, rfl, by rw [ht]; exact hP9, va_K.moved hW.alike hK9, hD9⟩, hS.F ht⟩) hS.2.2 d_Mill_init_73 (hlk)
