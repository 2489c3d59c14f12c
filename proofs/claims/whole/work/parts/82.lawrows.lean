/-! ===== the law's world: the mill's cells, then the model's ===== -/
theorem lw_Pl {D : va_G} {a b : va_W} {H : Heap} (h : va_P D classes (a ++ b) H) : va_P D classes a H := fun k q hk => h k q (by rw [List.getElem?_append_left (List.getElem?_eq_some_iff.mp hk).1]; exact hk)
theorem lw_Pr {D : va_G} {a b : va_W} {H : Heap} (h : va_P D classes (a ++ b) H) : va_P D classes b H := fun k q hk => h (a.length + k) q (by rw [List.getElem?_append_right (Nat.le_add_right _ _), Nat.add_sub_cancel_left]; exact hk)
theorem lw_Dl {A : Nat → Prop} {a b : va_W} (h : va_D A (a ++ b)) : va_D A a := by
  have key : ∀ (k : Nat) (q : Nat × va_E), a[k]? = some q → (a ++ b)[k]? = some q := fun k q hk => by rw [List.getElem?_append_left (List.getElem?_eq_some_iff.mp hk).1]; exact hk
  exact ⟨fun i j x y hx hy hxy => h.1 i j x y (key i x hx) (key j y hy) hxy, fun k q hk => h.2 k q (key k q hk)⟩
theorem lw_Dr {A : Nat → Prop} {a b : va_W} (h : va_D A (a ++ b)) : va_D A b := by
  have key : ∀ (k : Nat) (q : Nat × va_E), b[k]? = some q → (a ++ b)[a.length + k]? = some q := fun k q hk => by rw [List.getElem?_append_right (Nat.le_add_right _ _), Nat.add_sub_cancel_left]; exact hk
  refine ⟨fun i j x y hx hy hxy => ?_, fun k q hk => h.2 _ q (key k q hk)⟩
  have := h.1 _ _ x y (key i x hx) (key j y hy) hxy
  omega
theorem lw_swP {D : va_G} {a b : va_W} {H : Heap} (h : va_P D classes (a ++ b) H) : va_P D classes (b ++ a) H := (lw_Pr h).app (lw_Pl h)
theorem lw_swD {A : Nat → Prop} {a b : va_W} (h : va_D A (a ++ b)) : va_D A (b ++ a) := va_D.swap (a := []) (b := a) (c := b) h
theorem lw_self (w : va_W) : (List.range w.length).map (fun i => w[i]?) = w.map some := by
  apply List.ext_getElem?
  intro k
  rw [List.getElem?_map, List.getElem?_map]
  by_cases h : k < w.length
  · rw [List.getElem?_range h, List.getElem?_eq_getElem h]
    show some w[k]? = some (some w[k])
    rw [List.getElem?_eq_getElem h]
  · rw [List.getElem?_eq_none (by rw [List.length_range]; omega), List.getElem?_eq_none (by omega)]
    rfl
theorem lw_Aw {ad : Nat → Nat} {cA cR : ClassId} {ln : Nat → Nat} {wd : Nat → Nat → Int32} {sz q : Nat} : va_A (wm_w ad cA cR ln wd) sz q ↔ wm_A ad sz q := by
  constructor
  · intro h
    rcases h with ⟨k, x, h⟩ | h
    · exact Or.inl ⟨k, wm_w_of h⟩
    · exact Or.inr h
  · intro h
    rcases h with ⟨k, h1, h2⟩ | h
    · exact Or.inl ⟨k, wm_e ad cA cR ln wd k, by rw [wm_w_at h1, h2]⟩
    · exact Or.inr h
theorem lw_Am {ad : Nat → Nat} {cA : ClassId} {ln : Nat → Nat} {wd : Nat → Nat → Nat} {sz q : Nat} : va_A (md_w ad cA ln wd) sz q ↔ md_A ad sz q := by
  constructor
  · intro h
    rcases h with ⟨k, x, h⟩ | h
    · exact Or.inl ⟨k, md_w_of h⟩
    · exact Or.inr h
  · intro h
    rcases h with ⟨k, h1, h2⟩ | h
    · exact Or.inl ⟨k, md_e ad cA ln wd k, by rw [md_w_at h1, h2]⟩
    · exact Or.inr h
def lw_M (D : va_G) (ad : Nat → Nat) (cA cR : ClassId) (ad2 : Nat → Nat) (cB : ClassId) (s : State) (ln : Nat → Nat) (wd : Nat → Nat → Int32) (ln2 : Nat → Nat) (wd2 : Nat → Nat → Nat) (H : Heap) (locs : List Loc) : Prop :=
  va_P D classes (wm_w ad cA cR ln wd ++ md_w ad2 cB ln2 wd2) H ∧ va_D (fun q => s.heap.size ≤ q) (wm_w ad cA cR ln wd ++ md_w ad2 cB ln2 wd2) ∧ va_S (fun q => s.heap.size ≤ q) s.heap H locs
section LawRows
variable {p : Program} {l : Launch} {e : Env} {s : State} {m : MethodId} {args : Array Value} {below : List Frame} {meth : Method} {c : Code} {H : Heap} {locs : List Loc} {cells slots : Nat} {Q : State → Prop} {pc : Nat} {ls : Array Slot} {rest : List Value}
  {D : va_G} {ad ad2 : Nat → Nat} {cA cR cB : ClassId} {ln ln2 : Nat → Nat} {wd : Nat → Nat → Int32} {wd2 : Nat → Nat → Nat}
theorem lw_ld {R : Room} {b L : Nat} {xs : Nat → Int32} (hC : CallFix p m c code 4 s args lw_T R_law) (hX : va_X b L xs s s.heap) (hbl : b < s.heap.size) (hS : va_S (fun q => s.heap.size ≤ q) s.heap H locs) {k : Nat} (hk : k < L) (hL : L ≤ 2560) (hdg : decode code pc = .ok (.iaload, 1)) (kk : W p l e R s m args below meth c H locs cells slots Q (F0 m (pc + 1) ls (.int (xs k) :: rest))) : W p l e R s m args below meth c H locs cells slots Q (F0 m pc ls (.int (nI k) :: .ref b :: rest)) :=
  va_sld hC.1 hC.2.1 hX hbl (Nat.not_le.mpr hbl) hS (vp_in_nI hk (by omega)) hdg (by rw [nI_clamp (by omega)]; exact kk)
theorem lw_callw (hC : CallFix p m c code 4 s args lw_T R_law) (hK1 : va_K D classes (wm_ty cA cR) s) (hK2 : va_K D classes (md_ty cB) s) (hM : lw_M D ad cA cR ad2 cB s ln wd ln2 wd2 H locs) {y : MethodName} {bc : ByteArray} {mL index : Nat} {ret : Option FieldType} {rm : Room} {As st0 : List Value} {post : Int32 → wm_St → Prop} (hc : classes[0]? = some (y.cls, F_Mill, 4)) (hMet : Met l y (Cond.code y bc mL ret :: lw_T) rm (va_Pc (.ref (ad 38) :: As) (wm_B D ad cA cR H.size ln wd)) (va_Qi post (wm_E D ad cA cR H.size) (wm_A ad H.size)) 0 0 (wm_A ad H.size)) (hcode : Cond.code y bc mL ret ∈ lw_T) (hlink : Cond.methodLink R_law index y ∈ lw_T) (hini : Cond.initialized y.cls ∈ lw_T) (hinst : Cond.instanceMethod y ∈ lw_T) (hsel : Cond.selects y.cls y y ∈ lw_T) (hd : y.cls ≠ "java/lang/invoke/MethodHandle" ∧ y.cls ≠ "java/lang/invoke/VarHandle" ∧ (parseMethodDescriptor y.desc).map (fun d => d.parameters.length) = some As.length) (hrm : rm.cells = 0 ∧ rm.slots = 0) (hR : rm.frames + 1 ≤ room_1.frames ∧ 8 + (mL + 11) + rm.locals ≤ room_1.locals) (hst : st0 = As.reverse ++ .ref (ad 38) :: rest) (hsz : ls.size = 4) (hw : (rest.map fun v => v.category).sum ≤ 8) (hdg : decode code pc = .ok (.invokevirtual index, 3))
    (kk : ∀ (r : Int32) (u : wm_St) (H1 : Heap) (locs1 : List Loc), post r u → lw_M D ad cA cR ad2 cB s u.1 u.2 ln2 wd2 H1 locs1 → W p l e room_1 s m args below meth c H1 locs1 600000 7302250 Q (F0 m (pc + 3) ls (.int r :: rest))) : W p l e room_1 s m args below meth c H locs 600000 7302250 Q (F0 m pc ls st0) := by
  have hPl := lw_Pl hM.1
  have hDl := lw_Dl hM.2.1
  have hF : ∀ q, wm_A ad H.size q → s.heap.size ≤ q := by
    intro q h
    rcases h with ⟨k, h1, rfl⟩ | h
    · exact hDl.2 k _ (wm_w_at h1)
    · exact Nat.le_trans hM.2.2.1 h
  refine va_calli (va_runV (As := As) (rest := rest) hC hMet ⟨callB_of As.length hC.2.2.2.2 (wm_good hcode) rfl hrm.1 hrm.2 (hC.2.2.2.2 _ hini) (hC.2.2.2.2 _ hlink) hd hR, hC.2.2.2.2 _ hinst, hC.2.2.2.2 _ hsel⟩ ⟨wm_blind _ _ _ _ _ _ _ _, va_recv hK1 hPl hc wm_at_m, fun U hU hW => ⟨rfl, by rw [hU], by rw [hU]; exact hPl, va_K.moved hW.alike hK1, hDl.weaken (fun _ _ _ _ => trivial)⟩⟩ rfl rfl hsz hst (lv_room hw) hdg ⟨Nat.le_refl _, Nat.le_refl _⟩) hM.2.2 (fun q _ h => hF q h) hF (fun r u t H1 locs1 ht hvm hp hB hz hk hS => ?_)
  obtain ⟨hP1, hK9, hD1⟩ := hB
  rw [ht] at hP1
  obtain ⟨hP, hD⟩ := va_joinQ (X := wm_w ad cA cR ln wd) (cx := wm_w ad cA cR ln wd) (wr := []) (w1 := wm_w ad cA cR u.1 u.2) (pl := md_w ad2 cB ln2 wd2) hM.1 hM.2.1 (List.range (wm_w ad cA cR ln wd).length) [] (lw_self _) rfl (by decide) (fun i hi => absurd hi List.not_mem_nil) (fun q h1 h2 => hk q h1 (fun h => h2 (lw_Aw.mpr h))) (fun q h => hF q (lw_Aw.mp h)) hP1 (hD1.weaken (fun _ _ _ h => lw_Aw.mpr h))
  exact kk r u H1 locs1 hp ⟨hP, hD, hS⟩
theorem lw_callm (hC : CallFix p m c code 4 s args lw_T R_law) (hK1 : va_K D classes (wm_ty cA cR) s) (hK2 : va_K D classes (md_ty cB) s) (hM : lw_M D ad cA cR ad2 cB s ln wd ln2 wd2 H locs) {y : MethodName} {bc : ByteArray} {mL index : Nat} {ret : Option FieldType} {rm : Room} {As st0 : List Value} {post : Int32 → md_St → Prop} (hc : classes[2]? = some (y.cls, F_Mod, 8)) (hMet : Met l y (Cond.code y bc mL ret :: lw_T) rm (va_Pc (.ref (ad2 5) :: As) (md_B D ad2 cB H.size ln2 wd2)) (va_Qi post (md_E D ad2 cB H.size) (md_A ad2 H.size)) 0 0 (md_A ad2 H.size)) (hcode : Cond.code y bc mL ret ∈ lw_T) (hlink : Cond.methodLink R_law index y ∈ lw_T) (hini : Cond.initialized y.cls ∈ lw_T) (hinst : Cond.instanceMethod y ∈ lw_T) (hsel : Cond.selects y.cls y y ∈ lw_T) (hd : y.cls ≠ "java/lang/invoke/MethodHandle" ∧ y.cls ≠ "java/lang/invoke/VarHandle" ∧ (parseMethodDescriptor y.desc).map (fun d => d.parameters.length) = some As.length) (hrm : rm.cells = 0 ∧ rm.slots = 0) (hR : rm.frames + 1 ≤ room_1.frames ∧ 8 + (mL + 11) + rm.locals ≤ room_1.locals) (hst : st0 = As.reverse ++ .ref (ad2 5) :: rest) (hsz : ls.size = 4) (hw : (rest.map fun v => v.category).sum ≤ 8) (hdg : decode code pc = .ok (.invokevirtual index, 3))
    (kk : ∀ (r : Int32) (u : md_St) (H1 : Heap) (locs1 : List Loc), post r u → lw_M D ad cA cR ad2 cB s ln wd u.1 u.2 H1 locs1 → W p l e room_1 s m args below meth c H1 locs1 600000 7302250 Q (F0 m (pc + 3) ls (.int r :: rest))) : W p l e room_1 s m args below meth c H locs 600000 7302250 Q (F0 m pc ls st0) := by
  have hPl := lw_Pr hM.1
  have hDl := lw_Dr hM.2.1
  have hF : ∀ q, md_A ad2 H.size q → s.heap.size ≤ q := by
    intro q h
    rcases h with ⟨k, h1, rfl⟩ | h
    · exact hDl.2 k _ (md_w_at h1)
    · exact Nat.le_trans hM.2.2.1 h
  refine va_calli (va_runV (As := As) (rest := rest) hC hMet ⟨callB_of As.length hC.2.2.2.2 (wm_good hcode) rfl hrm.1 hrm.2 (hC.2.2.2.2 _ hini) (hC.2.2.2.2 _ hlink) hd hR, hC.2.2.2.2 _ hinst, hC.2.2.2.2 _ hsel⟩ ⟨md_blind _ _ _ _ _ _ _, va_recv hK2 hPl hc md_at_m, fun U hU hW => ⟨rfl, by rw [hU], by rw [hU]; exact hPl, va_K.moved hW.alike hK2, hDl.weaken (fun _ _ _ _ => trivial)⟩⟩ rfl rfl hsz hst (lv_room hw) hdg ⟨Nat.le_refl _, Nat.le_refl _⟩) hM.2.2 (fun q _ h => hF q h) hF (fun r u t H1 locs1 ht hvm hp hB hz hk hS => ?_)
  obtain ⟨hP1, hK9, hD1⟩ := hB
  rw [ht] at hP1
  obtain ⟨hP, hD⟩ := va_joinQ (X := md_w ad2 cB ln2 wd2) (cx := md_w ad2 cB ln2 wd2) (wr := []) (w1 := md_w ad2 cB u.1 u.2) (pl := wm_w ad cA cR ln wd) (lw_swP hM.1) (lw_swD hM.2.1) (List.range (md_w ad2 cB ln2 wd2).length) [] (lw_self _) rfl (by decide) (fun i hi => absurd hi List.not_mem_nil) (fun q h1 h2 => hk q h1 (fun h => h2 (lw_Am.mpr h))) (fun q h => hF q (lw_Am.mp h)) hP1 (hD1.weaken (fun _ _ _ h => lw_Am.mpr h))
  exact kk r u H1 locs1 hp ⟨lw_swP hP, lw_swD hD, hS⟩
end LawRows
