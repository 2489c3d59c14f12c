/-! ===== constructors ===== -/
theorem ko_code : Cond.code objectInit ⟨#[0xb1]⟩ 1 none ∈ lw_T := by decide +kernel
theorem ko_inst : Cond.instanceMethod objectInit ∈ lw_T := by decide +kernel
theorem ko_arr : Cond.arrayClass .int ∈ lw_T := by decide +kernel
theorem ko_iw : Cond.instantiable R_Whole 2 ∈ lw_T := by decide +kernel
theorem ko_im : Cond.instantiable R_Mill 4 ∈ lw_T := by decide +kernel
theorem ko_io : Cond.instantiable R_Mod 8 ∈ lw_T := by decide +kernel
theorem ct_met (l : Launch) {y : MethodName} {cc : ByteArray} {maxL : Nat} {ret : Option FieldType} {rm : Room} {As : List Value} {Pb : State → Prop} {Qc : Array Value → State → Outcome → State → Prop} {mc ms : Nat} {free : Nat → Prop} (hy : plainName y.cls = true) (hlen : (lg_sl As).length ≤ maxL)
    (body : ∀ (p : Program) (e : Env) (s : State) (m : MethodId) (below : List Frame) (meth : Method) (c : Code) (ls : Array Slot), Pb s → CallFix p m c cc maxL s As.toArray lw_T y.cls → meth.sig.returnType = ret → meth.locks = false → meth.name = y.name → lv_has ls maxL (lv_args 0 As) →
      W p l e rm s m As.toArray below meth c s.heap [] 0 0 (MQ below Qc As.toArray s mc ms free) (F0 m 0 ls [])) : Met l y (Cond.code y cc maxL ret :: lw_T) rm (va_Pc As Pb) Qc mc ms free := by
  refine Met.ofW (cc := cc) (maxL := maxL) (ret := ret) hy rfl ?_
  intro p e s m args below meth c s₁ B hml hv
  obtain ⟨rfl, hPb⟩ := hv
  have hts := atoms_spec (ws := Cond.code y cc maxL ret :: lw_T) B.pre
  have hown : s.vm.findClass y.cls = some m.cls := findClass_of_methodNamed B.named
  have hl := lv_entry As (n := maxL) hlen
  rw [lg_entry_eq]
  exact body p e s m below meth c _ hPb ⟨B.exec, B.bytes, hml, hown, fun w hw => hts w (List.mem_cons_of_mem _ hw)⟩ B.returns B.notSynchronized (name_of_methodNamed B.named B.method).1 hl
section CtRows
variable {p : Program} {l : Launch} {e : Env} {R : Room} {s : State} {m : MethodId} {args : Array Value} {below : List Frame} {meth : Method} {c : Code} {H : Heap} {locs : List Loc} {cells slots : Nat} {Q : State → Prop} {cc : ByteArray} {pc : Nat} {ls : Array Slot} {rest : List Value} {own : String} {nL : Nat}
  {D : va_G} {A : Nat → Prop} {ws : va_W} {tys : List (ClassId × FieldType)}
theorem ct_obj (hC : CallFix p m c cc nL s args lw_T own) (hsz : ls.size = nL) {index a : Nat} (hlink : Cond.methodLink own index objectInit ∈ lw_T) (hfr : 1 ≤ R.frames) (hlo : (rest.map fun v => v.category).sum + 12 ≤ R.locals) (hdg : decode cc pc = .ok (.invokespecial index, 3)) (kk : W p l e R s m args below meth c H locs cells slots Q (F0 m (pc + 3) ls rest)) : W p l e R s m args below meth c H locs cells slots Q (F0 m pc ls (.ref a :: rest)) := by
  refine W.objInit hC.1 hC.2.1 hC.2.2.2.1 (hC.2.2.2.2 _ hlink) (hC.2.2.2.2 _ ko_inst) (hC.2.2.2.2 _ ko_code) rfl (by rw [hC.2.2.1]; exact hsz) rfl hdg hfr (by show 2 * 0 + _ + 12 ≤ _; omega) ?_
  exact W.eq (g2 := F0 m (pc + 3) ls rest) rfl kk
theorem ct_newi (hC : CallFix p m c cc nL s args lw_T own) (hK : va_K D classes tys s) (hP : va_P D classes ws H) (hD : va_D A ws) (hS : va_S A s.heap H locs) (hA : ∀ q, s.heap.size ≤ q → A q) {n : Nat} (hn : n < 100000) (hcells : cells + 1 ≤ R.cells) (hslots : slots + n ≤ R.slots) (hdg : decode cc pc = .ok (.newarray .int, 2))
    (kk : ∀ (q : Nat) (cA : ClassId) (H1 : Heap), va_K D classes (tys ++ [(cA, .int)]) s → va_P D classes (ws ++ [(q, .inl (cA, n, .inl (fun _ => nI 0)))]) H1 → va_D A (ws ++ [(q, .inl (cA, n, .inl (fun _ => nI 0)))]) → va_S A s.heap H1 locs →
      W p l e R s m args below meth c H1 locs (cells + 1) (slots + n) Q (F0 m (pc + 2) ls (.ref q :: rest))) : W p l e R s m args below meth c H locs cells slots Q (F0 m pc ls (.int (nI n) :: rest)) :=
  va_newa hC.1 hC.2.1 (atype := .int) (hC.2.2.2.2 _ ko_arr) rfl hK hP hD hS hA (a0 := (n, .inl (fun _ => nI 0))) (fun cA => by rw [vp_cell_i]; rfl) (nI_pos (by omega)) (nI_clamp (by omega)) (by show n * 4 ≤ _; omega) hcells hslots hdg kk
/-- the class of int[] is one -/
theorem ct_one {cA cB : ClassId} {i j : Nat} (hK : va_K D classes tys s) (h1 : tys[i]? = some (cA, .int)) (h2 : tys[j]? = some (cB, .int)) : cA = cB := by
  have a : s.vm.findClass ("[" ++ FieldType.int.toString) = some cA := (hK.2 i _ h1).2
  have b : s.vm.findClass ("[" ++ FieldType.int.toString) = some cB := (hK.2 j _ h2).2
  exact Option.some.inj (a.symm.trans b)
end CtRows
/-- a Whole before its constructor, and behind it -/
abbrev cw_w0 (h0 : Nat) : va_W := [(h0, .inr (1, [.null, .int 0]))]
abbrev cw_w1 (h0 q : Nat) (cA : ClassId) : va_W := [(h0, .inr (1, [.ref q, .int (nI 0)])), (q, .inl (cA, 2050, .inl (fun _ => nI 0)))]
def ct_B (D : va_G) (ws : va_W) (sz : Nat) (X : State → Prop) : State → Prop := fun U => U.heap.size = sz ∧ va_P D classes ws U.heap ∧ va_K D classes [] U ∧ va_D (fun _ => True) ws ∧ X U
set_option maxHeartbeats 4000000 in
set_option maxRecDepth 100000 in
theorem c_Whole_init (l : Launch) (D : va_G) (h0 sz : Nat) : Met l y_Whole_init (Cond.code y_Whole_init b_Whole_init 1 none :: lw_T) ({ frames := 1, cells := 1, slots := 2050, locals := 20 }) (va_Pc [.ref h0] (ct_B D (cw_w0 h0) sz (fun _ => True))) (va_Qv (fun _ : Nat × ClassId => True) (fun u t => va_P D classes (cw_w1 h0 u.1 u.2) t.heap ∧ va_K D classes [(u.2, .int)] t ∧ va_D (va_A (cw_w0 h0) sz) (cw_w1 h0 u.1 u.2)) (va_A (cw_w0 h0) sz)) 1 2050 (va_A (cw_w0 h0) sz) := by
  refine ct_met l (by decide) (Nat.le_of_ble_eq_true rfl) ?_
  intro p e s m below meth c ls hv hC hr hlk hin hl
  obtain ⟨rfl, hP, hK, hD0, -⟩ := hv
  have hC : CallFix p m c b_Whole_init 1 s _ lw_T R_Whole := hC
  have hl : lv_has ls 1 [(0, .ref h0)] := hl
  have hD := hD0.self (sz := s.heap.size)
  have hA : ∀ q : Nat, s.heap.size ≤ q → va_A (cw_w0 h0) s.heap.size q := fun q h => Or.inr h
  have hS : va_S (va_A (cw_w0 h0) s.heap.size) s.heap s.heap [] := va_S.rf
  generalize va_A (cw_w0 h0) s.heap.size = A at hD hA hS ⊢
  refine lv_aload_n hC.1 hC.2.1 d_Whole_init_0 rfl (lv_at hl 0 rfl) ?_
  refine ct_obj hC hl.1 km_Whole_3 (Nat.le_of_ble_eq_true rfl) (Nat.le_of_ble_eq_true rfl) d_Whole_init_1 ?_
  refine lv_aload_n hC.1 hC.2.1 d_Whole_init_4 rfl (lv_at hl 0 rfl) ?_
  refine lv_sipush (v := nI 2050) hC.1 hC.2.1 d_Whole_init_5 (by decide) ?_
  refine ct_newi hC hK hP hD hS hA (by decide) (Nat.le_of_ble_eq_true rfl) (Nat.le_of_ble_eq_true rfl) d_Whole_init_8 (fun q cA H hK hP hD hS => ?_)
  have hP : va_P D classes [(h0, .inr (1, [.null, .int 0])), (q, .inl (cA, 2050, .inl (fun _ => nI 0)))] H := hP
  have hD : va_D A [(h0, .inr (1, [.null, .int 0])), (q, .inl (cA, 2050, .inl (fun _ => nI 0)))] := hD
  have hK : va_K D classes [(cA, .int)] s := hK
  refine va_putF (D := D) (ci := 1) (v := .ref q) (ty := .array .int) (C := R_Whole) (T := F_Whole) (N := 2) hC.1 hC.2.1 hC.2.2.2.2 i_Whole t_Whole t_Whole_ok n_Whole hC.2.2.2.1 hK hP hD hS 0 rfl rfl 0 (by decide) (hC.2.2.2.2 _ kf_Whole_9) (fun _ h9 => h9) rfl hin rfl (by decide +kernel) rfl rfl (Nat.le_of_ble_eq_true rfl) d_Whole_init_10 (fun H locs hP hD hS => ?_)
  have hP : va_P D classes [(h0, .inr (1, [.ref q, .int 0])), (q, .inl (cA, 2050, .inl (fun _ => nI 0)))] H := hP
  have hD : va_D A [(h0, .inr (1, [.ref q, .int 0])), (q, .inl (cA, 2050, .inl (fun _ => nI 0)))] := hD
  refine lv_aload_n hC.1 hC.2.1 d_Whole_init_13 rfl (lv_at hl 0 rfl) ?_
  refine lv_iconst (v := nI 0) hC.1 hC.2.1 d_Whole_init_14 (by decide) ?_
  refine va_put (D := D) (ci := 1) (v := .int (nI 0)) (ty := .int) (C := R_Whole) (T := F_Whole) (N := 2) hC.1 hC.2.1 hC.2.2.2.2 i_Whole t_Whole t_Whole_ok n_Whole hC.2.2.2.1 hK hP hD hS 0 rfl rfl 1 (by decide) (hC.2.2.2.2 _ kf_Whole_15) (fun _ h9 => h9) rfl (by decide +kernel) rfl rfl (Nat.le_of_ble_eq_true rfl) d_Whole_init_15 (fun H locs hP hD hS => ?_)
  have hP : va_P D classes (cw_w1 h0 q cA) H := hP
  have hD : va_D A (cw_w1 h0 q cA) := hD
  exact W.vret hC.1 hC.2.1 hr (fun t ht hW => ⟨⟨(q, cA), rfl, trivial, by rw [ht]; exact hP, va_K.moved hW.alike hK, hD⟩, hS.F ht⟩) hS.2.2 d_Whole_init_18 (hlk)
/-! the model's constructor -/
abbrev co_w0 (h0 : Nat) : va_W := [(h0, .inr (2, [.null, .null, .null, .null, .null, .int 0, .int 0, .int 0]))]
def co_ad (h0 q0 q1 q2 q3 q4 : Nat) : Nat → Nat := fun k => match k with
  | 0 => q0
  | 1 => q1
  | 2 => q2
  | 3 => q3
  | 4 => q4
  | _ => h0
set_option maxHeartbeats 4000000 in
set_option maxRecDepth 100000 in
theorem c_Mod_init (l : Launch) (D : va_G) (h0 sz : Nat) : Met l y_Mod_init (Cond.code y_Mod_init b_Mod_init 1 none :: lw_T) ({ frames := 1, cells := 5, slots := 90152, locals := 20 }) (va_Pc [.ref h0] (ct_B D (co_w0 h0) sz (fun _ => True))) (va_Qv (fun u : (Nat → Nat) × ClassId => u.1 5 = h0) (fun u t => va_P D classes (md_w u.1 u.2 (fun _ => 0) (fun _ _ => 0)) t.heap ∧ va_K D classes (md_ty u.2) t ∧ va_D (va_A (co_w0 h0) sz) (md_w u.1 u.2 (fun _ => 0) (fun _ _ => 0))) (va_A (co_w0 h0) sz)) 5 90152 (va_A (co_w0 h0) sz) := by
  refine ct_met l (by decide) (Nat.le_of_ble_eq_true rfl) ?_
  intro p e s m below meth c ls hv hC hr hlk hin hl
  obtain ⟨rfl, hP, hK, hD0, -⟩ := hv
  have hC : CallFix p m c b_Mod_init 1 s _ lw_T R_Mod := hC
  have hl : lv_has ls 1 [(0, .ref h0)] := hl
  have hD := hD0.self (sz := s.heap.size)
  have hA : ∀ q : Nat, s.heap.size ≤ q → va_A (co_w0 h0) s.heap.size q := fun q h => Or.inr h
  have hS : va_S (va_A (co_w0 h0) s.heap.size) s.heap s.heap [] := va_S.rf
  generalize va_A (co_w0 h0) s.heap.size = A at hD hA hS ⊢
  refine lv_aload_n hC.1 hC.2.1 d_Mod_init_0 rfl (lv_at hl 0 rfl) ?_
  refine ct_obj hC hl.1 km_Mod_1 (Nat.le_of_ble_eq_true rfl) (Nat.le_of_ble_eq_true rfl) d_Mod_init_1 ?_
  refine lv_aload_n hC.1 hC.2.1 d_Mod_init_4 rfl (lv_at hl 0 rfl) ?_
  refine lv_ldc (v := nI 65536) hC.1 hC.2.1 hC.2.2.2.1 (hC.2.2.2.2 _ kk_Mod_7) d_Mod_init_5 ?_
  refine ct_newi hC hK hP hD hS hA (by decide) (Nat.le_of_ble_eq_true rfl) (Nat.le_of_ble_eq_true rfl) d_Mod_init_7 (fun q0 c0 H hK hP hD hS => ?_)
  have hP : va_P D classes [(h0, .inr (2, [.null, .null, .null, .null, .null, .int 0, .int 0, .int 0])), (q0, .inl (c0, 65536, .inl (fun _ => nI 0)))] H := hP
  have hD : va_D A [(h0, .inr (2, [.null, .null, .null, .null, .null, .int 0, .int 0, .int 0])), (q0, .inl (c0, 65536, .inl (fun _ => nI 0)))] := hD
  have hK : va_K D classes [(c0, .int)] s := hK
  refine va_putF (D := D) (ci := 2) (v := .ref q0) (ty := .array .int) (C := R_Mod) (T := F_Mod) (N := 8) hC.1 hC.2.1 hC.2.2.2.2 i_Mod t_Mod t_Mod_ok n_Mod hC.2.2.2.1 hK hP hD hS 0 rfl rfl 0 (by decide) (hC.2.2.2.2 _ kf_Mod_8) (fun _ h9 => h9) rfl hin rfl (by decide +kernel) rfl rfl (Nat.le_of_ble_eq_true rfl) d_Mod_init_9 (fun H locs hP hD hS => ?_)
  have hP : va_P D classes [(h0, .inr (2, [.ref q0, .null, .null, .null, .null, .int 0, .int 0, .int 0])), (q0, .inl (c0, 65536, .inl (fun _ => nI 0)))] H := hP
  have hD : va_D A [(h0, .inr (2, [.ref q0, .null, .null, .null, .null, .int 0, .int 0, .int 0])), (q0, .inl (c0, 65536, .inl (fun _ => nI 0)))] := hD
  refine lv_aload_n hC.1 hC.2.1 d_Mod_init_12 rfl (lv_at hl 0 rfl) ?_
  refine lv_bipush (v := nI 16) hC.1 hC.2.1 d_Mod_init_13 (by decide) ?_
  refine ct_newi hC hK hP hD hS hA (by decide) (Nat.le_of_ble_eq_true rfl) (Nat.le_of_ble_eq_true rfl) d_Mod_init_15 (fun q1 c1 H hK hP hD hS => ?_)
  have hP : va_P D classes [(h0, .inr (2, [.ref q0, .null, .null, .null, .null, .int 0, .int 0, .int 0])), (q0, .inl (c0, 65536, .inl (fun _ => nI 0))), (q1, .inl (c1, 16, .inl (fun _ => nI 0)))] H := hP
  have hD : va_D A [(h0, .inr (2, [.ref q0, .null, .null, .null, .null, .int 0, .int 0, .int 0])), (q0, .inl (c0, 65536, .inl (fun _ => nI 0))), (q1, .inl (c1, 16, .inl (fun _ => nI 0)))] := hD
  have hK : va_K D classes [(c0, .int), (c1, .int)] s := hK
  refine va_putF (D := D) (ci := 2) (v := .ref q1) (ty := .array .int) (C := R_Mod) (T := F_Mod) (N := 8) hC.1 hC.2.1 hC.2.2.2.2 i_Mod t_Mod t_Mod_ok n_Mod hC.2.2.2.1 hK hP hD hS 0 rfl rfl 1 (by decide) (hC.2.2.2.2 _ kf_Mod_14) (fun _ h9 => h9) rfl hin rfl (by decide +kernel) rfl rfl (Nat.le_of_ble_eq_true rfl) d_Mod_init_17 (fun H locs hP hD hS => ?_)
  have hP : va_P D classes [(h0, .inr (2, [.ref q0, .ref q1, .null, .null, .null, .int 0, .int 0, .int 0])), (q0, .inl (c0, 65536, .inl (fun _ => nI 0))), (q1, .inl (c1, 16, .inl (fun _ => nI 0)))] H := hP
  have hD : va_D A [(h0, .inr (2, [.ref q0, .ref q1, .null, .null, .null, .int 0, .int 0, .int 0])), (q0, .inl (c0, 65536, .inl (fun _ => nI 0))), (q1, .inl (c1, 16, .inl (fun _ => nI 0)))] := hD
  refine lv_aload_n hC.1 hC.2.1 d_Mod_init_20 rfl (lv_at hl 0 rfl) ?_
  refine lv_sipush (v := nI 8200) hC.1 hC.2.1 d_Mod_init_21 (by decide) ?_
  refine ct_newi hC hK hP hD hS hA (by decide) (Nat.le_of_ble_eq_true rfl) (Nat.le_of_ble_eq_true rfl) d_Mod_init_24 (fun q2 c2 H hK hP hD hS => ?_)
  have hP : va_P D classes [(h0, .inr (2, [.ref q0, .ref q1, .null, .null, .null, .int 0, .int 0, .int 0])), (q0, .inl (c0, 65536, .inl (fun _ => nI 0))), (q1, .inl (c1, 16, .inl (fun _ => nI 0))), (q2, .inl (c2, 8200, .inl (fun _ => nI 0)))] H := hP
  have hD : va_D A [(h0, .inr (2, [.ref q0, .ref q1, .null, .null, .null, .int 0, .int 0, .int 0])), (q0, .inl (c0, 65536, .inl (fun _ => nI 0))), (q1, .inl (c1, 16, .inl (fun _ => nI 0))), (q2, .inl (c2, 8200, .inl (fun _ => nI 0)))] := hD
  have hK : va_K D classes [(c0, .int), (c1, .int), (c2, .int)] s := hK
  refine va_putF (D := D) (ci := 2) (v := .ref q2) (ty := .array .int) (C := R_Mod) (T := F_Mod) (N := 8) hC.1 hC.2.1 hC.2.2.2.2 i_Mod t_Mod t_Mod_ok n_Mod hC.2.2.2.1 hK hP hD hS 0 rfl rfl 2 (by decide) (hC.2.2.2.2 _ kf_Mod_17) (fun _ h9 => h9) rfl hin rfl (by decide +kernel) rfl rfl (Nat.le_of_ble_eq_true rfl) d_Mod_init_26 (fun H locs hP hD hS => ?_)
  have hP : va_P D classes [(h0, .inr (2, [.ref q0, .ref q1, .ref q2, .null, .null, .int 0, .int 0, .int 0])), (q0, .inl (c0, 65536, .inl (fun _ => nI 0))), (q1, .inl (c1, 16, .inl (fun _ => nI 0))), (q2, .inl (c2, 8200, .inl (fun _ => nI 0)))] H := hP
  have hD : va_D A [(h0, .inr (2, [.ref q0, .ref q1, .ref q2, .null, .null, .int 0, .int 0, .int 0])), (q0, .inl (c0, 65536, .inl (fun _ => nI 0))), (q1, .inl (c1, 16, .inl (fun _ => nI 0))), (q2, .inl (c2, 8200, .inl (fun _ => nI 0)))] := hD
  refine lv_aload_n hC.1 hC.2.1 d_Mod_init_29 rfl (lv_at hl 0 rfl) ?_
  refine lv_sipush (v := nI 8200) hC.1 hC.2.1 d_Mod_init_30 (by decide) ?_
  refine ct_newi hC hK hP hD hS hA (by decide) (Nat.le_of_ble_eq_true rfl) (Nat.le_of_ble_eq_true rfl) d_Mod_init_33 (fun q3 c3 H hK hP hD hS => ?_)
  have hP : va_P D classes [(h0, .inr (2, [.ref q0, .ref q1, .ref q2, .null, .null, .int 0, .int 0, .int 0])), (q0, .inl (c0, 65536, .inl (fun _ => nI 0))), (q1, .inl (c1, 16, .inl (fun _ => nI 0))), (q2, .inl (c2, 8200, .inl (fun _ => nI 0))), (q3, .inl (c3, 8200, .inl (fun _ => nI 0)))] H := hP
  have hD : va_D A [(h0, .inr (2, [.ref q0, .ref q1, .ref q2, .null, .null, .int 0, .int 0, .int 0])), (q0, .inl (c0, 65536, .inl (fun _ => nI 0))), (q1, .inl (c1, 16, .inl (fun _ => nI 0))), (q2, .inl (c2, 8200, .inl (fun _ => nI 0))), (q3, .inl (c3, 8200, .inl (fun _ => nI 0)))] := hD
  have hK : va_K D classes [(c0, .int), (c1, .int), (c2, .int), (c3, .int)] s := hK
  refine va_putF (D := D) (ci := 2) (v := .ref q3) (ty := .array .int) (C := R_Mod) (T := F_Mod) (N := 8) hC.1 hC.2.1 hC.2.2.2.2 i_Mod t_Mod t_Mod_ok n_Mod hC.2.2.2.1 hK hP hD hS 0 rfl rfl 3 (by decide) (hC.2.2.2.2 _ kf_Mod_20) (fun _ h9 => h9) rfl hin rfl (by decide +kernel) rfl rfl (Nat.le_of_ble_eq_true rfl) d_Mod_init_35 (fun H locs hP hD hS => ?_)
  have hP : va_P D classes [(h0, .inr (2, [.ref q0, .ref q1, .ref q2, .ref q3, .null, .int 0, .int 0, .int 0])), (q0, .inl (c0, 65536, .inl (fun _ => nI 0))), (q1, .inl (c1, 16, .inl (fun _ => nI 0))), (q2, .inl (c2, 8200, .inl (fun _ => nI 0))), (q3, .inl (c3, 8200, .inl (fun _ => nI 0)))] H := hP
  have hD : va_D A [(h0, .inr (2, [.ref q0, .ref q1, .ref q2, .ref q3, .null, .int 0, .int 0, .int 0])), (q0, .inl (c0, 65536, .inl (fun _ => nI 0))), (q1, .inl (c1, 16, .inl (fun _ => nI 0))), (q2, .inl (c2, 8200, .inl (fun _ => nI 0))), (q3, .inl (c3, 8200, .inl (fun _ => nI 0)))] := hD
  refine lv_aload_n hC.1 hC.2.1 d_Mod_init_38 rfl (lv_at hl 0 rfl) ?_
  refine lv_sipush (v := nI 8200) hC.1 hC.2.1 d_Mod_init_39 (by decide) ?_
  refine ct_newi hC hK hP hD hS hA (by decide) (Nat.le_of_ble_eq_true rfl) (Nat.le_of_ble_eq_true rfl) d_Mod_init_42 (fun q4 c4 H hK hP hD hS => ?_)
  have hP : va_P D classes [(h0, .inr (2, [.ref q0, .ref q1, .ref q2, .ref q3, .null, .int 0, .int 0, .int 0])), (q0, .inl (c0, 65536, .inl (fun _ => nI 0))), (q1, .inl (c1, 16, .inl (fun _ => nI 0))), (q2, .inl (c2, 8200, .inl (fun _ => nI 0))), (q3, .inl (c3, 8200, .inl (fun _ => nI 0))), (q4, .inl (c4, 8200, .inl (fun _ => nI 0)))] H := hP
  have hD : va_D A [(h0, .inr (2, [.ref q0, .ref q1, .ref q2, .ref q3, .null, .int 0, .int 0, .int 0])), (q0, .inl (c0, 65536, .inl (fun _ => nI 0))), (q1, .inl (c1, 16, .inl (fun _ => nI 0))), (q2, .inl (c2, 8200, .inl (fun _ => nI 0))), (q3, .inl (c3, 8200, .inl (fun _ => nI 0))), (q4, .inl (c4, 8200, .inl (fun _ => nI 0)))] := hD
  have hK : va_K D classes [(c0, .int), (c1, .int), (c2, .int), (c3, .int), (c4, .int)] s := hK
  refine va_putF (D := D) (ci := 2) (v := .ref q4) (ty := .array .int) (C := R_Mod) (T := F_Mod) (N := 8) hC.1 hC.2.1 hC.2.2.2.2 i_Mod t_Mod t_Mod_ok n_Mod hC.2.2.2.1 hK hP hD hS 0 rfl rfl 4 (by decide) (hC.2.2.2.2 _ kf_Mod_23) (fun _ h9 => h9) rfl hin rfl (by decide +kernel) rfl rfl (Nat.le_of_ble_eq_true rfl) d_Mod_init_44 (fun H locs hP hD hS => ?_)
  have hP : va_P D classes [(h0, .inr (2, [.ref q0, .ref q1, .ref q2, .ref q3, .ref q4, .int 0, .int 0, .int 0])), (q0, .inl (c0, 65536, .inl (fun _ => nI 0))), (q1, .inl (c1, 16, .inl (fun _ => nI 0))), (q2, .inl (c2, 8200, .inl (fun _ => nI 0))), (q3, .inl (c3, 8200, .inl (fun _ => nI 0))), (q4, .inl (c4, 8200, .inl (fun _ => nI 0)))] H := hP
  have hD : va_D A [(h0, .inr (2, [.ref q0, .ref q1, .ref q2, .ref q3, .ref q4, .int 0, .int 0, .int 0])), (q0, .inl (c0, 65536, .inl (fun _ => nI 0))), (q1, .inl (c1, 16, .inl (fun _ => nI 0))), (q2, .inl (c2, 8200, .inl (fun _ => nI 0))), (q3, .inl (c3, 8200, .inl (fun _ => nI 0))), (q4, .inl (c4, 8200, .inl (fun _ => nI 0)))] := hD
  obtain rfl := ct_one (i := 0) (j := 1) hK rfl rfl
  obtain rfl := ct_one (i := 0) (j := 2) hK rfl rfl
  obtain rfl := ct_one (i := 0) (j := 3) hK rfl rfl
  obtain rfl := ct_one (i := 0) (j := 4) hK rfl rfl
  have hP : va_P D classes (md_w (co_ad h0 q0 q1 q2 q3 q4) c0 (fun _ => 0) (fun _ _ => 0)) H := hP.sub [1, 2, 3, 4, 5, 0] rfl
  have hD : va_D A (md_w (co_ad h0 q0 q1 q2 q3 q4) c0 (fun _ => 0) (fun _ _ => 0)) := hD.sub [1, 2, 3, 4, 5, 0] (by decide) rfl
  have hK : va_K D classes (md_ty c0) s := hK.sub [0] rfl
  exact W.vret hC.1 hC.2.1 hr (fun t ht hW => ⟨⟨(co_ad h0 q0 q1 q2 q3 q4, c0), rfl, rfl, by rw [ht]; exact hP, va_K.moved hW.alike hK, hD⟩, hS.F ht⟩) hS.2.2 d_Mod_init_47 (hlk)
