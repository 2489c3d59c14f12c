/-! ===== rows over numbers: nI for ints, lN for longs ===== -/
theorem nv_lcm_ge {x y : Nat} (h1 : x < 2 ^ 63) (h2 : y < 2 ^ 63) : 0 ≤ lg_cmp (lN x) (lN y) ↔ y ≤ x := by rw [lg_cmp_ge, pk_lLE h2 h1]
theorem nv_lcm_le {x y : Nat} (h1 : x < 2 ^ 63) (h2 : y < 2 ^ 63) : lg_cmp (lN x) (lN y) ≤ 0 ↔ x ≤ y := by rw [lg_cmp_le, pk_lLE h1 h2]
theorem nv_lcm_lt {x y : Nat} (h1 : x < 2 ^ 63) (h2 : y < 2 ^ 63) : lg_cmp (lN x) (lN y) < 0 ↔ x < y := by
  rw [← Int32.not_le, nv_lcm_ge h1 h2, Nat.not_le]
theorem nv_lcm_gt {x y : Nat} (h1 : x < 2 ^ 63) (h2 : y < 2 ^ 63) : 0 < lg_cmp (lN x) (lN y) ↔ y < x := by
  rw [← Int32.not_le, nv_lcm_le h1 h2, Nat.not_le]
theorem nv_lcm_eq {x y : Nat} (h1 : x < 2 ^ 63) (h2 : y < 2 ^ 63) : lg_cmp (lN x) (lN y) = 0 ↔ x = y := by
  have a := nv_lcm_ge h1 h2
  have b := nv_lcm_le h1 h2
  constructor
  · intro h
    rw [h] at a b
    have a1 := a.mp (by decide)
    have b1 := b.mp (by decide)
    omega
  · intro h
    subst h
    simp [lg_cmp]
theorem nv_lcm_ne {x y : Nat} (h1 : x < 2 ^ 63) (h2 : y < 2 ^ 63) : ¬ lg_cmp (lN x) (lN y) = 0 ↔ x ≠ y := by rw [nv_lcm_eq h1 h2]
theorem wm_andN (a b : Nat) : nI a &&& nI b = nI (a &&& b) := by
  apply Int32.toBitVec_inj.1
  show BitVec.ofNat 32 a &&& BitVec.ofNat 32 b = BitVec.ofNat 32 (a &&& b)
  apply BitVec.eq_of_getLsbD_eq
  intro i hi
  simp [hi]
section NvRows
variable {p : Program} {l : Launch} {e : Env} {R : Room} {s : State} {m : MethodId} {args : Array Value} {below : List Frame} {meth : Method} {c : Code} {H : Heap} {locs : List Loc} {cells slots : Nat} {Q : State → Prop} {cc : ByteArray} {pc : Nat} {ls : Array Slot} {rest : List Value} {own : String} {nL : Nat}
theorem nv_iadd (hC : CallFix p m c cc nL s args lw_T own) {x y : Nat} (hdg : decode cc pc = .ok (.iadd, 1)) (k : W p l e R s m args below meth c H locs cells slots Q (F0 m (pc + 1) ls (.int (nI (x + y)) :: rest))) : W p l e R s m args below meth c H locs cells slots Q (F0 m pc ls (.int (nI y) :: .int (nI x) :: rest)) :=
  lv_iadd hC.1 hC.2.1 hdg (by rw [nI_add]; exact k)
theorem nv_isub (hC : CallFix p m c cc nL s args lw_T own) {x y : Nat} (h : y ≤ x) (hdg : decode cc pc = .ok (.isub, 1)) (k : W p l e R s m args below meth c H locs cells slots Q (F0 m (pc + 1) ls (.int (nI (x - y)) :: rest))) : W p l e R s m args below meth c H locs cells slots Q (F0 m pc ls (.int (nI y) :: .int (nI x) :: rest)) :=
  lv_isub hC.1 hC.2.1 hdg (by rw [pk_sub h]; exact k)
theorem nv_imul (hC : CallFix p m c cc nL s args lw_T own) {x y : Nat} (hdg : decode cc pc = .ok (.imul, 1)) (k : W p l e R s m args below meth c H locs cells slots Q (F0 m (pc + 1) ls (.int (nI (x * y)) :: rest))) : W p l e R s m args below meth c H locs cells slots Q (F0 m pc ls (.int (nI y) :: .int (nI x) :: rest)) :=
  lv_imul hC.1 hC.2.1 hdg (by rw [pk_mul]; exact k)
theorem nv_inc (i : Nat) : nI i + Int32.ofInt 1 = nI (i + 1) := nI_1 i
theorem nv_dec (i : Nat) : nI (i + 1) + Int32.ofInt (-1) = nI i := pk_m1 i
theorem nv_icmp_ge (hC : CallFix p m c cc nL s args lw_T own) {x y : Nat} {off : Int} {tgt : Nat} (h1 : x < 2 ^ 31) (h2 : y < 2 ^ 31) (hdg : decode cc pc = .ok (.if_icmp .ge off, 3)) (ht : (pc : Int) + off = (tgt : Int)) (kt : y ≤ x → W p l e R s m args below meth c H locs cells slots Q (F0 m tgt ls rest)) (kf : x < y → W p l e R s m args below meth c H locs cells slots Q (F0 m (pc + 3) ls rest)) : W p l e R s m args below meth c H locs cells slots Q (F0 m pc ls (.int (nI y) :: .int (nI x) :: rest)) :=
  lv_icmp_ge hC.1 hC.2.1 hdg ht (fun h => kt ((nI_leI h2 h1).mp h)) (fun h => kf (Nat.lt_of_not_le fun z => h ((nI_leI h2 h1).mpr z)))
theorem nv_icmp_lt (hC : CallFix p m c cc nL s args lw_T own) {x y : Nat} {off : Int} {tgt : Nat} (h1 : x < 2 ^ 31) (h2 : y < 2 ^ 31) (hdg : decode cc pc = .ok (.if_icmp .lt off, 3)) (ht : (pc : Int) + off = (tgt : Int)) (kt : x < y → W p l e R s m args below meth c H locs cells slots Q (F0 m tgt ls rest)) (kf : y ≤ x → W p l e R s m args below meth c H locs cells slots Q (F0 m (pc + 3) ls rest)) : W p l e R s m args below meth c H locs cells slots Q (F0 m pc ls (.int (nI y) :: .int (nI x) :: rest)) :=
  lv_icmp_lt hC.1 hC.2.1 hdg ht (fun h => kt ((nI_ltI h1 h2).mp h)) (fun h => kf (Nat.le_of_not_lt fun z => h ((nI_ltI h1 h2).mpr z)))
theorem nv_icmp_gt (hC : CallFix p m c cc nL s args lw_T own) {x y : Nat} {off : Int} {tgt : Nat} (h1 : x < 2 ^ 31) (h2 : y < 2 ^ 31) (hdg : decode cc pc = .ok (.if_icmp .gt off, 3)) (ht : (pc : Int) + off = (tgt : Int)) (kt : y < x → W p l e R s m args below meth c H locs cells slots Q (F0 m tgt ls rest)) (kf : x ≤ y → W p l e R s m args below meth c H locs cells slots Q (F0 m (pc + 3) ls rest)) : W p l e R s m args below meth c H locs cells slots Q (F0 m pc ls (.int (nI y) :: .int (nI x) :: rest)) :=
  lv_icmp_gt hC.1 hC.2.1 hdg ht (fun h => kt ((nI_ltI h2 h1).mp h)) (fun h => kf (Nat.le_of_not_lt fun z => h ((nI_ltI h2 h1).mpr z)))
theorem nv_icmp_le (hC : CallFix p m c cc nL s args lw_T own) {x y : Nat} {off : Int} {tgt : Nat} (h1 : x < 2 ^ 31) (h2 : y < 2 ^ 31) (hdg : decode cc pc = .ok (.if_icmp .le off, 3)) (ht : (pc : Int) + off = (tgt : Int)) (kt : x ≤ y → W p l e R s m args below meth c H locs cells slots Q (F0 m tgt ls rest)) (kf : y < x → W p l e R s m args below meth c H locs cells slots Q (F0 m (pc + 3) ls rest)) : W p l e R s m args below meth c H locs cells slots Q (F0 m pc ls (.int (nI y) :: .int (nI x) :: rest)) :=
  lv_icmp_le hC.1 hC.2.1 hdg ht (fun h => kt ((nI_leI h1 h2).mp h)) (fun h => kf (Nat.lt_of_not_le fun z => h ((nI_leI h1 h2).mpr z)))
theorem nv_icmp_eq (hC : CallFix p m c cc nL s args lw_T own) {x y : Nat} {off : Int} {tgt : Nat} (h1 : x < 2 ^ 31) (h2 : y < 2 ^ 31) (hdg : decode cc pc = .ok (.if_icmp .eq off, 3)) (ht : (pc : Int) + off = (tgt : Int)) (kt : x = y → W p l e R s m args below meth c H locs cells slots Q (F0 m tgt ls rest)) (kf : x ≠ y → W p l e R s m args below meth c H locs cells slots Q (F0 m (pc + 3) ls rest)) : W p l e R s m args below meth c H locs cells slots Q (F0 m pc ls (.int (nI y) :: .int (nI x) :: rest)) :=
  lv_icmp_eq hC.1 hC.2.1 hdg ht (fun h => kt ((nI_eq h1 h2).mp h)) (fun h => kf (fun z => h ((nI_eq h1 h2).mpr z)))
theorem nv_icmp_ne (hC : CallFix p m c cc nL s args lw_T own) {x y : Nat} {off : Int} {tgt : Nat} (h1 : x < 2 ^ 31) (h2 : y < 2 ^ 31) (hdg : decode cc pc = .ok (.if_icmp .ne off, 3)) (ht : (pc : Int) + off = (tgt : Int)) (kt : x ≠ y → W p l e R s m args below meth c H locs cells slots Q (F0 m tgt ls rest)) (kf : x = y → W p l e R s m args below meth c H locs cells slots Q (F0 m (pc + 3) ls rest)) : W p l e R s m args below meth c H locs cells slots Q (F0 m pc ls (.int (nI y) :: .int (nI x) :: rest)) :=
  lv_icmp_ne hC.1 hC.2.1 hdg ht (fun h => kt (fun z => h ((nI_eq h1 h2).mpr z))) (fun h => kf ((nI_eq h1 h2).mp h))
theorem nv_z {x : Nat} (h : x < 2 ^ 31) : nI x = 0 ↔ x = 0 := by rw [← nI_0, nI_eq h (by decide)]
theorem nv_le0 {x : Nat} (h : x < 2 ^ 31) : nI x ≤ 0 ↔ x = 0 := by rw [← nI_0, nI_leI h (by decide)]; omega
theorem nv_if_eq (hC : CallFix p m c cc nL s args lw_T own) {x : Nat} {off : Int} {tgt : Nat} (h1 : x < 2 ^ 31) (hdg : decode cc pc = .ok (.ifCond .eq off, 3)) (ht : (pc : Int) + off = (tgt : Int)) (kt : x = 0 → W p l e R s m args below meth c H locs cells slots Q (F0 m tgt ls rest)) (kf : x ≠ 0 → W p l e R s m args below meth c H locs cells slots Q (F0 m (pc + 3) ls rest)) : W p l e R s m args below meth c H locs cells slots Q (F0 m pc ls (.int (nI x) :: rest)) :=
  lv_if_eq hC.1 hC.2.1 hdg ht (fun h => kt ((nv_z h1).mp h)) (fun h => kf (fun z => h ((nv_z h1).mpr z)))
theorem nv_if_ne (hC : CallFix p m c cc nL s args lw_T own) {x : Nat} {off : Int} {tgt : Nat} (h1 : x < 2 ^ 31) (hdg : decode cc pc = .ok (.ifCond .ne off, 3)) (ht : (pc : Int) + off = (tgt : Int)) (kt : x ≠ 0 → W p l e R s m args below meth c H locs cells slots Q (F0 m tgt ls rest)) (kf : x = 0 → W p l e R s m args below meth c H locs cells slots Q (F0 m (pc + 3) ls rest)) : W p l e R s m args below meth c H locs cells slots Q (F0 m pc ls (.int (nI x) :: rest)) :=
  lv_if_ne hC.1 hC.2.1 hdg ht (fun h => kt (fun z => h ((nv_z h1).mpr z))) (fun h => kf ((nv_z h1).mp h))
theorem nv_if_le (hC : CallFix p m c cc nL s args lw_T own) {x : Nat} {off : Int} {tgt : Nat} (h1 : x < 2 ^ 31) (hdg : decode cc pc = .ok (.ifCond .le off, 3)) (ht : (pc : Int) + off = (tgt : Int)) (kt : x = 0 → W p l e R s m args below meth c H locs cells slots Q (F0 m tgt ls rest)) (kf : x ≠ 0 → W p l e R s m args below meth c H locs cells slots Q (F0 m (pc + 3) ls rest)) : W p l e R s m args below meth c H locs cells slots Q (F0 m pc ls (.int (nI x) :: rest)) :=
  lv_if_le hC.1 hC.2.1 hdg ht (fun h => kt ((nv_le0 h1).mp h)) (fun h => kf (fun z => h ((nv_le0 h1).mpr z)))
/-- the test of a loop that counts down: its int is one less than the number of rounds left -/
theorem nv_down_lt (hC : CallFix p m c cc nL s args lw_T own) {x : Nat} {off : Int} {tgt : Nat} (h1 : x < 2 ^ 31) (hdg : decode cc pc = .ok (.ifCond .lt off, 3)) (ht : (pc : Int) + off = (tgt : Int)) (kt : x = 0 → W p l e R s m args below meth c H locs cells slots Q (F0 m tgt ls rest)) (kf : ∀ y, x = y + 1 → W p l e R s m args below meth c H locs cells slots Q (F0 m (pc + 3) ls rest)) : W p l e R s m args below meth c H locs cells slots Q (F0 m pc ls (.int (nI x + (-1)) :: rest)) := by
  refine lv_if_lt hC.1 hC.2.1 hdg ht (fun h => ?_) (fun h => ?_)
  · rcases Nat.eq_zero_or_pos x with z | z
    · exact kt z
    · obtain ⟨y, rfl⟩ : ∃ y, x = y + 1 := ⟨x - 1, by omega⟩
      rw [pk_m1] at h
      exact absurd h (nI_pos (by omega))
  · rcases Nat.eq_zero_or_pos x with z | z
    · subst z
      exact absurd (show nI 0 + (-1) < 0 by decide) h
    · exact kf (x - 1) (by omega)
theorem nv_isub1 (hC : CallFix p m c cc nL s args lw_T own) {x : Nat} (hdg : decode cc pc = .ok (.isub, 1)) (k : W p l e R s m args below meth c H locs cells slots Q (F0 m (pc + 1) ls (.int (nI x + (-1)) :: rest))) : W p l e R s m args below meth c H locs cells slots Q (F0 m pc ls (.int (nI 1) :: .int (nI x) :: rest)) :=
  lv_isub hC.1 hC.2.1 hdg (by rw [Int32.sub_eq_add_neg]; exact k)
theorem nv_low (hC : CallFix p m c cc nL s args lw_T own) {index : Nat} (hc : Cond.constantLong own index 4294967295 ∈ lw_T) {x : Int32} (h1 : decode cc pc = .ok (.i2l, 1)) (h2 : decode cc (pc + 1) = .ok (.ldc2_w index, 3)) (h3 : decode cc (pc + 4) = .ok (.land, 1)) (k : W p l e R s m args below meth c H locs cells slots Q (F0 m (pc + 5) ls (.long (lN (wm_u x)) :: rest))) : W p l e R s m args below meth c H locs cells slots Q (F0 m pc ls (.int x :: rest)) :=
  lv_i2l hC.1 hC.2.1 h1 rfl (lv_ldc2 hC.1 hC.2.1 hC.2.2.2.1 (hC.2.2.2.2 _ hc) h2 (lv_land hC.1 hC.2.1 h3 (by rw [wm_low]; exact k)))
theorem nv_lowL (hC : CallFix p m c cc nL s args lw_T own) {index : Nat} (hc : Cond.constantLong own index 4294967295 ∈ lw_T) {n : Nat} (hn : n < 2 ^ 64) (h2 : decode cc pc = .ok (.ldc2_w index, 3)) (h3 : decode cc (pc + 3) = .ok (.land, 1)) (k : W p l e R s m args below meth c H locs cells slots Q (F0 m (pc + 4) ls (.long (lN (n % 4294967296)) :: rest))) : W p l e R s m args below meth c H locs cells slots Q (F0 m pc ls (.long (lN n) :: rest)) :=
  lv_ldc2 hC.1 hC.2.1 hC.2.2.2.1 (hC.2.2.2.2 _ hc) h2 (lv_land hC.1 hC.2.1 h3 (by rw [wm_lowL hn]; exact k))
theorem nv_ladd (hC : CallFix p m c cc nL s args lw_T own) {x y : Nat} (hdg : decode cc pc = .ok (.ladd, 1)) (k : W p l e R s m args below meth c H locs cells slots Q (F0 m (pc + 1) ls (.long (lN (x + y)) :: rest))) : W p l e R s m args below meth c H locs cells slots Q (F0 m pc ls (.long (lN y) :: .long (lN x) :: rest)) :=
  lv_ladd hC.1 hC.2.1 hdg (by rw [lN_add]; exact k)
theorem nv_lmul (hC : CallFix p m c cc nL s args lw_T own) {x y : Nat} (hdg : decode cc pc = .ok (.lmul, 1)) (k : W p l e R s m args below meth c H locs cells slots Q (F0 m (pc + 1) ls (.long (lN (x * y)) :: rest))) : W p l e R s m args below meth c H locs cells slots Q (F0 m pc ls (.long (lN y) :: .long (lN x) :: rest)) :=
  lv_lmul hC.1 hC.2.1 hdg (by rw [lN_mul]; exact k)
theorem nv_lsub (hC : CallFix p m c cc nL s args lw_T own) {x y : Nat} (h : y ≤ x) (hdg : decode cc pc = .ok (.lsub, 1)) (k : W p l e R s m args below meth c H locs cells slots Q (F0 m (pc + 1) ls (.long (lN (x - y)) :: rest))) : W p l e R s m args below meth c H locs cells slots Q (F0 m pc ls (.long (lN y) :: .long (lN x) :: rest)) :=
  lv_lsub hC.1 hC.2.1 hdg (by rw [lN_sub h]; exact k)
theorem nv_lsubw (hC : CallFix p m c cc nL s args lw_T own) {x y : Nat} (h : y ≤ 2 ^ 64) (hdg : decode cc pc = .ok (.lsub, 1)) (k : W p l e R s m args below meth c H locs cells slots Q (F0 m (pc + 1) ls (.long (lN (x + (2 ^ 64 - y))) :: rest))) : W p l e R s m args below meth c H locs cells slots Q (F0 m pc ls (.long (lN y) :: .long (lN x) :: rest)) :=
  lv_lsub hC.1 hC.2.1 hdg (by rw [wm_lsub h]; exact k)
theorem nv_lushr (hC : CallFix p m c cc nL s args lw_T own) {n k : Nat} (hn : n < 2 ^ 64) (hk : k < 64) (hdg : decode cc pc = .ok (.lushr, 1)) (kk : W p l e R s m args below meth c H locs cells slots Q (F0 m (pc + 1) ls (.long (lN (n / 2 ^ k)) :: rest))) : W p l e R s m args below meth c H locs cells slots Q (F0 m pc ls (.int (nI k) :: .long (lN n) :: rest)) :=
  lv_lushr hC.1 hC.2.1 hdg (wb_shr hn hk) kk
theorem nv_lshl (hC : CallFix p m c cc nL s args lw_T own) {n k : Nat} (hk : k < 64) (hdg : decode cc pc = .ok (.lshl, 1)) (kk : W p l e R s m args below meth c H locs cells slots Q (F0 m (pc + 1) ls (.long (lN (n * 2 ^ k)) :: rest))) : W p l e R s m args below meth c H locs cells slots Q (F0 m pc ls (.int (nI k) :: .long (lN n) :: rest)) :=
  lv_lshl hC.1 hC.2.1 hdg (wb_shl n hk) kk
theorem nv_l2i (hC : CallFix p m c cc nL s args lw_T own) {n : Nat} (hdg : decode cc pc = .ok (.l2i, 1)) (kk : W p l e R s m args below meth c H locs cells slots Q (F0 m (pc + 1) ls (.int (nI n) :: rest))) : W p l e R s m args below meth c H locs cells slots Q (F0 m pc ls (.long (lN n) :: rest)) :=
  lv_l2i hC.1 hC.2.1 hdg (lN_i n) kk
theorem nv_i2l (hC : CallFix p m c cc nL s args lw_T own) {n : Nat} (hn : n < 2 ^ 31) (hdg : decode cc pc = .ok (.i2l, 1)) (kk : W p l e R s m args below meth c H locs cells slots Q (F0 m (pc + 1) ls (.long (lN n) :: rest))) : W p l e R s m args below meth c H locs cells slots Q (F0 m pc ls (.int (nI n) :: rest)) :=
  lv_i2l hC.1 hC.2.1 hdg (nI_l hn) kk
theorem nv_iushr (hC : CallFix p m c cc nL s args lw_T own) {n k : Nat} (hn : n < 2 ^ 32) (hk : k < 32) (hdg : decode cc pc = .ok (.iushr, 1)) (kk : W p l e R s m args below meth c H locs cells slots Q (F0 m (pc + 1) ls (.int (nI (n / 2 ^ k)) :: rest))) : W p l e R s m args below meth c H locs cells slots Q (F0 m pc ls (.int (nI k) :: .int (nI n) :: rest)) :=
  lv_iushr hC.1 hC.2.1 hdg (pk_ushrN hn _ k (wm_s_u k hk)) kk
theorem nv_iand (hC : CallFix p m c cc nL s args lw_T own) {n k : Nat} (hn : n < 2 ^ 32) (hk : k < 32) (hdg : decode cc pc = .ok (.iand, 1)) (kk : W p l e R s m args below meth c H locs cells slots Q (F0 m (pc + 1) ls (.int (nI (n % 2 ^ k)) :: rest))) : W p l e R s m args below meth c H locs cells slots Q (F0 m pc ls (.int (nI (2 ^ k - 1)) :: .int (nI n) :: rest)) :=
  lv_iand hC.1 hC.2.1 hdg (by rw [pk_andN hn k (pk_tn (by have := Nat.pow_lt_pow_right (show 1 < 2 by decide) hk; omega))]; exact kk)
theorem nv_lushr32 (hC : CallFix p m c cc nL s args lw_T own) {n : Nat} (hn : n < 18446744073709551616) (hdg : decode cc pc = .ok (.lushr, 1)) (kk : W p l e R s m args below meth c H locs cells slots Q (F0 m (pc + 1) ls (.long (lN (n / 4294967296)) :: rest))) : W p l e R s m args below meth c H locs cells slots Q (F0 m pc ls (.int (nI 32) :: .long (lN n) :: rest)) :=
  nv_lushr hC (k := 32) hn (by decide) hdg kk
theorem nv_maxi {a b : Nat} (ha : a < 2 ^ 31) (hb : b < 2 ^ 31) : (if nI a < nI b then nI b else nI a) = nI (max a b) := by
  by_cases h : a < b
  · rw [if_pos ((nI_ltI ha hb).mpr h), Nat.max_eq_right (Nat.le_of_lt h)]
  · rw [if_neg (fun z => h ((nI_ltI ha hb).mp z)), Nat.max_eq_left (Nat.le_of_not_lt h)]
theorem nv_mini {a b : Nat} (ha : a < 2 ^ 31) (hb : b < 2 ^ 31) : (if nI b < nI a then nI b else nI a) = nI (min a b) := by
  by_cases h : b < a
  · rw [if_pos ((nI_ltI hb ha).mpr h), Nat.min_eq_right (Nat.le_of_lt h)]
  · rw [if_neg (fun z => h ((nI_ltI hb ha).mp z)), Nat.min_eq_left (Nat.le_of_not_lt h)]
theorem nv_mmax (hC : CallFix p m c cc nL s args lw_T own) (hsz : ls.size = nL) {index : Nat} (hlink : Cond.methodLink own index Lib.Math.max.name ∈ lw_T) (hstat : Cond.static Lib.Math.max.name ∈ lw_T) (hini : Cond.initialized "java/lang/Math" ∈ lw_T) (hcode : Cond.code Lib.Math.max.name Lib.Math.max.code 2 (some .int) ∈ lw_T) (hfr : 1 ≤ R.frames) (hlo : (rest.map fun v => v.category).sum + 13 ≤ R.locals) {x y : Int32} (hdg : decode cc pc = .ok (.invokestatic index, 3))
    (kk : W p l e R s m args below meth c H locs 0 0 Q (F0 m (pc + 3) ls (.int (if x < y then y else x) :: rest))) : W p l e R s m args below meth c H locs 0 0 Q (F0 m pc ls (.int y :: .int x :: rest)) :=
  va_mmax hC.1 hC.2.1 (by rw [hC.2.2.1, hsz]) hC.2.2.2.1 (hC.2.2.2.2 _ hlink) (hC.2.2.2.2 _ hstat) (hC.2.2.2.2 _ hini) (hC.2.2.2.2 _ hcode) hfr hlo (Nat.zero_le _) (Nat.zero_le _) hdg kk
theorem nv_mmin (hC : CallFix p m c cc nL s args lw_T own) (hsz : ls.size = nL) {index : Nat} (hlink : Cond.methodLink own index Lib.Math.min.name ∈ lw_T) (hstat : Cond.static Lib.Math.min.name ∈ lw_T) (hini : Cond.initialized "java/lang/Math" ∈ lw_T) (hcode : Cond.code Lib.Math.min.name Lib.Math.min.code 2 (some .int) ∈ lw_T) (hfr : 1 ≤ R.frames) (hlo : (rest.map fun v => v.category).sum + 13 ≤ R.locals) {x y : Int32} (hdg : decode cc pc = .ok (.invokestatic index, 3))
    (kk : W p l e R s m args below meth c H locs 0 0 Q (F0 m (pc + 3) ls (.int (if y < x then y else x) :: rest))) : W p l e R s m args below meth c H locs 0 0 Q (F0 m pc ls (.int y :: .int x :: rest)) :=
  va_mmin hC.1 hC.2.1 (by rw [hC.2.2.1, hsz]) hC.2.2.2.1 (hC.2.2.2.2 _ hlink) (hC.2.2.2.2 _ hstat) (hC.2.2.2.2 _ hini) (hC.2.2.2.2 _ hcode) hfr hlo (Nat.zero_le _) (Nat.zero_le _) hdg kk
theorem nz_lsub (hC : CallFix p m c cc nL s args lw_T own) {x y : Int} (hdg : decode cc pc = .ok (.lsub, 1)) (k : W p l e R s m args below meth c H locs cells slots Q (F0 m (pc + 1) ls (.long (lz_i (x - y)) :: rest))) : W p l e R s m args below meth c H locs cells slots Q (F0 m pc ls (.long (lz_i y) :: .long (lz_i x) :: rest)) :=
  lv_lsub hC.1 hC.2.1 hdg (by rw [lz_sub]; exact k)
theorem nz_ladd (hC : CallFix p m c cc nL s args lw_T own) {x y : Int} (hdg : decode cc pc = .ok (.ladd, 1)) (k : W p l e R s m args below meth c H locs cells slots Q (F0 m (pc + 1) ls (.long (lz_i (x + y)) :: rest))) : W p l e R s m args below meth c H locs cells slots Q (F0 m pc ls (.long (lz_i y) :: .long (lz_i x) :: rest)) :=
  lv_ladd hC.1 hC.2.1 hdg (by rw [lz_add]; exact k)
/-- x - y of two longs that are numbers: with a sign -/
theorem nz_lsubn (hC : CallFix p m c cc nL s args lw_T own) {x y : Nat} (hdg : decode cc pc = .ok (.lsub, 1)) (k : W p l e R s m args below meth c H locs cells slots Q (F0 m (pc + 1) ls (.long (lz_i ((x : Int) - (y : Int))) :: rest))) : W p l e R s m args below meth c H locs cells slots Q (F0 m pc ls (.long (lN y) :: .long (lN x) :: rest)) :=
  lv_lsub hC.1 hC.2.1 hdg (by rw [lz_n, lz_n, lz_sub]; exact k)
theorem nz_lsubm (hC : CallFix p m c cc nL s args lw_T own) {x : Int} {y : Nat} (hdg : decode cc pc = .ok (.lsub, 1)) (k : W p l e R s m args below meth c H locs cells slots Q (F0 m (pc + 1) ls (.long (lz_i (x - (y : Int))) :: rest))) : W p l e R s m args below meth c H locs cells slots Q (F0 m pc ls (.long (lN y) :: .long (lz_i x) :: rest)) :=
  lv_lsub hC.1 hC.2.1 hdg (by rw [lz_n, lz_sub]; exact k)
theorem nz_l2i (hC : CallFix p m c cc nL s args lw_T own) {z : Int} (hdg : decode cc pc = .ok (.l2i, 1)) (kk : W p l e R s m args below meth c H locs cells slots Q (F0 m (pc + 1) ls (.int (Int32.ofInt z) :: rest))) : W p l e R s m args below meth c H locs cells slots Q (F0 m pc ls (.long (lz_i z) :: rest)) :=
  lv_l2i hC.1 hC.2.1 hdg (lz_32 z) kk
theorem nz_63 (hC : CallFix p m c cc nL s args lw_T own) {z : Int} (h1 : -9223372036854775808 ≤ z) (h2 : z < 9223372036854775808) (hdg : decode cc pc = .ok (.lushr, 1)) (kk : W p l e R s m args below meth c H locs cells slots Q (F0 m (pc + 1) ls (.long (lN (if z < 0 then 1 else 0)) :: rest))) : W p l e R s m args below meth c H locs cells slots Q (F0 m pc ls (.int (nI 63) :: .long (lz_i z) :: rest)) :=
  lv_lushr hC.1 hC.2.1 hdg (lz_63 h1 h2) kk
theorem nv_lc_lt (hC : CallFix p m c cc nL s args lw_T own) {x y : Nat} {off : Int} {tgt : Nat} (h1 : x < 2 ^ 63) (h2 : y < 2 ^ 63) (hd1 : decode cc pc = .ok (.lcmp, 1)) (hdg : decode cc (pc + 1) = .ok (.ifCond .lt off, 3)) (ht : ((pc + 1 : Nat) : Int) + off = (tgt : Int)) (kt : x < y → W p l e R s m args below meth c H locs cells slots Q (F0 m tgt ls rest)) (kf : y ≤ x → W p l e R s m args below meth c H locs cells slots Q (F0 m (pc + 4) ls rest)) : W p l e R s m args below meth c H locs cells slots Q (F0 m pc ls (.long (lN y) :: .long (lN x) :: rest)) := by
  refine W.lcmp hC.1 hC.2.1 hd1 (lv_if_lt hC.1 hC.2.1 hdg ht (fun h => kt ?_) (fun h => kf ?_))
  · exact (nv_lcm_lt h1 h2).mp h
  · have h3 : ¬ (x < y) := fun z => h ((nv_lcm_lt h1 h2).mpr z)
    omega
theorem nv_lc_ge (hC : CallFix p m c cc nL s args lw_T own) {x y : Nat} {off : Int} {tgt : Nat} (h1 : x < 2 ^ 63) (h2 : y < 2 ^ 63) (hd1 : decode cc pc = .ok (.lcmp, 1)) (hdg : decode cc (pc + 1) = .ok (.ifCond .ge off, 3)) (ht : ((pc + 1 : Nat) : Int) + off = (tgt : Int)) (kt : y ≤ x → W p l e R s m args below meth c H locs cells slots Q (F0 m tgt ls rest)) (kf : x < y → W p l e R s m args below meth c H locs cells slots Q (F0 m (pc + 4) ls rest)) : W p l e R s m args below meth c H locs cells slots Q (F0 m pc ls (.long (lN y) :: .long (lN x) :: rest)) := by
  refine W.lcmp hC.1 hC.2.1 hd1 (lv_if_ge hC.1 hC.2.1 hdg ht (fun h => kt ?_) (fun h => kf ?_))
  · exact (nv_lcm_ge h1 h2).mp h
  · have h3 : ¬ (y ≤ x) := fun z => h ((nv_lcm_ge h1 h2).mpr z)
    omega
theorem nv_lc_gt (hC : CallFix p m c cc nL s args lw_T own) {x y : Nat} {off : Int} {tgt : Nat} (h1 : x < 2 ^ 63) (h2 : y < 2 ^ 63) (hd1 : decode cc pc = .ok (.lcmp, 1)) (hdg : decode cc (pc + 1) = .ok (.ifCond .gt off, 3)) (ht : ((pc + 1 : Nat) : Int) + off = (tgt : Int)) (kt : y < x → W p l e R s m args below meth c H locs cells slots Q (F0 m tgt ls rest)) (kf : x ≤ y → W p l e R s m args below meth c H locs cells slots Q (F0 m (pc + 4) ls rest)) : W p l e R s m args below meth c H locs cells slots Q (F0 m pc ls (.long (lN y) :: .long (lN x) :: rest)) := by
  refine W.lcmp hC.1 hC.2.1 hd1 (lv_if_gt hC.1 hC.2.1 hdg ht (fun h => kt ?_) (fun h => kf ?_))
  · exact (nv_lcm_gt h1 h2).mp h
  · have h3 : ¬ (y < x) := fun z => h ((nv_lcm_gt h1 h2).mpr z)
    omega
theorem nv_lc_le (hC : CallFix p m c cc nL s args lw_T own) {x y : Nat} {off : Int} {tgt : Nat} (h1 : x < 2 ^ 63) (h2 : y < 2 ^ 63) (hd1 : decode cc pc = .ok (.lcmp, 1)) (hdg : decode cc (pc + 1) = .ok (.ifCond .le off, 3)) (ht : ((pc + 1 : Nat) : Int) + off = (tgt : Int)) (kt : x ≤ y → W p l e R s m args below meth c H locs cells slots Q (F0 m tgt ls rest)) (kf : y < x → W p l e R s m args below meth c H locs cells slots Q (F0 m (pc + 4) ls rest)) : W p l e R s m args below meth c H locs cells slots Q (F0 m pc ls (.long (lN y) :: .long (lN x) :: rest)) := by
  refine W.lcmp hC.1 hC.2.1 hd1 (lv_if_le hC.1 hC.2.1 hdg ht (fun h => kt ?_) (fun h => kf ?_))
  · exact (nv_lcm_le h1 h2).mp h
  · have h3 : ¬ (x ≤ y) := fun z => h ((nv_lcm_le h1 h2).mpr z)
    omega
theorem nv_lc_eq (hC : CallFix p m c cc nL s args lw_T own) {x y : Nat} {off : Int} {tgt : Nat} (h1 : x < 2 ^ 63) (h2 : y < 2 ^ 63) (hd1 : decode cc pc = .ok (.lcmp, 1)) (hdg : decode cc (pc + 1) = .ok (.ifCond .eq off, 3)) (ht : ((pc + 1 : Nat) : Int) + off = (tgt : Int)) (kt : x = y → W p l e R s m args below meth c H locs cells slots Q (F0 m tgt ls rest)) (kf : x ≠ y → W p l e R s m args below meth c H locs cells slots Q (F0 m (pc + 4) ls rest)) : W p l e R s m args below meth c H locs cells slots Q (F0 m pc ls (.long (lN y) :: .long (lN x) :: rest)) := by
  refine W.lcmp hC.1 hC.2.1 hd1 (lv_if_eq hC.1 hC.2.1 hdg ht (fun h => kt ?_) (fun h => kf ?_))
  · exact (nv_lcm_eq h1 h2).mp h
  · have h3 : ¬ (x = y) := fun z => h ((nv_lcm_eq h1 h2).mpr z)
    omega
theorem nv_lc_ne (hC : CallFix p m c cc nL s args lw_T own) {x y : Nat} {off : Int} {tgt : Nat} (h1 : x < 2 ^ 63) (h2 : y < 2 ^ 63) (hd1 : decode cc pc = .ok (.lcmp, 1)) (hdg : decode cc (pc + 1) = .ok (.ifCond .ne off, 3)) (ht : ((pc + 1 : Nat) : Int) + off = (tgt : Int)) (kt : x ≠ y → W p l e R s m args below meth c H locs cells slots Q (F0 m tgt ls rest)) (kf : x = y → W p l e R s m args below meth c H locs cells slots Q (F0 m (pc + 4) ls rest)) : W p l e R s m args below meth c H locs cells slots Q (F0 m pc ls (.long (lN y) :: .long (lN x) :: rest)) := by
  refine W.lcmp hC.1 hC.2.1 hd1 (lv_if_ne hC.1 hC.2.1 hdg ht (fun h => kt ?_) (fun h => kf ?_))
  · exact (nv_lcm_ne h1 h2).mp h
  · exact (nv_lcm_eq h1 h2).mp h
theorem nv_iandm (hC : CallFix p m c cc nL s args lw_T own) {x y : Nat} (hdg : decode cc pc = .ok (.iand, 1)) (k : W p l e R s m args below meth c H locs cells slots Q (F0 m (pc + 1) ls (.int (nI (x &&& y)) :: rest))) : W p l e R s m args below meth c H locs cells slots Q (F0 m pc ls (.int (nI y) :: .int (nI x) :: rest)) :=
  lv_iand hC.1 hC.2.1 hdg (by rw [wm_andN]; exact k)
theorem nv_ldiv (hC : CallFix p m c cc nL s args lw_T own) {x y : Nat} (hx : x < 2 ^ 63) (hy0 : 0 < y) (hy : y < 2 ^ 63) (hdg : decode cc pc = .ok (.ldiv, 1)) (k : W p l e R s m args below meth c H locs cells slots Q (F0 m (pc + 1) ls (.long (lN (x / y)) :: rest))) : W p l e R s m args below meth c H locs cells slots Q (F0 m pc ls (.long (lN y) :: .long (lN x) :: rest)) :=
  lv_ldiv hC.1 hC.2.1 hdg (fun h => absurd ((pk_lEQ hy (by decide)).mp (show lN y = lN 0 from h)) (by omega)) (by rw [pk_lDiv hx hy0 hy]; exact k)
theorem nv_lrem (hC : CallFix p m c cc nL s args lw_T own) {x y : Nat} (hx : x < 2 ^ 63) (hy0 : 0 < y) (hy : y < 2 ^ 63) (hdg : decode cc pc = .ok (.lrem, 1)) (k : W p l e R s m args below meth c H locs cells slots Q (F0 m (pc + 1) ls (.long (lN (x % y)) :: rest))) : W p l e R s m args below meth c H locs cells slots Q (F0 m pc ls (.long (lN y) :: .long (lN x) :: rest)) :=
  lv_lrem hC.1 hC.2.1 hdg (fun h => absurd ((pk_lEQ hy (by decide)).mp (show lN y = lN 0 from h)) (by omega)) (by rw [pk_lRem hx hy0 hy]; exact k)
/-- the higher word beside the lower -/
theorem nv_pair (hC : CallFix p m c cc nL s args lw_T own) {a b k : Nat} (hb : b < 2 ^ k) (h : a * 2 ^ k + b < 2 ^ 64) (hdg : decode cc pc = .ok (.lor, 1)) (kk : W p l e R s m args below meth c H locs cells slots Q (F0 m (pc + 1) ls (.long (lN (a * 2 ^ k + b)) :: rest))) : W p l e R s m args below meth c H locs cells slots Q (F0 m pc ls (.long (lN b) :: .long (lN (a * 2 ^ k)) :: rest)) :=
  lv_lor hC.1 hC.2.1 hdg (by rw [g_or (k := k) rfl hb h]; exact kk)
/-- an int, shifted into the higher word of a long -/
theorem nv_hi (hC : CallFix p m c cc nL s args lw_T own) {x : Int32} (h1 : decode cc pc = .ok (.i2l, 1)) (h2 : decode cc (pc + 1) = .ok (.bipush 32, 2)) (h3 : decode cc (pc + 3) = .ok (.lshl, 1)) (kk : W p l e R s m args below meth c H locs cells slots Q (F0 m (pc + 4) ls (.long (lN (wm_u x * 2 ^ 32)) :: rest))) : W p l e R s m args below meth c H locs cells slots Q (F0 m pc ls (.int x :: rest)) :=
  lv_i2l hC.1 hC.2.1 h1 rfl (lv_bipush (v := nI 32) hC.1 hC.2.1 h2 (by decide) (lv_lshl hC.1 hC.2.1 h3 (wm_hi x) kk))
end NvRows
