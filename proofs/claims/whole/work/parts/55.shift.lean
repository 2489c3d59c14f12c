section AbsRow
variable {p : Program} {l : Launch} {e : Env} {R : Room} {s : State} {m : MethodId} {args : Array Value} {below : List Frame} {meth : Method} {c : Code} {H : Heap} {locs : List Loc} {cells slots : Nat} {Q : State → Prop} {cc : ByteArray} {pc : Nat} {ls : Array Slot} {rest : List Value} {own : String} {nL : Nat}
theorem nv_mabs (hC : CallFix p m c cc nL s args lw_T own) (hsz : ls.size = nL) {index : Nat} (hlink : Cond.methodLink own index Lib.Math.abs.name ∈ lw_T) (hstat : Cond.static Lib.Math.abs.name ∈ lw_T) (hini : Cond.initialized "java/lang/Math" ∈ lw_T) (hcode : Cond.code Lib.Math.abs.name Lib.Math.abs.code 1 (some .int) ∈ lw_T) (hfr : 1 ≤ R.frames) (hlo : (rest.map fun v => v.category).sum + 13 ≤ R.locals) {x : Int32} (hdg : decode cc pc = .ok (.invokestatic index, 3))
    (kk : W p l e R s m args below meth c H locs 0 0 Q (F0 m (pc + 3) ls (.int (if 0 ≤ x then x else 0 - x) :: rest))) : W p l e R s m args below meth c H locs 0 0 Q (F0 m pc ls (.int x :: rest)) :=
  va_mabs hC.1 hC.2.1 (by rw [hC.2.2.1, hsz]) hC.2.2.2.1 (hC.2.2.2.2 _ hlink) (hC.2.2.2.2 _ hstat) (hC.2.2.2.2 _ hini) (hC.2.2.2.2 _ hcode) hfr hlo (Nat.zero_le _) (Nat.zero_le _) hdg kk
end AbsRow
/-- a shift to the right by a small count -/
theorem sp_neg {n : Int32} (h1 : n ≤ 0) (h2 : -65536 < n) : ∃ k : Nat, k < 65536 ∧ (if 0 ≤ n then n else 0 - n) = nI k ∧ (-n.toInt).toNat = k := by
  have a1 : n.toInt ≤ 0 := by
    rw [Int32.le_iff_toInt_le] at h1
    exact h1
  have a2 : -65536 < n.toInt := by
    rw [Int32.lt_iff_toInt_lt] at h2
    exact h2
  refine ⟨(-n.toInt).toNat, by omega, ?_, rfl⟩
  have hz : (0 : Int32).toInt = 0 := by decide
  by_cases h : 0 ≤ n
  · rw [if_pos h]
    have a3 : 0 ≤ n.toInt := by
      rw [Int32.le_iff_toInt_le, hz] at h
      exact h
    have e : n.toInt = 0 := by omega
    rw [e]
    apply Int32.toInt_inj.mp
    rw [e]
    decide
  · rw [if_neg h]
    apply Int32.toInt_inj.mp
    rw [nI_toInt (by omega), Int32.toInt_sub, hz]
    have e : (0 - n.toInt).bmod (2 ^ 32) = -n.toInt := by
      rw [Int.bmod_eq_of_le (by omega) (by omega)]
      omega
    rw [e]
    omega
theorem sp_shift_neg {N : Nat → Nat} {d a k : Nat} {n r : Int32} {ln : Nat → Nat} {wd : Nat → Nat → Int32} (hd : d < 16) (ha : a < 16) (hle : n ≤ 0) (hk : (-n.toInt).toNat = k) (h : r = nI 1 ∧ wm_R (va_up N d (N a / 2 ^ k)) ln wd) : r = (sp_shift N (nI d) (nI a) n).1 ∧ wm_R (sp_shift N (nI d) (nI a) n).2 ln wd := by
  simp only [sp_shift, sp_ix_ok hd, sp_ix_ok ha]
  by_cases hn : n < 0
  · rw [if_pos hn, hk]
    exact h
  · have e : n = 0 := Int32.le_antisymm hle (Int32.not_lt.mp hn)
    rw [if_neg hn, e, sp_putv]
    rw [e] at hk
    have hk0 : k = 0 := by rw [← hk]; decide
    rw [hk0, Nat.pow_zero, Nat.div_one] at h
    have e2 : N a * 2 ^ (0 : Int32).toNatClampNeg = N a := by
      rw [show (0 : Int32).toNatClampNeg = 0 by decide, Nat.pow_zero, Nat.mul_one]
    have hx := h.2.2 d hd
    rw [va_up_self] at hx
    rw [e2, if_pos hx]
    exact h
theorem sp_div_far {A k : Nat} (hA : A < sp_L) (hk : 65536 ≤ k) : A / 2 ^ k = 0 := Nat.div_eq_of_lt (Nat.lt_of_lt_of_le hA (Nat.pow_le_pow_right (by decide) hk))
theorem sp_shift_far {N : Nat → Nat} {d a : Nat} {n r : Int32} {ln : Nat → Nat} {wd : Nat → Nat → Int32} (hd : d < 16) (ha : a < 16) (h45 : ¬ -65536 < n) (hA : N a < sp_L) (h : r = nI 1 ∧ wm_R (va_up N d (N a / 2 ^ 65536)) ln wd) : r = (sp_shift N (nI d) (nI a) n).1 ∧ wm_R (sp_shift N (nI d) (nI a) n).2 ln wd := by
  have hn : n < 0 := Int32.lt_of_le_of_lt (Int32.not_lt.mp h45) (by decide)
  simp only [sp_shift, sp_ix_ok hd, sp_ix_ok ha]
  have a2 : n.toInt ≤ -65536 := by
    have h2 := Int32.not_lt.mp h45
    rw [Int32.le_iff_toInt_le] at h2
    exact h2
  rw [if_pos hn, sp_div_far hA (by omega)]
  rw [sp_div_far hA (Nat.le_refl _)] at h
  exact h
theorem sp_shift_pos {N : Nat → Nat} {d a k : Nat} {r : Int32} {u : wm_St} (hd : d < 16) (ha : a < 16) (hk : k < 2 ^ 31) (h : r = (sp_putv N d (N a * 2 ^ k)).1 ∧ wm_R (sp_putv N d (N a * 2 ^ k)).2 u.1 u.2) : r = (sp_shift N (nI d) (nI a) (nI k)).1 ∧ wm_R (sp_shift N (nI d) (nI a) (nI k)).2 u.1 u.2 := by
  simp only [sp_shift, sp_ix_ok hd, sp_ix_ok ha]
  rw [if_neg (nI_pos hk), nI_clamp hk]
  exact h
theorem sp_shl_big {A k : Nat} (hA : 0 < A) (h : 65536 < wm_bl A + k) : sp_L ≤ A * 2 ^ k := by
  have h1 := Nat.mul_le_mul_right (2 ^ k) (wm_bl_ge hA)
  have h3 := wm_bl_pos hA
  rw [← Nat.pow_add] at h1
  have h2 : 2 ^ 65536 ≤ 2 ^ (wm_bl A - 1 + k) := Nat.pow_le_pow_right (by decide) (by omega)
  exact Nat.le_trans h2 h1
theorem sp_min {A f : Nat} (hA : A < sp_L) : A / 2 ^ (min f 65536) = A / 2 ^ f := by
  rcases Nat.le_total f 65536 with z | z
  · rw [Nat.min_eq_left z]
  · rw [Nat.min_eq_right z, sp_div_far hA z, sp_div_far hA (Nat.le_refl _)]
