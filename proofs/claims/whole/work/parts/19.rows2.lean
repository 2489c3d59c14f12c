section WmRows2
variable {p : Program} {l : Launch} {e : Env} {R : Room} {s : State} {m : MethodId} {args : Array Value} {below : List Frame} {meth : Method} {c : Code} {H : Heap} {locs : List Loc} {cells slots : Nat} {Q : State → Prop} {cc : ByteArray} {pc : Nat} {ls : Array Slot} {rest : List Value} {own : String} {nL : Nat}
  {D : va_G} {ad : Nat → Nat} {cA cR : ClassId} {ln : Nat → Nat} {wd : Nat → Nat → Int32} {i : Nat} {f : Nat → Int32}
/-- rows where only row i has changed, to f -/
theorem wm_ald_s (hC : CallFix p m c cc nL s args lw_T own) (hK : va_K D classes (wm_ty cA cR) s) (hM : wm_M D ad cA cR s ln (va_up wd i f) H locs) {k : Nat} (hi : i < 19) (hk : k < 2050) (hdg : decode cc pc = .ok (.iaload, 1)) (kk : W p l e R s m args below meth c H locs cells slots Q (F0 m (pc + 1) ls (.int (f k) :: rest))) : W p l e R s m args below meth c H locs cells slots Q (F0 m pc ls (.int (nI k) :: .ref (ad (19 + i)) :: rest)) :=
  wm_ald hC hK hM hi hk hdg (by rw [va_up_self]; exact kk)
theorem wm_ald_o (hC : CallFix p m c cc nL s args lw_T own) (hK : va_K D classes (wm_ty cA cR) s) (hM : wm_M D ad cA cR s ln (va_up wd i f) H locs) {j k : Nat} (hj : j < 19) (hji : j ≠ i) (hk : k < 2050) (hdg : decode cc pc = .ok (.iaload, 1)) (kk : W p l e R s m args below meth c H locs cells slots Q (F0 m (pc + 1) ls (.int (wd j k) :: rest))) : W p l e R s m args below meth c H locs cells slots Q (F0 m pc ls (.int (nI k) :: .ref (ad (19 + j)) :: rest)) :=
  wm_ald hC hK hM hj hk hdg (by rw [va_up_ne _ _ hji]; exact kk)
theorem wm_ast_s (hC : CallFix p m c cc nL s args lw_T own) (hK : va_K D classes (wm_ty cA cR) s) (hM : wm_M D ad cA cR s ln (va_up wd i f) H locs) {k : Nat} {x : Int32} (hi : i < 19) (hk : k < 2050) (hdg : decode cc pc = .ok (.iastore, 1)) (kk : ∀ (H1 : Heap) (locs1 : List Loc), wm_M D ad cA cR s ln (va_up wd i (upd f k x)) H1 locs1 → W p l e R s m args below meth c H1 locs1 cells slots Q (F0 m (pc + 1) ls rest)) : W p l e R s m args below meth c H locs cells slots Q (F0 m pc ls (.int x :: .int (nI k) :: .ref (ad (19 + i)) :: rest)) :=
  wm_ast hC hK hM hi hk hdg (fun H1 locs1 h => kk H1 locs1 (by rw [va_up_self, wm_uu] at h; exact h))
/-- a lower part beside a higher one -/
theorem nv_por (hC : CallFix p m c cc nL s args lw_T own) {a b k : Nat} (ha : a < 2 ^ k) (h : a + b * 2 ^ k < 2 ^ 64) (hdg : decode cc pc = .ok (.lor, 1)) (kk : W p l e R s m args below meth c H locs cells slots Q (F0 m (pc + 1) ls (.long (lN (a + b * 2 ^ k)) :: rest))) : W p l e R s m args below meth c H locs cells slots Q (F0 m pc ls (.long (lN (b * 2 ^ k)) :: .long (lN a) :: rest)) :=
  lv_lor hC.1 hC.2.1 hdg (by rw [g_or' (k := k) rfl ha h]; exact kk)
end WmRows2
theorem nv_max0 {a b : Nat} (ha : a < 2 ^ 30) (hb : b < 2 ^ 30) : (if nI 0 < nI a - nI b then nI a - nI b else nI 0) = nI (a - b) := by
  rcases Nat.le_total b a with h | h
  · rw [pk_sub h]
    rcases Nat.eq_zero_or_pos (a - b) with z | z
    · rw [z, if_neg (by decide)]
    · rw [if_pos ((nI_ltI (by decide) (by omega)).mpr z)]
  · rcases Nat.eq_or_lt_of_le h with z | z
    · subst z
      rw [pk_sub (Nat.le_refl _), Nat.sub_self, if_neg (by decide)]
    · have h1 := pk_sneg hb z
      rw [if_neg (fun y : nI 0 < nI a - nI b => Int32.lt_irrefl (Int32.lt_trans y h1)), Nat.sub_eq_zero_of_le h]
theorem wm_off_upd' (f : Nat → Int32) (a k : Nat) (x : Int32) : wm_off (upd f (k + a) x) a = upd (wm_off f a) k x := by
  rw [Nat.add_comm k a]
  exact wm_off_upd f a k x
/-- the order of two numbers -/
def wm_ord (N M : Nat) : Int32 := if N < M then -1 else if N = M then 0 else 1
theorem wm_ord_lt {N M : Nat} (h : N < M) : wm_ord N M = -1 := if_pos h
theorem wm_ord_gt {N M : Nat} (h : M < N) : wm_ord N M = 1 := by
  unfold wm_ord
  rw [if_neg (by omega), if_neg (by omega)]
theorem wm_ord_eq {N M : Nat} (h : N = M) : wm_ord N M = 0 := by
  unfold wm_ord
  rw [if_neg (by omega), if_pos h]
/-- words below k are 0: the number begins there -/
theorem wm_v_lead {f : Nat → Int32} {w n : Nat} (h : ∀ j, j < w → f j = 0) : wm_v f (w + n) = 4294967296 ^ w * wm_v (wm_off f w) n := by
  have e : wm_v f w = 0 := by
    have := wm_v_z (f := f) (m := 0) w (fun k _ h2 => h k (by omega))
    rw [Nat.zero_add] at this
    exact this
  rw [wm_v_off, e, Nat.zero_add]
theorem wm_cnt (n : Nat) : 4294967296 ^ (n / 2 ^ 5) * 2 ^ (n % 2 ^ 5) = 2 ^ n := by
  rw [wm_p32, ← Nat.pow_add]
  congr 1
  omega
/-- a word of a number that is shifted right -/
theorem wm_shr_dig {N w o j : Nat} (ho : o < 32) : N / (4294967296 ^ w * 2 ^ o) / 4294967296 ^ j % 4294967296 = (N / 4294967296 ^ (j + w + 1) % 4294967296 * 4294967296 + N / 4294967296 ^ (j + w) % 4294967296) / 2 ^ o % 4294967296 := by
  have e1 : N / (4294967296 ^ w * 2 ^ o) / 4294967296 ^ j = N / 4294967296 ^ (j + w) / 2 ^ o := by
    rw [Nat.div_div_eq_div_mul, Nat.div_div_eq_div_mul, Nat.pow_add]
    congr 1
    rw [Nat.mul_comm (4294967296 ^ j), Nat.mul_assoc, Nat.mul_assoc, Nat.mul_comm (2 ^ o)]
  have e2 : N / 4294967296 ^ (j + w + 1) = N / 4294967296 ^ (j + w) / 4294967296 := by
    rw [Nat.div_div_eq_div_mul, Nat.pow_succ]
  rw [e1, e2]
  generalize N / 4294967296 ^ (j + w) = X
  have e3 : X / 4294967296 % 4294967296 * 4294967296 + X % 4294967296 = X % 18446744073709551616 := by omega
  rw [e3]
  have hp : 0 < 2 ^ o := Nat.pow_pos (by decide)
  have e4 : (18446744073709551616 : Nat) = 2 ^ o * (2 ^ (32 - o) * 4294967296) := by
    rw [← Nat.mul_assoc, ← Nat.pow_add, show o + (32 - o) = 32 by omega]
  have e5 := Nat.mod_add_div X 18446744073709551616
  have e6 : X / 2 ^ o = X % 18446744073709551616 / 2 ^ o + 2 ^ (32 - o) * 4294967296 * (X / 18446744073709551616) := by
    have e7 : X = X % 18446744073709551616 + 2 ^ o * (2 ^ (32 - o) * 4294967296 * (X / 18446744073709551616)) := by
      rw [← Nat.mul_assoc (2 ^ o), ← e4]
      exact e5.symm
    have e8 := Nat.add_mul_div_left (X % 18446744073709551616) (2 ^ (32 - o) * 4294967296 * (X / 18446744073709551616)) hp
    rw [← e7] at e8
    exact e8
  rw [e6, Nat.mul_comm (2 ^ (32 - o)), Nat.mul_assoc, Nat.add_mul_mod_self_left]
theorem wm_shr_lt {N n w o : Nat} (h : N < 4294967296 ^ n) : N / (4294967296 ^ w * 2 ^ o) < 4294967296 ^ (n - w) := by
  have h1 : N / (4294967296 ^ w * 2 ^ o) ≤ N / 4294967296 ^ w := by
    rw [← Nat.div_div_eq_div_mul]
    exact Nat.div_le_self _ _
  rcases Nat.le_total w n with z | z
  · have h2 : N / 4294967296 ^ w < 4294967296 ^ (n - w) := by
      rw [Nat.div_lt_iff_lt_mul (wm_pp w), ← Nat.pow_add, Nat.sub_add_cancel z]
      exact h
    omega
  · have h2 : 4294967296 ^ n ≤ 4294967296 ^ w := Nat.pow_le_pow_right (by decide) z
    rw [Nat.div_eq_of_lt (show N < 4294967296 ^ w by omega)] at h1
    have := wm_pp (n - w)
    omega
/-- pairs of words, one beside the other -/
def wm_pr (p : Nat) : Nat → Nat
  | 0 => 0
  | n + 1 => wm_pr p n + p * 4294967296 ^ (2 * n)
theorem wm_pr_s (p n : Nat) : wm_pr p (n + 1) = wm_pr p n + p * 4294967296 ^ (2 * n) := rfl
theorem wm_v_pair (f : Nat → Int32) (n : Nat) : wm_v f (n + 1 + 1) = wm_v f n + (wm_u (f n) + wm_u (f (n + 1)) * 4294967296) * 4294967296 ^ n := by
  rw [wm_v_s, wm_v_s, Nat.pow_succ, Nat.add_mul, Nat.mul_comm (4294967296 ^ n), ← Nat.mul_assoc, Nat.add_assoc]
theorem wm_c64 {p : Nat} (h : p < 2 ^ 64) : wm_u (nI p) + wm_u (nI (p / 4294967296)) * 4294967296 = p := by
  rw [wm_un, wm_un]
  omega
/-- a row that is read from place k on, while row i has been written below it only -/
theorem wm_rdge {wd : Nat → Nat → Int32} {i a k j : Nat} {f : Nat → Int32} (hf : ∀ j, k ≤ j → f j = wd i j) (hj : k ≤ j) : va_up wd i f a j = wd a j := by
  by_cases e : a = i
  · subst e
    rw [va_up_self]
    exact hf j hj
  · rw [va_up_ne _ _ e]
