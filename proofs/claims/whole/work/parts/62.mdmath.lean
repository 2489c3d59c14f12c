theorem md_lt0 {k : Nat} (h : k < 65536) : k < md_n 0 := h
theorem md_lt1 {k : Nat} (h : k < 16) : k < md_n 1 := h
theorem md_lt2 {j k : Nat} (h1 : j ≠ 0) (h2 : j ≠ 1) (h : k < 8200) : k < md_n j := by
  unfold md_n
  rw [if_neg h1, if_neg h2]
  exact h
theorem md_ltk {j k : Nat} (hj : 2 ≤ j ∧ j < 5) (h : k < 8200) : k < md_n j := md_lt2 (by omega) (by omega) h
section MdShr
variable {p : Program} {l : Launch} {e : Env} {R : Room} {s : State} {m : MethodId} {args : Array Value} {below : List Frame} {meth : Method} {c : Code} {H : Heap} {locs : List Loc} {cells slots : Nat} {Q : State → Prop} {cc : ByteArray} {pc : Nat} {ls : Array Slot} {rest : List Value} {own : String} {nL : Nat}
theorem nv_ishr (hC : CallFix p m c cc nL s args lw_T own) {n k : Nat} (hn : n < 2 ^ 31) (hk : k < 32) (hdg : decode cc pc = .ok (.ishr, 1)) (kk : W p l e R s m args below meth c H locs cells slots Q (F0 m (pc + 1) ls (.int (nI (n / 2 ^ k)) :: rest))) : W p l e R s m args below meth c H locs cells slots Q (F0 m pc ls (.int (nI k) :: .int (nI n) :: rest)) :=
  lv_ishr hC.1 hC.2.1 hdg (by rw [pk_shrN hn _ k (wm_s_l k hk)]; exact kk)
end MdShr
/-! ===== rows of digits as numbers ===== -/
def mv_v (f : Nat → Nat) : Nat → Nat
  | 0 => 0
  | n + 1 => mv_v f n + f n * 65536 ^ n
theorem mv_0 (f : Nat → Nat) : mv_v f 0 = 0 := rfl
theorem mv_s (f : Nat → Nat) (n : Nat) : mv_v f (n + 1) = mv_v f n + f n * 65536 ^ n := rfl
theorem mv_pp (n : Nat) : 0 < 65536 ^ n := Nat.pow_pos (by decide)
def mv_d (f : Nat → Nat) (n : Nat) : Prop := ∀ i, i < n → f i < 65536
theorem mv_lt {f : Nat → Nat} {n : Nat} (h : mv_d f n) : mv_v f n < 65536 ^ n := by
  induction n with
  | zero => rw [mv_0]; exact mv_pp 0
  | succ n ih =>
    rw [mv_s, Nat.pow_succ]
    have h1 := ih (fun i hi => h i (by omega))
    have h2 : (f n + 1) * 65536 ^ n ≤ 65536 * 65536 ^ n := Nat.mul_le_mul_right _ (h n (by omega))
    rw [Nat.add_mul, Nat.one_mul] at h2
    omega
theorem mv_congr {f g : Nat → Nat} {n : Nat} (h : ∀ k, k < n → f k = g k) : mv_v f n = mv_v g n := by
  induction n with
  | zero => rfl
  | succ n ih => rw [mv_s, mv_s, ih (fun k hk => h k (by omega)), h n (by omega)]
def mv_off (f : Nat → Nat) (a : Nat) : Nat → Nat := fun k => f (a + k)
theorem mv_app (f : Nat → Nat) (m n : Nat) : mv_v f (m + n) = mv_v f m + 65536 ^ m * mv_v (mv_off f m) n := by
  induction n with
  | zero => rw [mv_0, Nat.mul_zero, Nat.add_zero, Nat.add_zero]
  | succ n ih =>
    have e : mv_v f (m + (n + 1)) = mv_v f (m + n) + f (m + n) * 65536 ^ (m + n) := rfl
    have e2 : mv_off f m n = f (m + n) := rfl
    rw [e, ih, mv_s, e2, Nat.mul_add, Nat.pow_add, Nat.mul_left_comm (65536 ^ m) (f (m + n)), Nat.add_assoc]
theorem mv_z {f : Nat → Nat} {m n : Nat} (hmn : m ≤ n) (h : ∀ k, m ≤ k → k < n → f k = 0) : mv_v f n = mv_v f m := by
  obtain ⟨d, rfl⟩ : ∃ d, n = m + d := ⟨n - m, by omega⟩
  induction d with
  | zero => rfl
  | succ d ih =>
    have e : mv_v f (m + (d + 1)) = mv_v f (m + d) + f (m + d) * 65536 ^ (m + d) := rfl
    rw [e, ih (by omega) (fun k h1 h2 => h k h1 (by omega)), h (m + d) (by omega) (by omega), Nat.zero_mul, Nat.add_zero]
theorem mv_up {f : Nat → Nat} {n k x : Nat} (h : n ≤ k) : mv_v (va_up f k x) n = mv_v f n := mv_congr (fun j hj => va_up_ne _ _ (by omega))
theorem mv_ups {f : Nat → Nat} {n x : Nat} : mv_v (va_up f n x) (n + 1) = mv_v f n + x * 65536 ^ n := by
  rw [mv_s, mv_up (Nat.le_refl n), va_up_self]
theorem mv_step (V c d S P : Nat) (h : V + c * P = S) : (V + (c + d) % 65536 * P) + (c + d) / 65536 * (P * 65536) = S + d * P := by
  have e : (c + d) % 65536 * P + (c + d) / 65536 * (P * 65536) = (c + d) * P := by
    rw [Nat.mul_comm P, ← Nat.mul_assoc, ← Nat.add_mul, Nat.mul_comm ((c + d) / 65536), Nat.mod_add_div]
  rw [Nat.add_assoc, e, Nat.add_mul, ← h]
  omega
theorem mv_chain {f : Nat → Nat} {k c d S : Nat} (h : mv_v f k + c * 65536 ^ k = S) : mv_v (va_up f k ((c + d) % 65536)) (k + 1) + (c + d) / 65536 * 65536 ^ (k + 1) = S + d * 65536 ^ k := by
  rw [mv_ups, Nat.pow_succ]
  exact mv_step _ _ _ _ _ h
theorem mv_dig {f : Nat → Nat} {k n : Nat} (hd : mv_d f n) (hk : k < n) : mv_v f n / 65536 ^ k % 65536 = f k := by
  obtain ⟨d, rfl⟩ : ∃ d, n = (k + 1) + d := ⟨n - (k + 1), by omega⟩
  have h1 : mv_v f k < 65536 ^ k := mv_lt (fun i hi => hd i (by omega))
  have h2 := hd k (by omega)
  rw [mv_app f (k + 1) d, mv_s, Nat.pow_succ, Nat.mul_comm (f k), Nat.mul_assoc, Nat.add_assoc, ← Nat.mul_add, Nat.add_mul_div_left _ _ (mv_pp k), Nat.div_eq_of_lt h1, Nat.zero_add, Nat.add_mul_mod_self_left, Nat.mod_eq_of_lt h2]
theorem mv_of_dig {g : Nat → Nat} {n M : Nat} (h : ∀ k, k < n → g k = M / 65536 ^ k % 65536) : mv_v g n = M % 65536 ^ n := by
  induction n with
  | zero => rw [mv_0, Nat.pow_zero, Nat.mod_one]
  | succ n ih => rw [mv_s, ih (fun k hk => h k (by omega)), h n (by omega), Nat.mod_pow_succ, Nat.mul_comm (M / 65536 ^ n % 65536)]
theorem mv_cmp {f g : Nat → Nat} {i n : Nat} (hd : mv_d f n) (hi : i < n) (h : ∀ k, i < k → k < n → f k = g k) (hu : f i < g i) : mv_v f n < mv_v g n := by
  obtain ⟨d, rfl⟩ : ∃ d, n = (i + 1) + d := ⟨n - (i + 1), by omega⟩
  have e : mv_v (mv_off f (i + 1)) d = mv_v (mv_off g (i + 1)) d := mv_congr (fun k hk => h _ (by omega) (by omega))
  rw [mv_app f, mv_app g, e, mv_s, mv_s]
  have h1 : mv_v f i < 65536 ^ i := mv_lt (fun k hk => hd k (by omega))
  have h2 : (f i + 1) * 65536 ^ i ≤ g i * 65536 ^ i := Nat.mul_le_mul_right _ hu
  rw [Nat.add_mul, Nat.one_mul] at h2
  omega
/-! ===== trim ===== -/
def mv_top (g : Nat → Nat) : Nat → Nat
  | 0 => 0
  | n + 1 => if g n = 0 then mv_top g n else n + 1
theorem mv_top_z {g : Nat → Nat} {n : Nat} (h : g n = 0) : mv_top g (n + 1) = mv_top g n := if_pos h
theorem mv_top_n {g : Nat → Nat} {n : Nat} (h : ¬ g n = 0) : mv_top g (n + 1) = n + 1 := if_neg h
theorem mv_top_spec (g : Nat → Nat) (n : Nat) : mv_top g n ≤ n ∧ (∀ k, mv_top g n ≤ k → k < n → g k = 0) ∧ (0 < mv_top g n → g (mv_top g n - 1) ≠ 0) := by
  induction n with
  | zero => exact ⟨Nat.le_refl _, fun k _ h => absurd h (by omega), fun h => absurd h (by show ¬ 0 < 0; omega)⟩
  | succ n ih =>
    by_cases h : g n = 0
    · rw [mv_top_z h]
      refine ⟨by omega, fun k h1 h2 => ?_, ih.2.2⟩
      by_cases e : k = n
      · rw [e, h]
      · exact ih.2.1 k h1 (by omega)
    · rw [mv_top_n h]
      exact ⟨Nat.le_refl _, fun k h1 h2 => absurd h1 (by omega), fun _ => h⟩
/-! ===== a number in a row of digits: cap places, n used ===== -/
def mr_r (cap : Nat) (f : Nat → Nat) (n N : Nat) : Prop := n ≤ cap ∧ mv_d f cap ∧ (∀ k, n ≤ k → k < cap → f k = 0) ∧ (0 < n → f (n - 1) ≠ 0) ∧ mv_v f n = N
theorem mr_v {cap : Nat} {f : Nat → Nat} {n N k : Nat} (h : mr_r cap f n N) (hk : n ≤ k) (h2 : k ≤ cap) : mv_v f k = N := by
  rw [mv_z hk (fun j h3 h4 => h.2.2.1 j h3 (by omega)), h.2.2.2.2]
theorem mr_lt {cap : Nat} {f : Nat → Nat} {n N : Nat} (h : mr_r cap f n N) : N < 65536 ^ n := by
  rw [← h.2.2.2.2]
  have := h.1
  exact mv_lt (fun i hi => h.2.1 i (by omega))
theorem mr_ge {cap : Nat} {f : Nat → Nat} {n N : Nat} (h : mr_r cap f (n + 1) N) : 65536 ^ n ≤ N := by
  obtain ⟨-, -, -, h3, h4⟩ := h
  rw [← h4, mv_s]
  have h5 : 1 ≤ f n := Nat.pos_of_ne_zero (h3 (by omega))
  have h6 : 1 * 65536 ^ n ≤ f n * 65536 ^ n := Nat.mul_le_mul_right _ h5
  omega
theorem mr_le {cap : Nat} {f : Nat → Nat} {n N k : Nat} (h : mr_r cap f n N) (hk : N < 65536 ^ k) : n ≤ k := by
  rcases Nat.eq_zero_or_pos n with z | z
  · omega
  · obtain ⟨j, rfl⟩ : ∃ j, n = j + 1 := ⟨n - 1, by omega⟩
    have h1 := mr_ge h
    have h3 : j < k := (Nat.pow_lt_pow_iff_right (by decide)).mp (Nat.lt_of_le_of_lt h1 hk)
    omega
theorem mr_0 {cap : Nat} {f : Nat → Nat} {n N : Nat} (h : mr_r cap f n N) : n = 0 ↔ N = 0 := by
  constructor
  · intro z
    subst z
    rw [← h.2.2.2.2]
    rfl
  · intro z
    subst z
    have := mr_le (k := 0) h (by decide)
    omega
theorem mr_cmp {cap cap2 : Nat} {f g : Nat → Nat} {n m N M : Nat} (h : mr_r cap f n N) (h2 : mr_r cap2 g m M) (hl : n < m) : N < M := by
  obtain ⟨j, rfl⟩ : ∃ j, m = j + 1 := ⟨m - 1, by omega⟩
  have h3 := mr_lt h
  have h4 := mr_ge h2
  have h5 : 65536 ^ n ≤ 65536 ^ j := Nat.pow_le_pow_right (by decide) (by omega)
  omega
/-- what trim says of a row -/
theorem mr_of {cap : Nat} {f : Nat → Nat} {n : Nat} (hn : n ≤ cap) (hd : mv_d f cap) (hz : ∀ k, n ≤ k → k < cap → f k = 0) : mr_r cap f (mv_top f n) (mv_v f n) := by
  obtain ⟨h1, h2, h3⟩ := mv_top_spec f n
  refine ⟨by omega, hd, fun k k1 k2 => ?_, h3, (mv_z h1 (fun k k1 k2 => h2 k k1 k2)).symm⟩
  by_cases e : k < n
  · exact h2 k k1 e
  · exact hz k (by omega) k2
theorem mr_L : sp_L = 65536 ^ 4096 := by
  have e : (65536 : Nat) ^ 4096 = 2 ^ (16 * 4096) := by rw [Nat.pow_mul]
  rw [e]
  rfl
