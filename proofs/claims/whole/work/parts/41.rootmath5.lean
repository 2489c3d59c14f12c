theorem wm_rt_norm {N cnt hf : Nat} (hN : 0 < N) (hb : wm_bl N ≤ 64 * cnt) (hh : hf = (64 * cnt - wm_bl N) / 2) : N * 2 ^ (2 * hf) < 4294967296 ^ (2 * cnt) ∧ 4294967296 ^ (2 * cnt) ≤ 4 * (N * 2 ^ (2 * hf)) := by
  have h1 := wm_bl_lt N
  have h2 := wm_bl_ge hN
  have h3 := wm_bl_pos hN
  have hp : 0 < 2 ^ (2 * hf) := Nat.pow_pos (by decide)
  rw [wm_p32]
  constructor
  · have a1 : N * 2 ^ (2 * hf) < 2 ^ wm_bl N * 2 ^ (2 * hf) := Nat.mul_lt_mul_of_pos_right h1 hp
    rw [← Nat.pow_add] at a1
    exact Nat.lt_of_lt_of_le a1 (Nat.pow_le_pow_right (by decide) (by omega))
  · have a1 : 2 ^ (wm_bl N - 1) * 2 ^ (2 * hf) ≤ N * 2 ^ (2 * hf) := Nat.mul_le_mul_right _ h2
    have a2 : 2 ^ (32 * (2 * cnt)) ≤ 4 * (2 ^ (wm_bl N - 1) * 2 ^ (2 * hf)) := by
      rw [← Nat.pow_add, show (4 : Nat) = 2 ^ 2 by decide, ← Nat.pow_add]
      exact Nat.pow_le_pow_right (by decide) (by omega)
    omega
theorem wm_rep_z {f : Nat → Int32} {n : Nat} (h : wm_rep f n 0) : ∀ k, k < 2050 → f k = 0 := by
  have e := (wm_rep_0 h).mpr rfl
  subst e
  exact fun k hk => h.2.1 k (Nat.zero_le _) hk
theorem wm_bl_words {f : Nat → Int32} {n N : Nat} (h : wm_rep f (n + 1) N) : 32 * n < wm_bl N := by
  have h1 := wm_rep_ge h
  rcases Nat.lt_or_ge (32 * n) (wm_bl N) with z | z
  · exact z
  · have := wm_bl_le.mp z
    rw [← wm_p32] at this
    omega
theorem wm_sq_lt {A s : Nat} (h1 : s * s ≤ A) (h2 : A - s * s ≤ 2 * s) : A < (s + 1) * (s + 1) := by
  rw [Nat.add_mul, Nat.one_mul, Nat.mul_add, Nat.mul_one]
  omega
