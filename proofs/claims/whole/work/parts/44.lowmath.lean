/-- the lowest 1 of a number, out of its lowest word that isn't 0 -/
theorem wm_low_at {f : Nat → Int32} {n N k t : Nat} (h : wm_rep f n N) (hk : k < n) (hz : ∀ q, q < k → f q = 0) (ht : t < 32) (t1 : wm_u (f k) % 2 ^ t = 0) (t2 : wm_u (f k) / 2 ^ t % 2 = 1) : N % 2 ^ (32 * k + t) = 0 ∧ N / 2 ^ (32 * k + t) % 2 = 1 := by
  obtain ⟨d, rfl⟩ : ∃ d, n = k + (d + 1) := ⟨n - k - 1, by omega⟩
  have e : wm_v f (k + (d + 1)) = N := h.2.2.2
  rw [wm_v_lead hz, wm_v_first] at e
  have hp := wm_pp k
  have hp2 : 0 < 2 ^ t := Nat.pow_pos (by decide)
  obtain ⟨M, hM⟩ : ∃ z, z = wm_u (f k) + 4294967296 * wm_v (wm_off f (k + 1)) d := ⟨_, rfl⟩
  rw [← hM] at e
  have e4 : (4294967296 : Nat) = 2 ^ t * (2 * 2 ^ (31 - t)) := by
    rw [← Nat.mul_assoc, Nat.mul_comm (2 ^ t), Nat.mul_assoc, ← Nat.pow_add, show t + (31 - t) = 31 by omega]
  have m0 : M = wm_u (f k) + 2 ^ t * (2 * (2 ^ (31 - t) * wm_v (wm_off f (k + 1)) d)) := by
    rw [hM, e4, Nat.mul_assoc, Nat.mul_assoc]
  have m1 : M % 2 ^ t = 0 := by rw [m0, Nat.add_mul_mod_self_left]; exact t1
  have m2 : M / 2 ^ t % 2 = 1 := by rw [m0, Nat.add_mul_div_left _ _ hp2, Nat.add_mul_mod_self_left]; exact t2
  have e5 : 2 ^ (32 * k + t) = 4294967296 ^ k * 2 ^ t := by rw [wm_p32, Nat.pow_add]
  rw [e5, ← e]
  constructor
  · rw [Nat.mul_mod_mul_left, m1, Nat.mul_zero]
  · rw [Nat.mul_div_mul_left _ _ hp]
    exact m2
