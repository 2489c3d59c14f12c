theorem md_kn {N : Nat → Nat} {d X : Nat} {r : Int32} (h : r = (sp_putv N d X).1) : narrow .boolean (.int r) = .int r := by
  have e : r = nI 1 ∨ r = nI 0 := by
    rw [h]
    unfold sp_putv
    split
    · exact Or.inl rfl
    · exact Or.inr rfl
  clear h
  rcases e with e | e <;> (subst e; rfl)
theorem mv_cy0 {V c A B P : Nat} (h : V + c * (P * 65536) = A + B) (hA : A < P) (hB : B < P) : V = A + B := by
  rcases Nat.eq_zero_or_pos c with z | z
  · rw [z, Nat.zero_mul] at h; omega
  · have : 1 * (P * 65536) ≤ c * (P * 65536) := Nat.mul_le_mul_right _ z
    omega
theorem md_lt {g : Nat → Nat} {cap n X : Nat} (h : mr_r cap g n X) (hn : n ≤ 4096) : X < 65536 ^ 4096 := Nat.lt_of_lt_of_le (mr_lt h) (Nat.pow_le_pow_right (by decide) hn)
/-! word -/
theorem mv_word {g : Nat → Nat} {n k X : Nat} (h : mr_r 4096 g n X) (hk : k < 2048) : X / 4294967296 ^ k % 4294967296 = g (2 * k) + g (2 * k + 1) * 2 ^ 16 := by
  have e : mv_v g 4096 = X := mr_v h h.1 (Nat.le_refl _)
  have e1 : (4294967296 : Nat) ^ k = 65536 ^ (2 * k) := by rw [Nat.pow_mul]
  have h1 := mv_dig (n := 4096) h.2.1 (show 2 * k < 4096 by omega)
  have h2 := mv_dig (n := 4096) h.2.1 (show 2 * k + 1 < 4096 by omega)
  rw [e] at h1 h2
  rw [Nat.pow_succ, ← Nat.div_div_eq_div_mul] at h2
  rw [e1, ← h1, ← h2]
  generalize X / 65536 ^ (2 * k) = y
  omega
theorem mv_word0 {k X : Nat} (h : X < sp_L) (hk : 2048 ≤ k) : X / 4294967296 ^ k % 4294967296 = 0 := by
  rw [sp_L32] at h
  rw [Nat.div_eq_of_lt (Nat.lt_of_lt_of_le h (Nat.pow_le_pow_right (by decide) hk))]
/-! bits -/
theorem mv_bl {g : Nat → Nat} {cap k X : Nat} (h : mr_r cap g (k + 1) X) : wm_bl X = 16 * k + wm_bl (g k) := by
  obtain ⟨h1, h2, h3, h4, h5⟩ := h
  have hg : 0 < g k := Nat.pos_of_ne_zero (h4 (by omega))
  rw [← h5, mv_s, show (65536 : Nat) ^ k = 2 ^ (16 * k) by rw [Nat.pow_mul], Nat.add_comm (mv_v g k), wm_bl_shl hg, Nat.add_comm]
  rw [Nat.pow_mul]
  exact mv_lt (fun i hi => h2 i (by omega))
theorem wm_bl_half {d : Nat} (h : 0 < d) : wm_bl d = wm_bl (d / 2) + 1 := by
  rcases Nat.lt_or_ge d 2 with z | z
  · have : d = 1 := by omega
    subst this
    decide
  · exact wm_bl_div (k := 1) z
/-! ones -/
theorem wm_on_half (d : Nat) : wm_on d 16 = d % 2 + wm_on (d / 2) 15 := by
  have h := wm_on_add d 1 15
  have e : wm_on d 1 = d % 2 := by
    show 0 + d / 2 ^ 0 % 2 = d % 2
    rw [Nat.zero_add, Nat.pow_zero, Nat.div_one]
  rw [e, Nat.pow_one] at h
  exact h
theorem wm_on_step {d : Nat} (h : d < 65536) : wm_on d 16 = d % 2 + wm_on (d / 2) 16 := by
  rw [wm_on_half, wm_on_big (N := d / 2) (m := 15) (by omega) 1]
theorem mv_on {f : Nat → Nat} {k : Nat} (hd : mv_d f (k + 1)) : wm_on (mv_v f (k + 1)) (16 * (k + 1)) = wm_on (mv_v f k) (16 * k) + wm_on (f k) 16 := by
  have e : (65536 : Nat) ^ k = 2 ^ (16 * k) := by rw [Nat.pow_mul]
  have h1 : mv_v f k < 2 ^ (16 * k) := by rw [← e]; exact mv_lt (fun i hi => hd i (by omega))
  rw [Nat.mul_add, Nat.mul_one, wm_on_add, ← wm_on_mod, mv_s, e, Nat.add_mul_mod_self_right, Nat.mod_eq_of_lt h1, Nat.add_mul_div_right _ _ (Nat.two_pow_pos _), Nat.div_eq_of_lt h1, Nat.zero_add]
theorem mv_on_end {n X : Nat} (h : X < 2 ^ (16 * n)) (hn : n ≤ 4096) : wm_on X (16 * n) = wm_on X 65600 := by
  have h2 := wm_on_big h (65600 - 16 * n)
  rw [show 16 * n + (65600 - 16 * n) = 65600 by omega] at h2
  exact h2.symm
/-! rest -/
theorem mv_rest {X m y d : Nat} (hd : X / 65536 ^ y % 65536 = d) : (X / 65536 ^ (y + 1) % m * 65536 + d) % m = X / 65536 ^ y % m := by
  rw [Nat.pow_succ, ← Nat.div_div_eq_div_mul]
  have e : X / 65536 ^ y = X / 65536 ^ y / 65536 * 65536 + d := by omega
  conv => rhs; rw [e]
  rw [Nat.add_mod, Nat.mod_mul_mod, ← Nat.add_mod]
/-! lowest -/
theorem mv_low {X i : Nat} (h : X % 2 ^ i = 0) (hb : X / 2 ^ i % 2 = 0) : X % 2 ^ (i + 1) = 0 := by rw [Nat.mod_pow_succ, h, hb, Nat.mul_zero]
theorem mv_low_lt {X i n : Nat} (h : X % 2 ^ i = 0) (h0 : X ≠ 0) (hX : X < 2 ^ n) : i < n := by
  rcases Nat.lt_or_ge i n with z | z
  · exact z
  · rw [Nat.mod_eq_of_lt (Nat.lt_of_lt_of_le hX (Nat.pow_le_pow_right (by decide) z))] at h
    exact absurd h h0
theorem md_small {v k d : Nat} (hv : v < k) (hk : k < 2 ^ 31) (hd : d < 65536) : v * 65536 + d < 2 ^ 63 := by omega
