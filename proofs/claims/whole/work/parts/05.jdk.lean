/-! ===== ones of a word ===== -/
/-- how many of the lowest k bits of N are 1 -/
def wm_on (N : Nat) : Nat → Nat
  | 0 => 0
  | k + 1 => wm_on N k + N / 2 ^ k % 2
theorem wm_on_s (N k : Nat) : wm_on N (k + 1) = wm_on N k + N / 2 ^ k % 2 := rfl
theorem wm_on_add (N m k : Nat) : wm_on N (m + k) = wm_on N m + wm_on (N / 2 ^ m) k := by
  induction k with
  | zero => rfl
  | succ k ih =>
    have e : wm_on N (m + (k + 1)) = wm_on N (m + k) + N / 2 ^ (m + k) % 2 := rfl
    rw [e, ih, wm_on_s, Nat.pow_add, Nat.div_div_eq_div_mul, Nat.add_assoc]
theorem wm_on_mod (N k : Nat) : wm_on (N % 2 ^ k) k = wm_on N k := by
  have h : ∀ j, j ≤ k → wm_on (N % 2 ^ k) j = wm_on N j := by
    intro j
    induction j with
    | zero => intro _; rfl
    | succ j ih =>
      intro hj
      rw [wm_on_s, wm_on_s, ih (by omega)]
      congr 1
      obtain ⟨d, rfl⟩ : ∃ d, k = j + 1 + d := ⟨k - (j + 1), by omega⟩
      rw [Nat.pow_add, Nat.pow_succ, Nat.mul_assoc, Nat.mod_mul_right_div_self, Nat.mod_mod_of_dvd _ ⟨2 ^ d, rfl⟩]
  exact h k (Nat.le_refl _)
theorem wm_on_0 (k : Nat) : wm_on 0 k = 0 := by
  induction k with
  | zero => rfl
  | succ k ih => rw [wm_on_s, ih, Nat.zero_div]
theorem wm_on_big {N m : Nat} (h : N < 2 ^ m) (k : Nat) : wm_on N (m + k) = wm_on N m := by
  rw [wm_on_add, Nat.div_eq_of_lt h, wm_on_0, Nat.add_zero]
theorem wm_on_le (N k : Nat) : wm_on N k ≤ k := by
  induction k with
  | zero => exact Nat.le_refl _
  | succ k ih =>
    rw [wm_on_s]
    have : N / 2 ^ k % 2 < 2 := Nat.mod_lt _ (by decide)
    omega
/-- ones of a number are the ones of its words -/
def wm_ons (f : Nat → Int32) : Nat → Nat
  | 0 => 0
  | n + 1 => wm_ons f n + wm_on (wm_u (f n)) 32
theorem wm_ons_v (f : Nat → Int32) (n : Nat) : wm_ons f n = wm_on (wm_v f n) (32 * n) := by
  induction n with
  | zero => rfl
  | succ n ih =>
    have e : wm_ons f (n + 1) = wm_ons f n + wm_on (wm_u (f n)) 32 := rfl
    have hp := wm_pp n
    have h1 := wm_v_lt f n
    rw [e, ih, show 32 * (n + 1) = 32 * n + 32 by omega, wm_on_add, ← wm_p32, wm_v_s, ← wm_on_mod (wm_v f n + _), ← wm_p32, Nat.mul_comm (wm_u (f n)), Nat.add_mul_mod_self_left, Nat.mod_eq_of_lt h1, Nat.add_mul_div_left _ _ hp, Nat.div_eq_of_lt h1, Nat.zero_add]
/-! ===== Integer.bitCount, over numbers ===== -/
theorem wm_and8 {a b : Nat} : a &&& b = (a % 256 &&& b % 256) + 256 * (a / 256 &&& b / 256) := by
  have h1 : (a &&& b) % 2 ^ 8 = (a % 2 ^ 8) &&& (b % 2 ^ 8) := Nat.and_mod_two_pow
  have h2 : (a &&& b) / 2 ^ 8 = a / 2 ^ 8 &&& b / 2 ^ 8 := Nat.and_div_two_pow
  have h3 := Nat.mod_add_div (a &&& b) 256
  rw [show (2 : Nat) ^ 8 = 256 by decide] at h1 h2
  rw [h1, h2] at h3
  exact h3.symm
/-- a mask that is the same in all bytes -/
theorem wm_mask4 {b0 b1 b2 b3 k : Nat} (h0 : b0 < 256) (h1 : b1 < 256) (h2 : b2 < 256) (h3 : b3 < 256) (hk : k < 256) : (b0 + 256 * (b1 + 256 * (b2 + 256 * b3))) &&& (k + 256 * (k + 256 * (k + 256 * k))) = (b0 &&& k) + 256 * ((b1 &&& k) + 256 * ((b2 &&& k) + 256 * (b3 &&& k))) := by
  have m : ∀ x y : Nat, x < 256 → (x + 256 * y) % 256 = x := fun x y h => by omega
  have d : ∀ x y : Nat, x < 256 → (x + 256 * y) / 256 = y := fun x y h => by omega
  rw [wm_and8, m _ _ h0, d _ _ h0, m _ _ hk, d _ _ hk, wm_and8 (a := b1 + _), m _ _ h1, d _ _ h1, m _ _ hk, d _ _ hk, wm_and8 (a := b2 + _), m _ _ h2, d _ _ h2, m _ _ hk, d _ _ hk]
def wm_bc1 (b : Nat) : Nat := b - (b / 2 &&& 85)
def wm_bc2 (b : Nat) : Nat := (wm_bc1 b &&& 51) + (wm_bc1 b / 4 &&& 51)
def wm_bc3 (b : Nat) : Nat := (wm_bc2 b + wm_bc2 b / 16) &&& 15
theorem wm_bc_1 : ∀ b, b < 256 → ∀ x, x < 2 → ((b / 2 + 128 * x) &&& 85) = (b / 2 &&& 85) ∧ (b / 2 &&& 85) ≤ b := by decide +kernel
theorem wm_bc_2 : ∀ b, b < 256 → ∀ x, x < 4 → ((wm_bc1 b / 4 + 64 * x) &&& 51) = (wm_bc1 b / 4 &&& 51) ∧ wm_bc1 b < 256 ∧ wm_bc2 b < 256 := by decide +kernel
theorem wm_bc_3 : ∀ b, b < 256 → ∀ x, x < 16 → ((wm_bc2 b + wm_bc2 b / 16 + 16 * x) &&& 15) = wm_bc3 b ∧ wm_bc2 b + wm_bc2 b / 16 + 16 * x < 512 ∧ wm_bc2 b ≤ 68 := by decide +kernel
theorem wm_bc_4 : ∀ b, b < 256 → wm_bc3 b = wm_on b 8 := by decide +kernel
