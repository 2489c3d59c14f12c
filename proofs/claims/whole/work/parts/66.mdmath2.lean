theorem mv_subst {V U S c P a b d x : Nat} (h : V + U = S + c * P) (hd : d + b + c = x * 65536 + a) : (V + d * P) + (U + b * P) = (S + a * P) + x * (P * 65536) := by
  have e : (d + b + c) * P = (x * 65536 + a) * P := by rw [hd]
  rw [Nat.add_mul, Nat.add_mul, Nat.add_mul, Nat.mul_assoc, Nat.mul_comm 65536 P] at e
  omega
theorem mv_less {V A B c P : Nat} (h : V + B = A + c * P) (hV : V < P) (hle : B ≤ A) (hc : c ≤ 1) : V = A - B := by
  rcases Nat.eq_zero_or_pos c with z | z
  · rw [z, Nat.zero_mul] at h; omega
  · have : c = 1 := by omega
    rw [this, Nat.one_mul] at h; omega
theorem mv_upd_d {f : Nat → Nat} {cap k v : Nat} (hd : ∀ q, q < cap → f q < 65536) (hv : v < 65536) : ∀ q, q < cap → va_up f k v q < 65536 := by
  intro q hq
  by_cases e : q = k
  · rw [e, va_up_self]; exact hv
  · rw [va_up_ne _ _ e]; exact hd q hq
/-- halving -/
def mv_h (f : Nat → Nat) : Nat → Nat := fun q => f q / 2 + f (q + 1) % 2 * 2 ^ 15
theorem mv_h_v (f : Nat → Nat) (n : Nat) : 2 * mv_v (mv_h f) n + f 0 % 2 = mv_v f n + f n % 2 * 65536 ^ n := by
  induction n with
  | zero => rw [mv_0, mv_0, Nat.pow_zero]; omega
  | succ n ih =>
    rw [mv_s, mv_s, Nat.mul_add]
    have e1 : 2 * (mv_h f n * 65536 ^ n) = 2 * (f n / 2) * 65536 ^ n + f (n + 1) % 2 * 65536 ^ (n + 1) := by
      show 2 * ((f n / 2 + f (n + 1) % 2 * 32768) * 65536 ^ n) = _
      rw [Nat.add_mul, Nat.mul_add, Nat.mul_assoc (f (n + 1) % 2), Nat.pow_succ, Nat.mul_assoc 2, Nat.mul_left_comm 2 (f (n + 1) % 2)]
      exact congrArg (fun z => 2 * (f n / 2 * 65536 ^ n) + f (n + 1) % 2 * z) (by omega)
    have e2 : f n % 2 * 65536 ^ n + 2 * (f n / 2) * 65536 ^ n = f n * 65536 ^ n := by rw [← Nat.add_mul, Nat.mod_add_div]
    omega
theorem mr_half {f g : Nat → Nat} {n A : Nat} (h : mr_r 8200 f n A) (hn : n < 8200) (hg : ∀ q, q < n → g q = mv_h f q) : mv_v g n = A / 2 := by
  have e := mv_h_v f n
  rw [h.2.2.1 n (Nat.le_refl _) hn, h.2.2.2.2, ← mv_congr hg] at e
  omega
