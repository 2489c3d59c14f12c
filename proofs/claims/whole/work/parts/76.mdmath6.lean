theorem md_even {y : Nat} (h : y % 2 = 0) (hy : y < 65536) : nI y &&& nI 65534 = nI y := by
  obtain ⟨m, rfl⟩ : ∃ m, y = m * 2 ^ 1 := ⟨y / 2, by omega⟩
  apply Int32.toBitVec_inj.mp
  apply BitVec.eq_of_toNat_eq
  show (BitVec.ofNat 32 (m * 2 ^ 1) &&& BitVec.ofNat 32 65534).toNat = (BitVec.ofNat 32 (m * 2 ^ 1)).toNat
  rw [BitVec.toNat_and, BitVec.toNat_ofNat, BitVec.toNat_ofNat, Nat.mod_eq_of_lt (by omega), Nat.mod_eq_of_lt (by omega)]
  have e : (65534 : Nat) = 32767 <<< 1 := rfl
  rw [e, ← Nat.shiftLeft_eq, ← Nat.shiftLeft_and_distrib]
  have e2 : m &&& 32767 = m := by
    rw [show (32767 : Nat) = 2 ^ 15 - 1 from rfl, Nat.and_two_pow_sub_one_eq_mod]
    exact Nat.mod_eq_of_lt (by omega)
  rw [e2]
theorem md_or01 {y : Nat} (h : y % 2 = 0) (hy : y < 65536) : nI y ||| nI 1 = nI (y + 1) := by
  obtain ⟨m, rfl⟩ : ∃ m, y = m * 2 ^ 1 := ⟨y / 2, by omega⟩
  rw [Int32.or_comm, Nat.add_comm]
  exact md_or (k := 1) (by decide) (by omega)
theorem md_or00 (y : Nat) : nI y ||| nI 0 = nI (y + 0) := by
  have h := md_set0 y
  rw [Nat.zero_mul] at h
  exact h
theorem md_par {f : Nat → Nat} {t V : Nat} (h : mr_r 8200 f t V) : f 0 % 2 = V % 2 := by
  have h1 := mv_bit (n := 8200) (q := 0) h.2.1 (by decide)
  rw [mr_v h h.1 (Nat.le_refl _), Nat.pow_zero, Nat.div_one] at h1
  have h2 : V % 2 = f 0 / 1 % 2 := h1
  omega
theorem md_y0 {f : Nat → Nat} {t V x : Nat} (h : mr_r 8200 f t V) (ht : t < 8200) (hd : f 0 + x < 65536) : mr_r 8200 (va_up f 0 (f 0 + x)) (mv_top (va_up f 0 (f 0 + x)) (t + 1)) (V + x) := by
  have h1 := mr_of (cap := 8200) (f := va_up f 0 (f 0 + x)) (n := t + 1) (by omega) (mv_upd_d h.2.1 hd) (fun k k1 k2 => by rw [va_up_ne _ _ (by omega)]; exact h.2.2.1 k (by omega) k2)
  have h2 := mv_set (f := f) (k := 0) (n := t + 1) (v := f 0 + x) (by omega)
  rw [mr_v h (by omega) (by omega), Nat.pow_zero, Nat.mul_one, Nat.mul_one] at h2
  have h3 : mv_v (va_up f 0 (f 0 + x)) (t + 1) = V + x := by omega
  rw [h3] at h1
  exact h1
theorem md_quart (A y : Nat) : A / 2 ^ (2 * y) = 4 * (A / 2 ^ (2 * (y + 1))) + 2 * (A / 2 ^ (2 * y + 1) % 2) + A / 2 ^ (2 * y) % 2 := by
  have h1 := md_half2 A (2 * y)
  have h2 := md_half2 A (2 * y + 1)
  rw [show 2 * y + 1 + 1 = 2 * (y + 1) by omega] at h2
  omega
theorem md_rootA1 {A y S R R' : Nat} (h : A / 2 ^ (2 * (y + 1)) = S * S + R) (hr : 2 * (2 * R + A / 2 ^ (2 * y + 1) % 2) + A / 2 ^ (2 * y) % 2 = 2 * (2 * S + 0) + 1 + R') : A / 2 ^ (2 * y) = (2 * S + 1) * (2 * S + 1) + R' := by
  rw [md_quart, h]
  have e : (2 * S + 1) * (2 * S + 1) = 4 * (S * S) + 4 * S + 1 := by
    rw [Nat.add_mul, Nat.mul_add, Nat.one_mul, Nat.mul_one, Nat.mul_assoc, Nat.mul_left_comm S 2 S]; omega
  rw [e]
  omega
theorem md_rootA0 {A y S R : Nat} (h : A / 2 ^ (2 * (y + 1)) = S * S + R) : A / 2 ^ (2 * y) = (2 * S + 0) * (2 * S + 0) + (2 * (2 * R + A / 2 ^ (2 * y + 1) % 2) + A / 2 ^ (2 * y) % 2) := by
  rw [md_quart, h]
  have e : (2 * S + 0) * (2 * S + 0) = 4 * (S * S) := by
    rw [Nat.add_zero, Nat.mul_assoc, Nat.mul_left_comm S 2 S]; omega
  rw [e]
  omega
theorem md_sqle {A S R x : Nat} (h : A / 2 ^ x = S * S + R) : S ≤ A ∧ R ≤ A := by
  have h1 : A / 2 ^ x ≤ A := Nat.div_le_self _ _
  have h2 := Nat.le_mul_self S
  omega
theorem md_rootend {A S R : Nat} (h : A / 2 ^ (2 * 0) = S * S + R) (hR : R ≤ 2 * S) : sp_sq A = S ∧ A - S * S = R := by
  rw [Nat.mul_zero, Nat.pow_zero, Nat.div_one] at h
  refine ⟨sp_sq_of (by omega) ?_, by omega⟩
  rw [Nat.add_mul, Nat.mul_add, Nat.one_mul, Nat.mul_one]
  omega
