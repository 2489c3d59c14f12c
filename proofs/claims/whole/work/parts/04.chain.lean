/-! ===== longs with a sign ===== -/
def lz_i (z : Int) : Int64 := Int64.ofInt z
theorem lz_n (n : Nat) : lN n = lz_i (n : Int) := (Int64.ofInt_eq_ofNat).symm
theorem lz_sub (x y : Int) : lz_i x - lz_i y = lz_i (x - y) := (Int64.ofInt_sub _ _).symm
theorem lz_add (x y : Int) : lz_i x + lz_i y = lz_i (x + y) := (Int64.ofInt_add _ _).symm
theorem lz_toInt {z : Int} (h1 : -9223372036854775808 ≤ z) (h2 : z < 9223372036854775808) : (lz_i z).toInt = z := by
  exact Int64.toInt_ofInt_of_le (by omega) (by omega)
theorem lz_lt0 {z : Int} (h1 : -9223372036854775808 ≤ z) (h2 : z < 9223372036854775808) : lz_i z < 0 ↔ z < 0 := by
  have e : (0 : Int64).toInt = 0 := by decide
  rw [Int64.lt_iff_toInt_lt, e, lz_toInt h1 h2]
theorem lz_32 (z : Int) : (lz_i z).toInt32 = Int32.ofInt z := Int64.toInt32_ofInt
theorem lz_u (z : Int) : wm_u (Int32.ofInt z) = (z % 4294967296).toNat := by
  show (BitVec.ofInt 32 z).toNat = _
  rw [BitVec.toNat_ofInt]
  rfl
/-- a long as a number below 2^64 -/
theorem lz_nn (z : Int) : lz_i z = lN (z % 18446744073709551616).toNat := by
  apply wb_inj
  rw [wb_tb]
  apply BitVec.eq_of_toNat_eq
  show (BitVec.ofInt 64 z).toNat = _
  rw [BitVec.toNat_ofInt, BitVec.toNat_ofNat]
  have h1 : 0 ≤ z % 18446744073709551616 := Int.emod_nonneg _ (by decide)
  have h2 : z % 18446744073709551616 < 18446744073709551616 := Int.emod_lt_of_pos _ (by decide)
  show (z % 18446744073709551616).toNat = _
  omega
/-- the sign's bit -/
theorem lz_63 {z : Int} (h1 : -9223372036854775808 ≤ z) (h2 : z < 9223372036854775808) : ((lz_i z).toUInt64 >>> ((nI 63).toInt64.toUInt64 &&& Int64.toUInt64 63)).toInt64 = lN (if z < 0 then 1 else 0) := by
  rw [lz_nn, wb_shr (by omega) (by decide)]
  congr 1
  split <;> omega
/-! ===== chains of carries and borrows ===== -/
theorem wm_chain {f : Nat → Int32} {k c d S : Nat} (h : wm_v f k + c * 4294967296 ^ k = S) : wm_v (upd f k (nI (c + d))) (k + 1) + (c + d) / 4294967296 * 4294967296 ^ (k + 1) = S + d * 4294967296 ^ k := by
  rw [wm_v_upds, wm_un, Nat.pow_succ]
  exact wm_step _ _ _ _ _ h
theorem wm_bstep {V X Y c w d t c' P : Nat} (h : V + X = Y + c * P) (e : w + d + c = t + c' * 4294967296) : (V + w * P) + (X + d * P) = (Y + t * P) + c' * (P * 4294967296) := by
  have e2 : (w + d + c) * P = (t + c' * 4294967296) * P := by rw [e]
  rw [Nat.add_mul, Nat.add_mul, Nat.add_mul, Nat.mul_assoc, Nat.mul_comm 4294967296 P] at e2
  omega
theorem wm_bword {ua ub c : Nat} (h1 : ua < 4294967296) (h2 : ub < 4294967296) (h3 : c ≤ 1) : ((((ua : Int) - (ub : Int) - (c : Int)) % 4294967296).toNat) + ub + c = ua + (if (ua : Int) - (ub : Int) - (c : Int) < 0 then 1 else 0) * 4294967296 := by
  split <;> omega
theorem wm_tword {t b : Nat} (h1 : t < 4294967296) : ((((t : Int) - ((b % 4294967296 : Nat) : Int)) % 4294967296).toNat) + b = t + (b / 4294967296 + (if (t : Int) - ((b % 4294967296 : Nat) : Int) < 0 then 1 else 0)) * 4294967296 := by
  split <;> omega
/-- a row from a place on -/
def wm_off (f : Nat → Int32) (a : Nat) : Nat → Int32 := fun k => f (a + k)
theorem wm_off_upd (f : Nat → Int32) (a k : Nat) (x : Int32) : wm_off (upd f (a + k) x) a = upd (wm_off f a) k x := by
  funext j
  by_cases e : j = k
  · subst e
    show upd f (a + j) x (a + j) = _
    rw [pk_us, pk_us]
  · show upd f (a + k) x (a + j) = _
    rw [pk_un (by omega), pk_un e]
    rfl
theorem wm_off_0 (f : Nat → Int32) : wm_off f 0 = f := by
  funext j
  show f (0 + j) = f j
  rw [Nat.zero_add]
theorem wm_v_off (f : Nat → Int32) (m n : Nat) : wm_v f (m + n) = wm_v f m + 4294967296 ^ m * wm_v (wm_off f m) n := wm_v_app f m n
