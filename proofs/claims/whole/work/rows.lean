section
/-! ===== lN n to 2^64: shifts, and, or, masks, one bit ===== -/
theorem wb_tb (n : Nat) : (lN n).toBitVec = BitVec.ofNat 64 n := rfl
theorem wb_inj {a b : Int64} (h : a.toBitVec = b.toBitVec) : a = b := Int64.toBitVec_inj.mp h
theorem wb_tn {n : Nat} (h : n < 2 ^ 64) : (lN n).toBitVec.toNat = n := by rw [wb_tb, BitVec.toNat_ofNat, Nat.mod_eq_of_lt h]
theorem wb_of (x : Int64) : ∃ n, n < 2 ^ 64 ∧ x = lN n := ⟨x.toBitVec.toNat, x.toBitVec.isLt, wb_inj (by rw [wb_tb]; simp)⟩
theorem wb_of32 (x : Int32) : ∃ n, n < 2 ^ 32 ∧ x = nI n := ⟨x.toBitVec.toNat, x.toBitVec.isLt, Int32.toBitVec_inj.mp (by show _ = BitVec.ofNat 32 _; simp)⟩
theorem wb_c : ∀ k, k < 64 → ((nI k).toInt64 &&& 63) = lN k := by decide +kernel
theorem wb_cu : ∀ k, k < 64 → ((nI k).toInt64.toUInt64 &&& Int64.toUInt64 63) = UInt64.ofNat k := by decide +kernel
theorem wb_sm : ∀ k, k < 64 → (BitVec.ofNat 64 k).smod 64 = BitVec.ofNat 64 k := by decide +kernel
theorem wb_pw {a b : Nat} (h : a ≤ b) : 2 ^ b = 2 ^ a * 2 ^ (b - a) := by rw [← Nat.pow_add]; congr 1; omega
theorem wb_lt2 {a b : Nat} (h : a < b) : 2 ^ a < 2 ^ b := Nat.pow_lt_pow_right (by decide) h
theorem wb_mod (n : Nat) : lN n = lN (n % 2 ^ 64) := wb_inj (by rw [wb_tb, wb_tb]; apply BitVec.eq_of_toNat_eq; rw [BitVec.toNat_ofNat, BitVec.toNat_ofNat, Nat.mod_mod])
theorem wb_shr {n k : Nat} (hn : n < 2 ^ 64) (hk : k < 64) : ((lN n).toUInt64 >>> ((nI k).toInt64.toUInt64 &&& Int64.toUInt64 63)).toInt64 = lN (n / 2 ^ k) := by
  rw [wb_cu k hk]
  apply wb_inj
  apply BitVec.eq_of_toNat_eq
  show ((lN n).toUInt64 >>> UInt64.ofNat k).toNat = (BitVec.ofNat 64 _).toNat
  have h1 : (UInt64.ofNat k).toNat = k := by
    show (BitVec.ofNat 64 k).toNat = k
    rw [BitVec.toNat_ofNat, Nat.mod_eq_of_lt (by omega)]
  have h2 : (lN n).toUInt64.toNat = n := wb_tn hn
  rw [UInt64.toNat_shiftRight, h1, h2, Nat.mod_eq_of_lt hk, Nat.shiftRight_eq_div_pow, BitVec.toNat_ofNat, Nat.mod_eq_of_lt (Nat.lt_of_le_of_lt (Nat.div_le_self _ _) hn)]
theorem wb_shl (n : Nat) {k : Nat} (hk : k < 64) : lN n <<< ((nI k).toInt64 &&& 63) = lN (n * 2 ^ k) := by
  rw [wb_c k hk]
  apply wb_inj
  rw [Int64.toBitVec_shiftLeft, wb_tb, wb_tb, wb_tb, wb_sm k hk]
  apply BitVec.eq_of_toNat_eq
  rw [BitVec.shiftLeft_eq', BitVec.toNat_shiftLeft, BitVec.toNat_ofNat, BitVec.toNat_ofNat, BitVec.toNat_ofNat, Nat.mod_eq_of_lt (show k < 2 ^ 64 by omega), Nat.shiftLeft_eq, Nat.mul_mod, Nat.mod_mod, ← Nat.mul_mod]
theorem wb_and {a b : Nat} (ha : a < 2 ^ 64) (hb : b < 2 ^ 64) : lN a &&& lN b = lN (a &&& b) := by
  apply wb_inj
  rw [Int64.toBitVec_and, wb_tb, wb_tb, wb_tb]
  apply BitVec.eq_of_toNat_eq
  rw [BitVec.toNat_and, BitVec.toNat_ofNat, BitVec.toNat_ofNat, BitVec.toNat_ofNat, Nat.mod_eq_of_lt ha, Nat.mod_eq_of_lt hb, Nat.mod_eq_of_lt (Nat.and_lt_two_pow _ hb)]
theorem wb_or {a b : Nat} (ha : a < 2 ^ 64) (hb : b < 2 ^ 64) : lN a ||| lN b = lN (a ||| b) := by
  apply wb_inj
  rw [Int64.toBitVec_or, wb_tb, wb_tb, wb_tb]
  apply BitVec.eq_of_toNat_eq
  rw [BitVec.toNat_or, BitVec.toNat_ofNat, BitVec.toNat_ofNat, BitVec.toNat_ofNat, Nat.mod_eq_of_lt ha, Nat.mod_eq_of_lt hb, Nat.mod_eq_of_lt (Nat.or_lt_two_pow ha hb)]
theorem wb_mask {n k : Nat} (hn : n < 2 ^ 64) (hk : k < 64) : lN n &&& lN (2 ^ k - 1) = lN (n % 2 ^ k) := by
  rw [wb_and hn (by have := wb_lt2 hk; omega), Nat.and_two_pow_sub_one_eq_mod]
theorem wb_a1 {n : Nat} (hn : n < 2 ^ 64) : lN n &&& 1 = lN (n % 2) := wb_mask (k := 1) hn (by decide)
theorem wb_bit {n k : Nat} (hn : n < 2 ^ 64) (hk : k < 64) : ((lN n).toUInt64 >>> ((nI k).toInt64.toUInt64 &&& Int64.toUInt64 63)).toInt64 &&& 1 = lN (n / 2 ^ k % 2) := by
  rw [wb_shr hn hk, wb_a1 (Nat.lt_of_le_of_lt (Nat.div_le_self _ _) hn)]
theorem wb_xor {q k : Nat} (hk : k < 63) (h : 2 ^ k ≤ q) (h2 : q < 2 ^ (k + 1)) : lN q ^^^ lN (2 ^ k) = lN (q - 2 ^ k) := by
  obtain ⟨r, rfl⟩ : ∃ r, q = 2 ^ k + r := ⟨q - 2 ^ k, by omega⟩
  have hr : r < 2 ^ k := by rw [Nat.pow_succ] at h2; omega
  have hx : (2 ^ k + r) ^^^ 2 ^ k = r := by
    apply Nat.eq_of_testBit_eq
    intro i
    rw [Nat.testBit_xor, Nat.testBit_two_pow]
    rcases Nat.lt_trichotomy i k with h | h | h
    · rw [Nat.testBit_two_pow_add_gt h]
      simp [show ¬ k = i by omega]
    · subst h
      rw [Nat.testBit_two_pow_add_eq]
      simp
    · have a1 : 2 ^ (k + 1) ≤ 2 ^ i := Nat.pow_le_pow_right (by decide) h
      rw [Nat.testBit_lt_two_pow (show 2 ^ k + r < 2 ^ i by omega), Nat.testBit_lt_two_pow (show r < 2 ^ i by omega)]
      simp [show ¬ k = i by omega]
  have b1 := wb_lt2 (show k + 1 < 64 by omega)
  have b2 := wb_lt2 (show k < 64 by omega)
  apply wb_inj
  rw [Int64.toBitVec_xor, wb_tb, wb_tb, wb_tb]
  apply BitVec.eq_of_toNat_eq
  rw [BitVec.toNat_xor, BitVec.toNat_ofNat, BitVec.toNat_ofNat, BitVec.toNat_ofNat, Nat.mod_eq_of_lt (by omega : 2 ^ k + r < 2 ^ 64), Nat.mod_eq_of_lt b2, hx, Nat.add_sub_cancel_left, Nat.mod_eq_of_lt (by omega)]
/-! ===== lN: masks, 'or' of parts that don't overlap is a sum ===== -/
theorem u_tn {n : Nat} (h : n < 2 ^ 64) : (UInt64.ofNat n).toNat = n := Nat.mod_eq_of_lt h
theorem g_and {a b c : Nat} (ha : a < 2 ^ 64) (hb : b < 2 ^ 64) (hc : a &&& b = c) : lN a &&& lN b = lN c := by
  subst hc
  have h : UInt64.ofNat a &&& UInt64.ofNat b = UInt64.ofNat (a &&& b) := UInt64.toNat_inj.mp (by rw [UInt64.toNat_and, u_tn ha, u_tn hb, u_tn (Nat.and_lt_two_pow a hb)])
  have h2 := congrArg UInt64.toInt64 h
  exact h2
theorem g_and1 {a : Nat} (ha : a < 2 ^ 64) : lN a &&& 1 = lN (a % 2) := g_and (b := 1) ha (by decide) (Nat.and_two_pow_sub_one_eq_mod a 1)
theorem g_mask {a s p : Nat} (hp : 2 ^ s = p) (hs : s < 64) (ha : a < 2 ^ 64) : lN a &&& lN (p - 1) = lN (a % p) := by
  subst hp
  have := Nat.pow_lt_pow_right (show 1 < 2 by decide) hs
  exact g_and ha (by omega) (Nat.and_two_pow_sub_one_eq_mod a s)
theorem g_or {k p a b : Nat} (hp : 2 ^ k = p) (ha : a < p) (h : b * p + a < 2 ^ 64) : lN (b * p) ||| lN a = lN (b * p + a) := by
  subst hp
  have h1 : b * 2 ^ k ||| a = b * 2 ^ k + a := by rw [← Nat.shiftLeft_eq, Nat.shiftLeft_add_eq_or_of_lt ha]
  have h3 : UInt64.ofNat (b * 2 ^ k) ||| UInt64.ofNat a = UInt64.ofNat (b * 2 ^ k + a) := UInt64.toNat_inj.mp (by rw [UInt64.toNat_or, u_tn (by omega), u_tn (by omega), u_tn h, h1])
  have h2 := congrArg UInt64.toInt64 h3
  exact h2
theorem g_or' {k p a b : Nat} (hp : 2 ^ k = p) (ha : a < p) (h : a + b * p < 2 ^ 64) : lN a ||| lN (b * p) = lN (a + b * p) := by
  rw [Int64.or_comm, g_or hp ha (by omega), Nat.add_comm]
theorem g_ushr {a k p : Nat} {y : UInt64} (hy : y = UInt64.ofNat k) (hk : k < 64) (hp : 2 ^ k = p) (ha : a < 2 ^ 64) : ((lN a).toUInt64 >>> y).toInt64 = lN (a / p) := by
  subst hy hp
  have h : UInt64.ofNat a >>> UInt64.ofNat k = UInt64.ofNat (a / 2 ^ k) := UInt64.toNat_inj.mp (by rw [UInt64.toNat_shiftRight, u_tn ha, u_tn (by omega), u_tn (Nat.lt_of_le_of_lt (Nat.div_le_self _ _) ha), Nat.mod_eq_of_lt hk, Nat.shiftRight_eq_div_pow])
  have h2 := congrArg UInt64.toInt64 h
  exact h2
theorem g_shl {a k p : Nat} {y : Int64} (hy : y.toBitVec.smod 64 = BitVec.ofNat 64 k) (hk : k < 64) (hp : 2 ^ k = p) (ha : a < 2 ^ 64) : lN a <<< y = lN (a * p) := by
  subst hp
  apply Int64.toBitVec_inj.mp
  rw [Int64.toBitVec_shiftLeft, hy]
  apply BitVec.eq_of_toNat_eq
  have hb : (lN a).toBitVec.toNat = a := Nat.mod_eq_of_lt ha
  have hk' : (BitVec.ofNat 64 k).toNat = k := Nat.mod_eq_of_lt (by omega)
  have h : ((lN a).toBitVec <<< BitVec.ofNat 64 k).toNat = (a * 2 ^ k) % 2 ^ 64 := by simp only [BitVec.shiftLeft_eq', BitVec.toNat_shiftLeft, hb, hk', Nat.shiftLeft_eq]
  exact h
theorem lN_bv (n : Nat) : (lN n).toBitVec = BitVec.ofNat 64 n := rfl
theorem lN_nat {n : Nat} (h : n < 2 ^ 64) : (lN n).toBitVec.toNat = n := by rw [lN_bv, BitVec.toNat_ofNat]; exact Nat.mod_eq_of_lt h
theorem lN_xor (a b : Nat) : lN a ^^^ lN b = lN (a ^^^ b) := by
  apply Int64.toBitVec_inj.mp; rw [Int64.toBitVec_xor, lN_bv, lN_bv, lN_bv]; apply BitVec.eq_of_getLsbD_eq; intro i hi; simp [BitVec.getLsbD_ofNat, Nat.testBit_xor, hi]
theorem lN_ti {m : Nat} (h : m < 2 ^ 64) : (lN m).toInt = if m < 2 ^ 63 then (m : Int) else (m : Int) - 2 ^ 64 := by
  have c := BitVec.toInt_eq_toNat_cond (lN m).toBitVec
  rw [lN_nat h] at c
  show (lN m).toBitVec.toInt = _
  rw [c]
  split <;> split <;> omega
theorem xor63 {x : Nat} (h : x < 2 ^ 63) : x ^^^ 2 ^ 63 = 2 ^ 63 + x := by
  apply Nat.eq_of_testBit_eq
  intro i
  rw [Nat.testBit_xor, Nat.testBit_two_pow]
  rcases Nat.lt_trichotomy i 63 with z | z | z
  · rw [Nat.testBit_two_pow_add_gt z, decide_eq_false (by omega)]; simp
  · subst z; rw [Nat.testBit_two_pow_add_eq]; simp
  · have hp : 2 ^ 64 ≤ 2 ^ i := Nat.pow_le_pow_right (by decide) z
    rw [Nat.testBit_lt_two_pow (show x < 2 ^ i by omega), Nat.testBit_lt_two_pow (show 2 ^ 63 + x < 2 ^ i by omega), decide_eq_false (by omega)]; rfl
theorem xorS {a : Nat} (h : a < 2 ^ 64) : (lN a ^^^ (-9223372036854775808)).toInt = (a : Int) - 2 ^ 63 := by
  rw [show (-9223372036854775808 : Int64) = lN (2 ^ 63) from by decide +kernel, lN_xor]
  rcases Nat.lt_or_ge a (2 ^ 63) with z | z
  · rw [xor63 z, lN_ti (by omega), if_neg (by omega)]; omega
  · obtain ⟨x, rfl⟩ : ∃ x, a = 2 ^ 63 + x := ⟨a - 2 ^ 63, by omega⟩
    rw [← xor63 (by omega), Nat.xor_assoc, Nat.xor_self, Nat.xor_zero, lN_ti (by omega), if_pos (by omega), xor63 (by omega)]; omega
theorem ultL {a b : Nat} (ha : a < 2 ^ 64) (hb : b < 2 ^ 64) : ((lN b ^^^ (-9223372036854775808)) ≤ (lN a ^^^ (-9223372036854775808))) ↔ b ≤ a := by
  rw [Int64.le_iff_toInt_le, xorS ha, xorS hb]; omega
/-! ===== words: an Int32 as a number below 2^32 ===== -/
def wm_u (x : Int32) : Nat := x.toBitVec.toNat
theorem wm_u_lt (x : Int32) : wm_u x < 4294967296 := x.toBitVec.isLt
theorem wm_nu (x : Int32) : nI (wm_u x) = x := Int32.toBitVec_inj.mp (by show BitVec.ofNat 32 x.toBitVec.toNat = x.toBitVec; simp)
theorem wm_un (n : Nat) : wm_u (nI n) = n % 4294967296 := by
  show (BitVec.ofNat 32 n).toNat = _
  rw [BitVec.toNat_ofNat]
theorem wm_un' {n : Nat} (h : n < 4294967296) : wm_u (nI n) = n := by rw [wm_un, Nat.mod_eq_of_lt h]
theorem wm_u_inj {x y : Int32} (h : wm_u x = wm_u y) : x = y := Int32.toBitVec_inj.mp (BitVec.eq_of_toNat_eq h)
theorem wm_u_0 : wm_u 0 = 0 := by decide
theorem wm_u_z {x : Int32} : wm_u x = 0 ↔ x = 0 := ⟨fun h => wm_u_inj (by rw [h, wm_u_0]), fun h => by rw [h, wm_u_0]⟩
theorem wm_u_nz {x : Int32} (h : ¬ x = 0) : 0 < wm_u x := Nat.pos_of_ne_zero (fun z => h (wm_u_z.mp z))
theorem wm_sx (x : Int32) : x.toInt64.toBitVec.toNat % 4294967296 = wm_u x := by
  rw [Int32.toBitVec_toInt64, BitVec.toNat_signExtend, BitVec.toNat_setWidth]
  have h : x.toBitVec.toNat < 4294967296 := x.toBitVec.isLt
  unfold wm_u
  split <;> omega
theorem wm_low (x : Int32) : x.toInt64 &&& 4294967295 = lN (wm_u x) := by
  apply wb_inj
  rw [Int64.toBitVec_and, wb_tb]
  apply BitVec.eq_of_toNat_eq
  show (x.toInt64.toBitVec &&& 4294967295#64).toNat = _
  have h := wm_u_lt x
  rw [BitVec.toNat_and, show (4294967295#64).toNat = 2 ^ 32 - 1 from by decide, Nat.and_two_pow_sub_one_eq_mod, BitVec.toNat_ofNat, Nat.mod_eq_of_lt (show wm_u x < 2 ^ 64 by omega)]
  exact wm_sx x
theorem wm_lowL {n : Nat} (h : n < 2 ^ 64) : lN n &&& 4294967295 = lN (n % 4294967296) := wb_mask (k := 32) h (by decide)
theorem wm_hi (x : Int32) : x.toInt64 <<< ((nI 32).toInt64 &&& 63) = lN (wm_u x * 4294967296) := by
  obtain ⟨n, hn, e⟩ := wb_of x.toInt64
  have h := wm_sx x
  rw [e, wb_tn hn] at h
  rw [e, wb_shl n (by decide), wb_mod, wb_mod (wm_u x * 4294967296)]
  exact congrArg lN (by omega)
theorem wm_pair (x y : Int32) : lN (wm_u x * 4294967296) ||| lN (wm_u y) = lN (wm_u x * 4294967296 + wm_u y) :=
  g_or (k := 32) (by decide) (wm_u_lt y) (by have := wm_u_lt x; have := wm_u_lt y; omega)
theorem wm_lt0 {n : Nat} (h : n < 2 ^ 64) : lN n < 0 ↔ 2 ^ 63 ≤ n := by
  rw [Int64.lt_iff_toInt_lt, lN_ti h]
  have e : (0 : Int64).toInt = 0 := by decide
  rw [e]
  split <;> omega
theorem wm_lsub {a b : Nat} (h : b ≤ 2 ^ 64) : lN a - lN b = lN (a + (2 ^ 64 - b)) := by
  apply wb_inj
  rw [Int64.toBitVec_sub, wb_tb, wb_tb, wb_tb]
  apply BitVec.eq_of_toNat_eq
  rw [BitVec.toNat_sub, BitVec.toNat_ofNat, BitVec.toNat_ofNat, BitVec.toNat_ofNat]
  omega
theorem wm_lt31 {a b : Nat} (ha : a < 2 ^ 63) (hb : b < 2 ^ 63) : lN a < lN b ↔ a < b := pk_lLT ha hb
/-- an Int32 as nI of its word, below 0 from 2^31 on -/
theorem wm_i0 (x : Int32) : x < 0 ↔ 2147483648 ≤ wm_u x := by
  have e : (0 : Int32).toInt = 0 := by decide
  have h := wm_u_lt x
  have t : x.toInt = if 2 * wm_u x < 2 ^ 32 then (wm_u x : Int) else (wm_u x : Int) - 2 ^ 32 := BitVec.toInt_eq_toNat_cond _
  rw [Int32.lt_iff_toInt_lt, e, t]
  split <;> omega
theorem wm_s_u : ∀ n, n < 32 → (((nI n).toUInt32 &&& Int32.toUInt32 31).toBitVec % 32).toNat = n := by decide +kernel
theorem wm_s_l : ∀ n, n < 32 → ((nI n &&& 31).toBitVec.smod 32).toNat = n := by decide +kernel
end
section
/-! ===== rows of words as numbers ===== -/
/-- the number that the lowest n words of f are -/
def wm_v (f : Nat → Int32) : Nat → Nat
  | 0 => 0
  | n + 1 => wm_v f n + wm_u (f n) * 4294967296 ^ n
theorem wm_v_0 (f : Nat → Int32) : wm_v f 0 = 0 := rfl
theorem wm_v_s (f : Nat → Int32) (n : Nat) : wm_v f (n + 1) = wm_v f n + wm_u (f n) * 4294967296 ^ n := rfl
theorem wm_pp (n : Nat) : 0 < 4294967296 ^ n := Nat.pow_pos (by decide)
theorem wm_v_lt (f : Nat → Int32) (n : Nat) : wm_v f n < 4294967296 ^ n := by
  induction n with
  | zero => rw [wm_v_0]; exact wm_pp 0
  | succ n ih =>
    rw [wm_v_s, Nat.pow_succ]
    have h : (wm_u (f n) + 1) * 4294967296 ^ n ≤ 4294967296 * 4294967296 ^ n := Nat.mul_le_mul_right _ (wm_u_lt _)
    rw [Nat.add_mul, Nat.one_mul] at h
    omega
theorem wm_v_congr {f g : Nat → Int32} {n : Nat} (h : ∀ k, k < n → f k = g k) : wm_v f n = wm_v g n := by
  induction n with
  | zero => rfl
  | succ n ih => rw [wm_v_s, wm_v_s, ih (fun k hk => h k (by omega)), h n (by omega)]
theorem wm_v_app (f : Nat → Int32) (m n : Nat) : wm_v f (m + n) = wm_v f m + 4294967296 ^ m * wm_v (fun k => f (m + k)) n := by
  induction n with
  | zero => rw [wm_v_0, Nat.mul_zero, Nat.add_zero, Nat.add_zero]
  | succ n ih =>
    have e : wm_v f (m + (n + 1)) = wm_v f (m + n) + wm_u (f (m + n)) * 4294967296 ^ (m + n) := rfl
    rw [e, ih, wm_v_s, Nat.mul_add, Nat.pow_add, Nat.mul_left_comm (4294967296 ^ m) (wm_u (f (m + n))), Nat.add_assoc]
theorem wm_v_z {f : Nat → Int32} {m : Nat} (d : Nat) (h : ∀ k, m ≤ k → k < m + d → f k = 0) : wm_v f (m + d) = wm_v f m := by
  induction d with
  | zero => rfl
  | succ d ih =>
    have e : wm_v f (m + (d + 1)) = wm_v f (m + d) + wm_u (f (m + d)) * 4294967296 ^ (m + d) := rfl
    rw [e, ih (fun k h1 h2 => h k h1 (by omega)), h (m + d) (by omega) (by omega), wm_u_0, Nat.zero_mul, Nat.add_zero]
theorem wm_v_z' {f : Nat → Int32} {m n : Nat} (hmn : m ≤ n) (h : ∀ k, m ≤ k → k < n → f k = 0) : wm_v f n = wm_v f m := by
  obtain ⟨d, rfl⟩ : ∃ d, n = m + d := ⟨n - m, by omega⟩
  exact wm_v_z d h
theorem wm_v_upd {f : Nat → Int32} {n k : Nat} {x : Int32} (h : n ≤ k) : wm_v (upd f k x) n = wm_v f n := wm_v_congr (fun j hj => pk_un (by omega))
theorem wm_v_upds {f : Nat → Int32} {n : Nat} {x : Int32} : wm_v (upd f n x) (n + 1) = wm_v f n + wm_u x * 4294967296 ^ n := by
  rw [wm_v_s, wm_v_upd (Nat.le_refl n), pk_us]
theorem wm_v_mono (f : Nat → Int32) {m n : Nat} (h : m ≤ n) : wm_v f m ≤ wm_v f n := by
  obtain ⟨d, rfl⟩ : ∃ d, n = m + d := ⟨n - m, by omega⟩
  rw [wm_v_app]
  exact Nat.le_add_right _ _
/-- one word of a carry chain: what comes in at place P goes on as a word and a carry -/
theorem wm_step (V c d S P : Nat) (h : V + c * P = S) : (V + (c + d) % 4294967296 * P) + (c + d) / 4294967296 * (P * 4294967296) = S + d * P := by
  have e : (c + d) % 4294967296 * P + (c + d) / 4294967296 * (P * 4294967296) = (c + d) * P := by
    rw [Nat.mul_comm P, ← Nat.mul_assoc, ← Nat.add_mul, Nat.mul_comm ((c + d) / 4294967296), Nat.mod_add_div]
  rw [Nat.add_assoc, e, Nat.add_mul, ← h]
  omega
/-! ===== a number in a row ===== -/
/-- the row f holds N in n words: 0 from n on, its highest word isn't 0 -/
def wm_rep (f : Nat → Int32) (n N : Nat) : Prop := n ≤ 2050 ∧ (∀ k, n ≤ k → k < 2050 → f k = 0) ∧ (0 < n → f (n - 1) ≠ 0) ∧ wm_v f n = N
theorem wm_rep_lt {f : Nat → Int32} {n N : Nat} (h : wm_rep f n N) : N < 4294967296 ^ n := by rw [← h.2.2.2]; exact wm_v_lt f n
theorem wm_rep_ge {f : Nat → Int32} {n N : Nat} (h : wm_rep f (n + 1) N) : 4294967296 ^ n ≤ N := by
  obtain ⟨-, -, h3, h4⟩ := h
  rw [← h4, wm_v_s]
  have h5 : 1 ≤ wm_u (f n) := wm_u_nz (h3 (by omega))
  have h6 : 1 * 4294967296 ^ n ≤ wm_u (f n) * 4294967296 ^ n := Nat.mul_le_mul_right _ h5
  omega
theorem wm_rep_le {f : Nat → Int32} {n N k : Nat} (h : wm_rep f n N) (hk : N < 4294967296 ^ k) : n ≤ k := by
  rcases Nat.eq_zero_or_pos n with z | z
  · omega
  · obtain ⟨j, rfl⟩ : ∃ j, n = j + 1 := ⟨n - 1, by omega⟩
    have h1 := wm_rep_ge h
    have h2 : 4294967296 ^ j < 4294967296 ^ k := Nat.lt_of_le_of_lt h1 hk
    have h3 : j < k := (Nat.pow_lt_pow_iff_right (by decide)).mp h2
    omega
theorem wm_rep_0 {f : Nat → Int32} {n N : Nat} (h : wm_rep f n N) : n = 0 ↔ N = 0 := by
  constructor
  · intro z
    subst z
    rw [← h.2.2.2]
    rfl
  · intro z
    subst z
    have := wm_rep_le (k := 0) h (by decide)
    omega
theorem wm_rep_v {f : Nat → Int32} {n N k : Nat} (h : wm_rep f n N) (hk : n ≤ k) (h2 : k ≤ 2050) : wm_v f k = N := by
  rw [wm_v_z' hk (fun j h3 h4 => h.2.1 j h3 (by omega)), h.2.2.2]
theorem wm_rep_uniq {f g : Nat → Int32} {n m N : Nat} (h : wm_rep f n N) (h2 : wm_rep g m N) : n = m := by
  have a := wm_rep_le h (wm_rep_lt h2)
  have b := wm_rep_le h2 (wm_rep_lt h)
  omega
/-- numbers are compared by their highest words that differ -/
theorem wm_v_cmp {f g : Nat → Int32} {i n : Nat} (hi : i < n) (h : ∀ k, i < k → k < n → f k = g k) (hu : wm_u (f i) < wm_u (g i)) : wm_v f n < wm_v g n := by
  obtain ⟨d, rfl⟩ : ∃ d, n = (i + 1) + d := ⟨n - (i + 1), by omega⟩
  rw [wm_v_app f, wm_v_app g, wm_v_congr (f := fun k => f (i + 1 + k)) (g := fun k => g (i + 1 + k)) (fun k hk => h _ (by omega) (by omega)), wm_v_s, wm_v_s]
  have h1 := wm_v_lt f i
  have h2 : (wm_u (f i) + 1) * 4294967296 ^ i ≤ wm_u (g i) * 4294967296 ^ i := Nat.mul_le_mul_right _ hu
  rw [Nat.add_mul, Nat.one_mul] at h2
  omega
theorem wm_rep_cmp {f g : Nat → Int32} {n m N M : Nat} (h : wm_rep f n N) (h2 : wm_rep g m M) (hl : n < m) : N < M := by
  obtain ⟨j, rfl⟩ : ∃ j, m = j + 1 := ⟨m - 1, by omega⟩
  have h3 := wm_rep_lt h
  have h4 := wm_rep_ge h2
  have h5 : 4294967296 ^ n ≤ 4294967296 ^ j := Nat.pow_le_pow_right (by decide) (by omega)
  omega
/-! ===== words as digits ===== -/
theorem wm_dig {f : Nat → Int32} {k n : Nat} (hk : k < n) : wm_v f n / 4294967296 ^ k % 4294967296 = wm_u (f k) := by
  obtain ⟨d, rfl⟩ : ∃ d, n = (k + 1) + d := ⟨n - (k + 1), by omega⟩
  have h1 := wm_v_lt f k
  have h2 := wm_u_lt (f k)
  rw [wm_v_app f (k + 1) d, wm_v_s, Nat.pow_succ, Nat.mul_comm (wm_u (f k)), Nat.mul_assoc, Nat.add_assoc, ← Nat.mul_add, Nat.add_mul_div_left _ _ (wm_pp k), Nat.div_eq_of_lt h1, Nat.zero_add, Nat.add_mul_mod_self_left, Nat.mod_eq_of_lt h2]
theorem wm_of_dig {g : Nat → Int32} {n M : Nat} (h : ∀ k, k < n → wm_u (g k) = M / 4294967296 ^ k % 4294967296) : wm_v g n = M % 4294967296 ^ n := by
  induction n with
  | zero => rw [wm_v_0, Nat.pow_zero, Nat.mod_one]
  | succ n ih => rw [wm_v_s, ih (fun k hk => h k (by omega)), h n (by omega), Nat.mod_pow_succ, Nat.mul_comm (M / 4294967296 ^ n % 4294967296)]
theorem wm_of_dig' {g : Nat → Int32} {n M : Nat} (h : ∀ k, k < n → wm_u (g k) = M / 4294967296 ^ k % 4294967296) (hM : M < 4294967296 ^ n) : wm_v g n = M := by
  rw [wm_of_dig h, Nat.mod_eq_of_lt hM]
theorem wm_rep_dig {f : Nat → Int32} {n N : Nat} (h : wm_rep f n N) {k : Nat} (hk : k < 2050) : wm_u (f k) = N / 4294967296 ^ k % 4294967296 := by
  rw [← wm_rep_v (k := 2050) h h.1 (Nat.le_refl _), wm_dig hk]
/-! ===== settle ===== -/
def wm_clr (g : Nat → Int32) (a b : Nat) : Nat → Int32 := fun k => if a ≤ k ∧ k < b then 0 else g k
def wm_top (g : Nat → Int32) : Nat → Nat
  | 0 => 0
  | n + 1 => if g n = 0 then wm_top g n else n + 1
theorem wm_top_0 (g : Nat → Int32) : wm_top g 0 = 0 := rfl
theorem wm_top_z {g : Nat → Int32} {n : Nat} (h : g n = 0) : wm_top g (n + 1) = wm_top g n := if_pos h
theorem wm_top_n {g : Nat → Int32} {n : Nat} (h : ¬ g n = 0) : wm_top g (n + 1) = n + 1 := if_neg h
theorem wm_top_le (g : Nat → Int32) (n : Nat) : wm_top g n ≤ n := by
  induction n with
  | zero => exact Nat.le_refl _
  | succ n ih =>
    by_cases h : g n = 0
    · rw [wm_top_z h]; omega
    · rw [wm_top_n h]; omega
theorem wm_top_zero (g : Nat → Int32) (n : Nat) : ∀ k, wm_top g n ≤ k → k < n → g k = 0 := by
  induction n with
  | zero => intro k _ h; omega
  | succ n ih =>
    intro k h1 h2
    by_cases h : g n = 0
    · rw [wm_top_z h] at h1
      by_cases e : k = n
      · rw [e, h]
      · exact ih k h1 (by omega)
    · rw [wm_top_n h] at h1
      omega
theorem wm_top_nz (g : Nat → Int32) (n : Nat) : 0 < wm_top g n → g (wm_top g n - 1) ≠ 0 := by
  induction n with
  | zero => intro h; rw [wm_top_0] at h; omega
  | succ n ih =>
    by_cases h : g n = 0
    · rw [wm_top_z h]; exact ih
    · rw [wm_top_n h]; intro _; exact h
theorem wm_top_congr {f g : Nat → Int32} {n : Nat} (h : ∀ k, k < n → f k = g k) : wm_top f n = wm_top g n := by
  induction n with
  | zero => rfl
  | succ n ih =>
    have e := h n (by omega)
    by_cases z : g n = 0
    · rw [wm_top_z z, wm_top_z (e.trans z), ih (fun k hk => h k (by omega))]
    · rw [wm_top_n z, wm_top_n (by rw [e]; exact z)]
theorem wm_clr_lo {g : Nat → Int32} {a b k : Nat} (h : k < a) : wm_clr g a b k = g k := if_neg (by omega)
theorem wm_clr_hi {g : Nat → Int32} {a b k : Nat} (h : b ≤ k) : wm_clr g a b k = g k := if_neg (by omega)
theorem wm_clr_in {g : Nat → Int32} {a b k : Nat} (h : a ≤ k) (h2 : k < b) : wm_clr g a b k = 0 := if_pos ⟨h, h2⟩
theorem wm_clr_s {g : Nat → Int32} {a k : Nat} (h : a ≤ k) : upd (wm_clr g a k) k 0 = wm_clr g a (k + 1) := by
  funext j
  by_cases e : j = k
  · subst e; rw [pk_us, wm_clr_in h (by omega)]
  · rw [pk_un e]
    by_cases z : a ≤ j ∧ j < k
    · rw [wm_clr_in z.1 z.2, wm_clr_in z.1 (by omega)]
    · have z2 : ¬ (a ≤ j ∧ j < k + 1) := by omega
      show (if _ then _ else _) = (if _ then _ else _)
      rw [if_neg z, if_neg z2]
theorem wm_clr_e {g : Nat → Int32} {a b : Nat} (h : b ≤ a) : wm_clr g a b = g := by
  funext j
  exact if_neg (by omega)
theorem wm_settled {g : Nat → Int32} {c n0 : Nat} (hc : c ≤ 2050) (h : ∀ k, c ≤ k → n0 ≤ k → k < 2050 → g k = 0) : wm_rep (wm_clr g c n0) (wm_top g c) (wm_v g c) := by
  have ht := wm_top_le g c
  refine ⟨by omega, fun k h1 h2 => ?_, fun h1 => ?_, ?_⟩
  · by_cases h3 : k < c
    · rw [wm_clr_lo h3]; exact wm_top_zero g c k h1 h3
    · by_cases h4 : k < n0
      · exact wm_clr_in (by omega) h4
      · rw [wm_clr_hi (by omega)]; exact h k (by omega) (by omega) h2
  · rw [wm_clr_lo (by omega)]; exact wm_top_nz g c h1
  · rw [wm_v_z' ht (fun k h1 h2 => wm_top_zero g c k h1 h2)]
    exact wm_v_congr (fun k hk => wm_clr_lo (by omega))
/-! ===== the outcome of a call that puts one number into row i ===== -/
def wm_up (i X : Nat) (ln : Nat → Nat) (wd : Nat → Nat → Int32) (u : (Nat → Nat) × (Nat → Nat → Int32)) : Prop := ∃ (n : Nat) (g : Nat → Int32), u = (va_up ln i n, va_up wd i g) ∧ wm_rep g n X
/-- all rows hold numbers -/
def wm_ok (N : Nat → Nat) (ln : Nat → Nat) (wd : Nat → Nat → Int32) : Prop := ∀ j, j < 19 → wm_rep (wd j) (ln j) (N j)
theorem wm_ok_up {N : Nat → Nat} {ln : Nat → Nat} {wd : Nat → Nat → Int32} {i X : Nat} {u : (Nat → Nat) × (Nat → Nat → Int32)} (h : wm_ok N ln wd) (hu : wm_up i X ln wd u) : wm_ok (va_up N i X) u.1 u.2 := by
  obtain ⟨n, g, rfl, hr⟩ := hu
  intro j hj
  by_cases e : j = i
  · subst e
    show wm_rep (va_up wd j g j) (va_up ln j n j) (va_up N j X j)
    rw [va_up_self, va_up_self, va_up_self]
    exact hr
  · show wm_rep (va_up wd i g j) (va_up ln i n j) (va_up N i X j)
    rw [va_up_ne _ _ e, va_up_ne _ _ e, va_up_ne _ _ e]
    exact h j hj
theorem wm_eta {α : Type} (f : Nat → α) (i : Nat) : va_up f i (f i) = f := by
  funext j
  by_cases e : j = i
  · subst e; exact va_up_self _ _ _
  · exact va_up_ne _ _ e
theorem wm_uu {α : Type} (f : Nat → α) (k : Nat) (v w : α) : va_up (va_up f k v) k w = va_up f k w := bx_uu f k v w
theorem wm_clr_max {g : Nat → Int32} {a b : Nat} : wm_clr g a (max a b) = wm_clr g a b := by
  funext j
  by_cases h : a ≤ j ∧ j < b
  · rw [wm_clr_in h.1 h.2, wm_clr_in h.1 (by omega)]
  · show (if _ then _ else _) = (if _ then _ else _)
    rw [if_neg h, if_neg (by omega)]
/-- 0 from n on -/
def wm_ze (f : Nat → Int32) (n : Nat) : Prop := n ≤ 2050 ∧ ∀ k, n ≤ k → k < 2050 → f k = 0
theorem wm_rep_ze {f : Nat → Int32} {n N : Nat} (h : wm_rep f n N) : wm_ze f n := ⟨h.1, h.2.1⟩
/-- the outcome of settle -/
theorem wm_up_of {i X n0 c : Nat} {ln : Nat → Nat} {wd : Nat → Nat → Int32} {g : Nat → Int32} {u : (Nat → Nat) × (Nat → Nat → Int32)} (hu : u = (va_up ln i (wm_top g c), va_up wd i (wm_clr g c n0))) (hc : c ≤ 2050) (hz : ∀ k, c ≤ k → n0 ≤ k → k < 2050 → g k = 0) (hX : wm_v g c = X) : wm_up i X ln wd u :=
  ⟨_, _, hu, by rw [← hX]; exact wm_settled hc hz⟩
end
section
/-! ===== a word of a quotient, guessed from the highest words ===== -/
/-- the guess: the quotient of the highest words, at most 2^32 - 1 -/
def wm_gs (U V : Nat) : Nat := if U / V < 4294967295 then U / V else 4294967295
theorem wm_gs_lt (U V : Nat) : wm_gs U V < 4294967296 := by
  unfold wm_gs
  split <;> omega
theorem wm_gs_mul {U V : Nat} : wm_gs U V * V ≤ U := by
  have h : wm_gs U V ≤ U / V := by
    unfold wm_gs
    split <;> omega
  exact Nat.le_trans (Nat.mul_le_mul_right V h) (Nat.div_mul_le_self U V)
theorem wm_gs_hi {U V : Nat} (hV : 0 < V) : U < (wm_gs U V + 1) * V ∨ wm_gs U V = 4294967295 := by
  unfold wm_gs
  split
  · exact Or.inl (by rw [← Nat.div_lt_iff_lt_mul hV]; omega)
  · exact Or.inr rfl
/-- what the guess is, from what the loop leaves behind -/
theorem wm_gs_of {U V w : Nat} (hV : 0 < V) (h1 : w * V ≤ U) (h2 : wm_gs U V ≤ w) (h3 : w < 4294967296) : w = wm_gs U V := by
  have h4 : w ≤ U / V := (Nat.le_div_iff_mul_le hV).mpr h1
  unfold wm_gs at h2 ⊢
  split at h2
  · rw [if_pos (by assumption)]; omega
  · rw [if_neg (by assumption)]; omega
/-- the guess is not much too great -/
theorem wm_knuth1 {u v U V S u' v' q : Nat} (hu : u = U * S + u') (hv : v = V * S + v') (hv' : v' < S) (hV : 4294967296 ≤ V) (hq : q < 4294967296) (h1 : q * V ≤ U) : q * v < u + v := by
  have a1 : q * v = q * V * S + q * v' := by rw [hv, Nat.mul_add, Nat.mul_assoc]
  have a2 : q * V * S ≤ U * S := Nat.mul_le_mul_right _ h1
  have a3 : q * v' ≤ q * S := Nat.mul_le_mul_left _ (Nat.le_of_lt hv')
  have a4 : q * S ≤ 4294967295 * S := Nat.mul_le_mul_right _ (by omega)
  have a5 : 4294967296 * S ≤ V * S := Nat.mul_le_mul_right _ hV
  omega
/-- nor too small -/
theorem wm_knuth2 {u v U V S u' v' q : Nat} (hu : u = U * S + u') (hu' : u' < S) (hv : v = V * S + v') (h2 : U < (q + 1) * V) : u < (q + 1) * v := by
  have a1 : (U + 1) * S ≤ (q + 1) * V * S := Nat.mul_le_mul_right _ h2
  have a2 : (q + 1) * V * S ≤ (q + 1) * v := by
    rw [Nat.mul_assoc]
    exact Nat.mul_le_mul_left _ (by omega)
  rw [Nat.add_mul, Nat.one_mul] at a1
  omega
/-! ===== how many bits a number has ===== -/
def wm_bl (n : Nat) : Nat := if n = 0 then 0 else n.log2 + 1
theorem wm_bl_0 : wm_bl 0 = 0 := rfl
theorem wm_bl_le {n k : Nat} : wm_bl n ≤ k ↔ n < 2 ^ k := by
  unfold wm_bl
  by_cases h : n = 0
  · rw [if_pos h, h]
    exact ⟨fun _ => Nat.pow_pos (by decide), fun _ => Nat.zero_le _⟩
  · rw [if_neg h, ← Nat.log2_lt h]
    exact Iff.rfl
theorem wm_bl_lt (n : Nat) : n < 2 ^ wm_bl n := wm_bl_le.mp (Nat.le_refl _)
theorem wm_bl_of {n b : Nat} (h1 : n < 2 ^ b) (h2 : b = 0 ∨ 2 ^ (b - 1) ≤ n) : wm_bl n = b := by
  have a : wm_bl n ≤ b := wm_bl_le.mpr h1
  rcases h2 with h2 | h2
  · omega
  · have c : ¬ wm_bl n ≤ b - 1 := fun z => Nat.not_lt.mpr h2 (wm_bl_le.mp z)
    omega
theorem wm_bl_ge {n : Nat} (h : 0 < n) : 2 ^ (wm_bl n - 1) ≤ n := by
  have hn : n ≠ 0 := by omega
  have e : wm_bl n = n.log2 + 1 := if_neg hn
  rw [e, Nat.add_sub_cancel]
  exact Nat.log2_self_le hn
theorem wm_bl_pos {n : Nat} (h : 0 < n) : 0 < wm_bl n := by
  have e : wm_bl n = n.log2 + 1 := if_neg (by omega)
  omega
/-- shifted left -/
theorem wm_bl_shl {n r k : Nat} (hn : 0 < n) (hr : r < 2 ^ k) : wm_bl (n * 2 ^ k + r) = wm_bl n + k := by
  have h1 := wm_bl_lt n
  have h2 := wm_bl_ge hn
  have h3 := wm_bl_pos hn
  apply wm_bl_of
  · rw [Nat.pow_add]
    have : (n + 1) * 2 ^ k ≤ 2 ^ wm_bl n * 2 ^ k := Nat.mul_le_mul_right _ h1
    rw [Nat.add_mul, Nat.one_mul] at this
    omega
  · refine Or.inr ?_
    have e : 2 ^ (wm_bl n + k - 1) = 2 ^ (wm_bl n - 1) * 2 ^ k := by
      rw [← Nat.pow_add]
      congr 1
      omega
    rw [e]
    have := Nat.mul_le_mul_right (2 ^ k) h2
    omega
theorem wm_bl_div {n k : Nat} (h : 2 ^ k ≤ n) : wm_bl n = wm_bl (n / 2 ^ k) + k := by
  have hp : 0 < 2 ^ k := Nat.pow_pos (by decide)
  have h0 : 0 < n / 2 ^ k := Nat.div_pos h hp
  have e := wm_bl_shl (k := k) h0 (Nat.mod_lt n hp)
  rw [Nat.mul_comm, Nat.add_comm, Nat.mod_add_div] at e
  exact e
theorem wm_p32 (k : Nat) : 4294967296 ^ k = 2 ^ (32 * k) := by rw [Nat.pow_mul]
theorem wm_bl_rep {f : Nat → Int32} {k N : Nat} (h : wm_rep f (k + 1) N) : wm_bl N = 32 * k + wm_bl (wm_u (f k)) := by
  obtain ⟨-, -, h3, h4⟩ := h
  have h5 : 0 < wm_u (f k) := wm_u_nz (h3 (by omega))
  have h6 := wm_v_lt f k
  rw [← h4, wm_v_s, wm_p32, Nat.add_comm, wm_bl_shl h5 (by rw [← wm_p32]; exact h6), Nat.add_comm]
/-! ===== the guess, step by step ===== -/
theorem wm_gu_le {w b o pair sec lo : Nat} (h : w * b + o = pair) : w * (b * 4294967296 + sec) ≤ pair * 4294967296 + lo ↔ w * sec ≤ o * 4294967296 + lo := by
  have e : w * (b * 4294967296 + sec) = w * b * 4294967296 + w * sec := by rw [Nat.mul_add, Nat.mul_assoc]
  rw [e, ← h, Nat.add_mul]
  omega
theorem wm_gu_big {w b o pair sec lo : Nat} (h : w * b + o = pair) (ho : 4294967296 ≤ o) (hw : w < 4294967296) (hs : sec < 4294967296) : w * (b * 4294967296 + sec) ≤ pair * 4294967296 + lo := by
  rw [wm_gu_le h]
  have h1 : w * sec ≤ 4294967295 * 4294967295 := Nat.mul_le_mul (by omega) (by omega)
  omega
theorem wm_gu_0 {b pair sec lo : Nat} (hb : 0 < b) (hl : lo < 4294967296) : wm_gs (pair * 4294967296 + lo) (b * 4294967296 + sec) ≤ pair / b := by
  rw [Nat.le_div_iff_mul_le hb]
  have h1 := wm_gs_mul (U := pair * 4294967296 + lo) (V := b * 4294967296 + sec)
  generalize wm_gs (pair * 4294967296 + lo) (b * 4294967296 + sec) = g at h1
  rw [Nat.mul_add, ← Nat.mul_assoc] at h1
  omega
theorem wm_gu_dec {U V w : Nat} (h : ¬ w * V ≤ U) : wm_gs U V + 1 ≤ w := by
  have h1 := wm_gs_mul (U := U) (V := V)
  rcases Nat.lt_or_ge (wm_gs U V) w with z | z
  · exact z
  · exact absurd (Nat.le_trans (Nat.mul_le_mul_right V z) h1) h
theorem wm_half {p b : Nat} (hb : 0 < b) : p / 2 / b * 2 * b ≤ p ∧ p - p / 2 / b * 2 * b < 2 * b ∧ p / b = p / 2 / b * 2 + (if b ≤ p - p / 2 / b * 2 * b then 1 else 0) := by
  have hb2 : 0 < 2 * b := by omega
  have e0 : p / 2 / b = p / (2 * b) := by rw [Nat.div_div_eq_div_mul]
  have e1 := Nat.mod_add_div p (2 * b)
  have e2 := Nat.mod_lt p hb2
  rw [e0]
  generalize p / (2 * b) = x at e1
  generalize p % (2 * b) = y at e1 e2
  have e3 : x * 2 * b = 2 * b * x := by rw [Nat.mul_comm (2 * b), Nat.mul_assoc]
  rw [e3]
  subst e1
  refine ⟨by omega, by omega, ?_⟩
  rw [Nat.add_sub_cancel]
  have e4 : (y + 2 * b * x) / b = y / b + x * 2 := by
    rw [Nat.mul_comm 2 b, Nat.mul_assoc, Nat.add_mul_div_left _ _ hb, Nat.mul_comm 2 x]
  rw [e4, Nat.add_comm]
  congr 1
  split
  · exact Nat.div_eq_of_lt_le (by omega) (by omega)
  · exact Nat.div_eq_of_lt (by omega)
/-! ===== long division, a step ===== -/
theorem wm_dv_step {L T v P q r : Nat} (hT : T = L * P + r) (hr : r < P) (hq : q * v ≤ L) (hq2 : L < (q + 1) * v) : T = q * v * P + ((L - q * v) * P + r) ∧ (L - q * v) * P + r < v * P := by
  obtain ⟨d, rfl⟩ : ∃ d, L = q * v + d := ⟨L - q * v, by omega⟩
  rw [Nat.add_sub_cancel_left]
  rw [Nat.add_mul, Nat.one_mul] at hq2
  have h1 : (d + 1) * P ≤ v * P := Nat.mul_le_mul_right _ (by omega)
  rw [Nat.add_mul, Nat.one_mul] at h1
  refine ⟨?_, by omega⟩
  rw [hT, Nat.add_mul]
  omega
end
section
/-! ===== longs with a sign ===== -/
def lz_i (z : Int) : Int64 := Int64.ofInt z
theorem lz_n (n : Nat) : lN n = lz_i (n : Int) := (Int64.ofInt_eq_ofNat).symm
theorem lz_sub (x y : Int) : lz_i x - lz_i y = lz_i (x - y) := (Int64.ofInt_sub _ _).symm
theorem lz_add (x y : Int) : lz_i x + lz_i y = lz_i (x + y) := (Int64.ofInt_add _ _).symm
theorem lz_toInt {z : Int} (h1 : -9223372036854775808 ≤ z) (h2 : z < 9223372036854775808) : (lz_i z).toInt = z := by
  exact Int64.toInt_ofInt_of_le (by omega) (by omega)
theorem lz_lt0 {z : Int} (h1 : -9223372036854775808 ≤ z) (h2 : z < 9223372036854775808) : lz_i z < 0 ↔ z < 0 := by
  have e : (0 : Int64).toInt = 0 := by decide
  rw [Int64.lt_iff_toInt_lt, e, lz_toInt h1 h2]
theorem lz_32 (z : Int) : (lz_i z).toInt32 = Int32.ofInt z := Int64.toInt32_ofInt
theorem lz_u (z : Int) : wm_u (Int32.ofInt z) = (z % 4294967296).toNat := by
  show (BitVec.ofInt 32 z).toNat = _
  rw [BitVec.toNat_ofInt]
  rfl
/-- a long as a number below 2^64 -/
theorem lz_nn (z : Int) : lz_i z = lN (z % 18446744073709551616).toNat := by
  apply wb_inj
  rw [wb_tb]
  apply BitVec.eq_of_toNat_eq
  show (BitVec.ofInt 64 z).toNat = _
  rw [BitVec.toNat_ofInt, BitVec.toNat_ofNat]
  have h1 : 0 ≤ z % 18446744073709551616 := Int.emod_nonneg _ (by decide)
  have h2 : z % 18446744073709551616 < 18446744073709551616 := Int.emod_lt_of_pos _ (by decide)
  show (z % 18446744073709551616).toNat = _
  omega
/-- the sign's bit -/
theorem lz_63 {z : Int} (h1 : -9223372036854775808 ≤ z) (h2 : z < 9223372036854775808) : ((lz_i z).toUInt64 >>> ((nI 63).toInt64.toUInt64 &&& Int64.toUInt64 63)).toInt64 = lN (if z < 0 then 1 else 0) := by
  rw [lz_nn, wb_shr (by omega) (by decide)]
  congr 1
  split <;> omega
/-! ===== chains of carries and borrows ===== -/
theorem wm_chain {f : Nat → Int32} {k c d S : Nat} (h : wm_v f k + c * 4294967296 ^ k = S) : wm_v (upd f k (nI (c + d))) (k + 1) + (c + d) / 4294967296 * 4294967296 ^ (k + 1) = S + d * 4294967296 ^ k := by
  rw [wm_v_upds, wm_un, Nat.pow_succ]
  exact wm_step _ _ _ _ _ h
theorem wm_bstep {V X Y c w d t c' P : Nat} (h : V + X = Y + c * P) (e : w + d + c = t + c' * 4294967296) : (V + w * P) + (X + d * P) = (Y + t * P) + c' * (P * 4294967296) := by
  have e2 : (w + d + c) * P = (t + c' * 4294967296) * P := by rw [e]
  rw [Nat.add_mul, Nat.add_mul, Nat.add_mul, Nat.mul_assoc, Nat.mul_comm 4294967296 P] at e2
  omega
theorem wm_bword {ua ub c : Nat} (h1 : ua < 4294967296) (h2 : ub < 4294967296) (h3 : c ≤ 1) : ((((ua : Int) - (ub : Int) - (c : Int)) % 4294967296).toNat) + ub + c = ua + (if (ua : Int) - (ub : Int) - (c : Int) < 0 then 1 else 0) * 4294967296 := by
  split <;> omega
theorem wm_tword {t b : Nat} (h1 : t < 4294967296) : ((((t : Int) - ((b % 4294967296 : Nat) : Int)) % 4294967296).toNat) + b = t + (b / 4294967296 + (if (t : Int) - ((b % 4294967296 : Nat) : Int) < 0 then 1 else 0)) * 4294967296 := by
  split <;> omega
/-- a row from a place on -/
def wm_off (f : Nat → Int32) (a : Nat) : Nat → Int32 := fun k => f (a + k)
theorem wm_off_upd (f : Nat → Int32) (a k : Nat) (x : Int32) : wm_off (upd f (a + k) x) a = upd (wm_off f a) k x := by
  funext j
  by_cases e : j = k
  · subst e
    show upd f (a + j) x (a + j) = _
    rw [pk_us, pk_us]
  · show upd f (a + k) x (a + j) = _
    rw [pk_un (by omega), pk_un e]
    rfl
theorem wm_off_0 (f : Nat → Int32) : wm_off f 0 = f := by
  funext j
  show f (0 + j) = f j
  rw [Nat.zero_add]
theorem wm_v_off (f : Nat → Int32) (m n : Nat) : wm_v f (m + n) = wm_v f m + 4294967296 ^ m * wm_v (wm_off f m) n := wm_v_app f m n
end
section
/-! ===== ones of a word ===== -/
/-- how many of the lowest k bits of N are 1 -/
def wm_on (N : Nat) : Nat → Nat
  | 0 => 0
  | k + 1 => wm_on N k + N / 2 ^ k % 2
theorem wm_on_s (N k : Nat) : wm_on N (k + 1) = wm_on N k + N / 2 ^ k % 2 := rfl
theorem wm_on_add (N m k : Nat) : wm_on N (m + k) = wm_on N m + wm_on (N / 2 ^ m) k := by
  induction k with
  | zero => rfl
  | succ k ih =>
    have e : wm_on N (m + (k + 1)) = wm_on N (m + k) + N / 2 ^ (m + k) % 2 := rfl
    rw [e, ih, wm_on_s, Nat.pow_add, Nat.div_div_eq_div_mul, Nat.add_assoc]
theorem wm_on_mod (N k : Nat) : wm_on (N % 2 ^ k) k = wm_on N k := by
  have h : ∀ j, j ≤ k → wm_on (N % 2 ^ k) j = wm_on N j := by
    intro j
    induction j with
    | zero => intro _; rfl
    | succ j ih =>
      intro hj
      rw [wm_on_s, wm_on_s, ih (by omega)]
      congr 1
      obtain ⟨d, rfl⟩ : ∃ d, k = j + 1 + d := ⟨k - (j + 1), by omega⟩
      rw [Nat.pow_add, Nat.pow_succ, Nat.mul_assoc, Nat.mod_mul_right_div_self, Nat.mod_mod_of_dvd _ ⟨2 ^ d, rfl⟩]
  exact h k (Nat.le_refl _)
theorem wm_on_0 (k : Nat) : wm_on 0 k = 0 := by
  induction k with
  | zero => rfl
  | succ k ih => rw [wm_on_s, ih, Nat.zero_div]
theorem wm_on_big {N m : Nat} (h : N < 2 ^ m) (k : Nat) : wm_on N (m + k) = wm_on N m := by
  rw [wm_on_add, Nat.div_eq_of_lt h, wm_on_0, Nat.add_zero]
theorem wm_on_le (N k : Nat) : wm_on N k ≤ k := by
  induction k with
  | zero => exact Nat.le_refl _
  | succ k ih =>
    rw [wm_on_s]
    have : N / 2 ^ k % 2 < 2 := Nat.mod_lt _ (by decide)
    omega
/-- ones of a number are the ones of its words -/
def wm_ons (f : Nat → Int32) : Nat → Nat
  | 0 => 0
  | n + 1 => wm_ons f n + wm_on (wm_u (f n)) 32
theorem wm_ons_v (f : Nat → Int32) (n : Nat) : wm_ons f n = wm_on (wm_v f n) (32 * n) := by
  induction n with
  | zero => rfl
  | succ n ih =>
    have e : wm_ons f (n + 1) = wm_ons f n + wm_on (wm_u (f n)) 32 := rfl
    have hp := wm_pp n
    have h1 := wm_v_lt f n
    rw [e, ih, show 32 * (n + 1) = 32 * n + 32 by omega, wm_on_add, ← wm_p32, wm_v_s, ← wm_on_mod (wm_v f n + _), ← wm_p32, Nat.mul_comm (wm_u (f n)), Nat.add_mul_mod_self_left, Nat.mod_eq_of_lt h1, Nat.add_mul_div_left _ _ hp, Nat.div_eq_of_lt h1, Nat.zero_add]
/-! ===== Integer.bitCount, over numbers ===== -/
theorem wm_and8 {a b : Nat} : a &&& b = (a % 256 &&& b % 256) + 256 * (a / 256 &&& b / 256) := by
  have h1 : (a &&& b) % 2 ^ 8 = (a % 2 ^ 8) &&& (b % 2 ^ 8) := Nat.and_mod_two_pow
  have h2 : (a &&& b) / 2 ^ 8 = a / 2 ^ 8 &&& b / 2 ^ 8 := Nat.and_div_two_pow
  have h3 := Nat.mod_add_div (a &&& b) 256
  rw [show (2 : Nat) ^ 8 = 256 by decide] at h1 h2
  rw [h1, h2] at h3
  exact h3.symm
/-- a mask that is the same in all bytes -/
theorem wm_mask4 {b0 b1 b2 b3 k : Nat} (h0 : b0 < 256) (h1 : b1 < 256) (h2 : b2 < 256) (h3 : b3 < 256) (hk : k < 256) : (b0 + 256 * (b1 + 256 * (b2 + 256 * b3))) &&& (k + 256 * (k + 256 * (k + 256 * k))) = (b0 &&& k) + 256 * ((b1 &&& k) + 256 * ((b2 &&& k) + 256 * (b3 &&& k))) := by
  have m : ∀ x y : Nat, x < 256 → (x + 256 * y) % 256 = x := fun x y h => by omega
  have d : ∀ x y : Nat, x < 256 → (x + 256 * y) / 256 = y := fun x y h => by omega
  rw [wm_and8, m _ _ h0, d _ _ h0, m _ _ hk, d _ _ hk, wm_and8 (a := b1 + _), m _ _ h1, d _ _ h1, m _ _ hk, d _ _ hk, wm_and8 (a := b2 + _), m _ _ h2, d _ _ h2, m _ _ hk, d _ _ hk]
def wm_bc1 (b : Nat) : Nat := b - (b / 2 &&& 85)
def wm_bc2 (b : Nat) : Nat := (wm_bc1 b &&& 51) + (wm_bc1 b / 4 &&& 51)
def wm_bc3 (b : Nat) : Nat := (wm_bc2 b + wm_bc2 b / 16) &&& 15
theorem wm_bc_1 : ∀ b, b < 256 → ∀ x, x < 2 → ((b / 2 + 128 * x) &&& 85) = (b / 2 &&& 85) ∧ (b / 2 &&& 85) ≤ b := by decide +kernel
theorem wm_bc_2 : ∀ b, b < 256 → ∀ x, x < 4 → ((wm_bc1 b / 4 + 64 * x) &&& 51) = (wm_bc1 b / 4 &&& 51) ∧ wm_bc1 b < 256 ∧ wm_bc2 b < 256 := by decide +kernel
theorem wm_bc_3 : ∀ b, b < 256 → ∀ x, x < 16 → ((wm_bc2 b + wm_bc2 b / 16 + 16 * x) &&& 15) = wm_bc3 b ∧ wm_bc2 b + wm_bc2 b / 16 + 16 * x < 512 ∧ wm_bc2 b ≤ 68 := by decide +kernel
theorem wm_bc_4 : ∀ b, b < 256 → wm_bc3 b = wm_on b 8 := by decide +kernel
end
section
/-! ===== a word of a square root ===== -/
/-- the guess w (times the doubled root) may be 2 too great at most -/
theorem wm_rt_2 {s T g b : Nat} (hs : b ≤ 2 * s) (hg : g + 2 < b) (h : (g + 2) * (s * b) < T / 2 + s * b) : g * (2 * s * b + g) ≤ T := by
  generalize hD : s * b = D at h
  have h2 : g * g ≤ b * b := Nat.mul_le_mul (by omega) (by omega)
  have h3 : b * b ≤ 2 * s * b := Nat.mul_le_mul_right _ hs
  have h5 : 2 * s * b = 2 * D := by rw [Nat.mul_assoc, hD]
  have e1 : (g + 2) * D = g * D + 2 * D := Nat.add_mul _ _ _
  have e2 : g * (2 * s * b + g) = 2 * (g * D) + g * g := by
    rw [h5, Nat.mul_add, Nat.mul_left_comm]
  rw [e2]
  rw [e1] at h
  omega
theorem wm_sq (a b : Nat) : (a + b) * (a + b) = a * a + 2 * (a * b) + b * b := by
  rw [Nat.mul_add, Nat.add_mul, Nat.add_mul, Nat.mul_comm b a]
  omega
/-- what the step does: R is what is left of s, T = R with the next two words, w the next word of the root -/
theorem wm_rt_ok {s R q w T b : Nat} (hT : T = R * b * b + q) (h1 : w * (2 * s * b + w) ≤ T) (h2 : T < (w + 1) * (2 * s * b + (w + 1))) :
    (s * b + w) * (s * b + w) + (T - w * (2 * s * b + w)) = (s * s + R) * b * b + q ∧ T - w * (2 * s * b + w) ≤ 2 * (s * b + w) := by
  generalize hD : s * b = D
  have h5 : 2 * s * b = 2 * D := by rw [Nat.mul_assoc, hD]
  have e0 : w * (2 * s * b + w) = 2 * (D * w) + w * w := by
    rw [h5, Nat.mul_add, Nat.mul_left_comm, Nat.mul_comm w D]
  have e1 : (D + w) * (D + w) = D * D + 2 * (D * w) + w * w := wm_sq D w
  have e4 : D * D = s * s * b * b := by
    rw [← hD, Nat.mul_assoc (s * s), Nat.mul_mul_mul_comm]
  have e2 : (s * s + R) * b * b = s * s * b * b + R * b * b := by
    rw [Nat.add_mul, Nat.add_mul]
  have e3 : (w + 1) * (2 * s * b + (w + 1)) = 2 * (D * w) + w * w + 2 * D + 2 * w + 1 := by
    rw [h5, Nat.add_mul, Nat.one_mul, Nat.mul_add, Nat.mul_left_comm, Nat.mul_comm w D, Nat.mul_add, Nat.mul_one]
    omega
  rw [e0] at h1 ⊢
  rw [e3] at h2
  constructor
  · rw [e1, e2, e4]
    generalize s * s * b * b = X at *
    generalize R * b * b = Y at *
    omega
  · omega
/-- the shift back: S the root of A * 4^h, R what is left, S = s * 2^h + t -/
theorem wm_rt_back {A S R s t p : Nat} (hA : S * S + R = A * (p * p)) (hR : R ≤ 2 * S) (hS : S = s * p + t) (ht : t < p) : s * s ≤ A ∧ A - s * s ≤ 2 * s ∧ (R + t * (2 * S)) / (p * p) = A - s * s := by
  have hp : 0 < p := by omega
  have hpp : 0 < p * p := Nat.mul_pos hp hp
  generalize hD : s * p = D at hS
  have e0 : D * D = s * s * (p * p) := by rw [← hD, Nat.mul_mul_mul_comm]
  have e1 : S * S = s * s * (p * p) + 2 * (D * t) + t * t := by rw [hS, wm_sq, e0]
  have e2 : t * (2 * S) = 2 * (D * t) + 2 * (t * t) := by
    rw [Nat.mul_left_comm, hS, Nat.mul_add, Nat.mul_comm t D]
    omega
  have htt : t * t < p * p := by
    rcases Nat.eq_zero_or_pos t with z | z
    · subst z; rw [Nat.zero_mul]; exact hpp
    · exact Nat.mul_lt_mul_of_lt_of_le ht (Nat.le_of_lt ht) hp
  have h1 : s * s ≤ A := by
    have h : s * s * (p * p) ≤ A * (p * p) := by omega
    exact Nat.le_of_mul_le_mul_right h hpp
  obtain ⟨r, rfl⟩ : ∃ r, A = s * s + r := ⟨A - s * s, by omega⟩
  have e3 : (s * s + r) * (p * p) = s * s * (p * p) + r * (p * p) := Nat.add_mul _ _ _
  have e4 : R + t * (2 * S) = t * t + p * p * r := by
    rw [Nat.mul_comm (p * p) r]
    omega
  refine ⟨h1, ?_, ?_⟩
  · rw [Nat.add_sub_cancel_left]
    have h2 : R + t * (2 * S) < t * t + (2 * s + 1) * (p * p) := by
      have a2 : 2 * S * (t + 1) ≤ 2 * S * p := Nat.mul_le_mul_left _ ht
      have a3 : 2 * S * p = 2 * (s * (p * p)) + 2 * (t * p) := by
        rw [Nat.mul_assoc, hS, Nat.add_mul, Nat.mul_add, ← hD, Nat.mul_assoc s]
      have a4 : 2 * S * (t + 1) = t * (2 * S) + 2 * S := by
        rw [Nat.mul_add, Nat.mul_one, Nat.mul_comm t]
      have a5 : (2 * s + 1) * (p * p) = 2 * (s * (p * p)) + p * p := by
        rw [Nat.add_mul, Nat.one_mul, Nat.mul_assoc]
      have a6 : 2 * (t * p) < t * t + p * p := by
        obtain ⟨d, hd⟩ : ∃ d, p = t + d := ⟨p - t, by omega⟩
        have hdd : 0 < d * d := Nat.mul_pos (by omega) (by omega)
        have b1 : t * p = t * t + t * d := by rw [hd, Nat.mul_add]
        have b2 : p * p = t * t + 2 * (t * d) + d * d := by rw [hd, wm_sq]
        omega
      omega
    rw [e4] at h2
    have h3 : r * (p * p) < (2 * s + 1) * (p * p) := by
      rw [Nat.mul_comm r]
      omega
    have := Nat.lt_of_mul_lt_mul_right h3
    omega
  · rw [e4, Nat.add_mul_div_left _ _ hpp, Nat.div_eq_of_lt htt, Nat.zero_add, Nat.add_sub_cancel_left]
end
section
-- ===== PART A: goes FIRST, ahead of the names: the tables' words, and 'selects' of the private methods out of them =====
/-- a private method of a class that the tables say can be made, by its rows of tables_1 -/
def lw_okq (q : MethodName × Nat) : Prop := (q.1.cls ≠ "java/lang/invoke/MethodHandle" ∧ q.1.cls ≠ "java/lang/invoke/VarHandle") ∧ Cond.instantiable q.1.cls q.2 ∈ tables_1 ∧ Cond.privateMethod q.1 ∈ tables_1 ∧ Cond.instanceMethod q.1 ∈ tables_1
theorem lw_p0 : lw_okq (⟨"WholeMill", "keepResult", "(I)Z"⟩, 4) := ⟨⟨by decide +kernel, by decide +kernel⟩, List.mem_of_getElem? (i := 11) (by decide +kernel), List.mem_of_getElem? (i := 89) (by decide +kernel), List.mem_of_getElem? (i := 90) (by decide +kernel)⟩
theorem lw_p1 : lw_okq (⟨"WholeMillModel", "loadX", "(I)V"⟩, 8) := ⟨⟨by decide +kernel, by decide +kernel⟩, List.mem_of_getElem? (i := 288) (by decide +kernel), List.mem_of_getElem? (i := 327) (by decide +kernel), List.mem_of_getElem? (i := 328) (by decide +kernel)⟩
theorem lw_p2 : lw_okq (⟨"WholeMillModel", "clearZ", "()V"⟩, 8) := ⟨⟨by decide +kernel, by decide +kernel⟩, List.mem_of_getElem? (i := 288) (by decide +kernel), List.mem_of_getElem? (i := 331) (by decide +kernel), List.mem_of_getElem? (i := 332) (by decide +kernel)⟩
theorem lw_p3 : lw_okq (⟨"WholeMillModel", "put", "(I[II)Z"⟩, 8) := ⟨⟨by decide +kernel, by decide +kernel⟩, List.mem_of_getElem? (i := 288) (by decide +kernel), List.mem_of_getElem? (i := 336) (by decide +kernel), List.mem_of_getElem? (i := 337) (by decide +kernel)⟩
theorem lw_p4 : lw_okq (⟨"WholeMillModel", "loadY", "(I)V"⟩, 8) := ⟨⟨by decide +kernel, by decide +kernel⟩, List.mem_of_getElem? (i := 288) (by decide +kernel), List.mem_of_getElem? (i := 355) (by decide +kernel), List.mem_of_getElem? (i := 356) (by decide +kernel)⟩
theorem lw_p5 : lw_okq (⟨"WholeMillModel", "halve", "()V"⟩, 8) := ⟨⟨by decide +kernel, by decide +kernel⟩, List.mem_of_getElem? (i := 288) (by decide +kernel), List.mem_of_getElem? (i := 388) (by decide +kernel), List.mem_of_getElem? (i := 389) (by decide +kernel)⟩
theorem lw_p6 : lw_okq (⟨"WholeMillModel", "moved", "(IIJJJ)Z"⟩, 8) := ⟨⟨by decide +kernel, by decide +kernel⟩, List.mem_of_getElem? (i := 288) (by decide +kernel), List.mem_of_getElem? (i := 398) (by decide +kernel), List.mem_of_getElem? (i := 399) (by decide +kernel)⟩
theorem lw_p7 : lw_okq (⟨"WholeMillModel", "bitsOf", "(I)I"⟩, 8) := ⟨⟨by decide +kernel, by decide +kernel⟩, List.mem_of_getElem? (i := 288) (by decide +kernel), List.mem_of_getElem? (i := 403) (by decide +kernel), List.mem_of_getElem? (i := 404) (by decide +kernel)⟩
def lw_privs_1 : List (MethodName × Nat) := [(⟨"WholeMill", "keepResult", "(I)Z"⟩, 4), (⟨"WholeMillModel", "loadX", "(I)V"⟩, 8), (⟨"WholeMillModel", "clearZ", "()V"⟩, 8), (⟨"WholeMillModel", "put", "(I[II)Z"⟩, 8), (⟨"WholeMillModel", "loadY", "(I)V"⟩, 8), (⟨"WholeMillModel", "halve", "()V"⟩, 8), (⟨"WholeMillModel", "moved", "(IIJJJ)Z"⟩, 8), (⟨"WholeMillModel", "bitsOf", "(I)I"⟩, 8)]
theorem lw_r1 : ∀ q ∈ lw_privs_1, lw_okq q := List.forall_mem_cons.mpr ⟨lw_p0, List.forall_mem_cons.mpr ⟨lw_p1, List.forall_mem_cons.mpr ⟨lw_p2, List.forall_mem_cons.mpr ⟨lw_p3, List.forall_mem_cons.mpr ⟨lw_p4, List.forall_mem_cons.mpr ⟨lw_p5, List.forall_mem_cons.mpr ⟨lw_p6, List.forall_mem_cons.mpr ⟨lw_p7, fun _ h => absurd h List.not_mem_nil⟩⟩⟩⟩⟩⟩⟩⟩
def lw_privs : List (MethodName × Nat) := lw_privs_1
def lw_tbl : List Cond := k2_sels lw_privs ++ tables_1
theorem lw_privs_ok : ∀ q ∈ lw_privs, lw_okq q := lw_r1
end
section
-- names: classes, methods, their code
/-- the words of the tables that a callee may have too -/
def lw_T : List Cond := lw_tbl.filter goodWord
theorem lw_T_of {w : Cond} (h : w ∈ lw_tbl) (hg : goodWord w = true) : w ∈ lw_T := List.mem_filter.mpr ⟨h, hg⟩
def R_Mill : String := "WholeMill"
def R_Whole : String := "WholeMill$Whole"
def R_Rows : String := "WholeMill$Rows"
def R_Div : String := "WholeMill$Division"
def R_Root : String := "WholeMill$SquareRoot"
def R_Mod : String := "WholeMillModel"
def R_Int : String := "java/lang/Integer"
def R_Math : String := "java/lang/Math"
def R_Sys : String := "java/lang/System"
def F_Mill : u_T := fun k => match k with
  | 0 => ("WholeMill", "registers", "[LWholeMill$Whole;", true)
  | 1 => ("WholeMill", "result", "LWholeMill$Whole;", true)
  | 2 => ("WholeMill", "left", "LWholeMill$Whole;", true)
  | _ => ("WholeMill", "helper", "LWholeMill$Whole;", true)
def t_Mill : Nat → FieldType := fun k => match k with
  | 0 => .array (.object "WholeMill$Whole")
  | _ => .object "WholeMill$Whole"
def F_Whole : u_T := fun k => match k with
  | 0 => ("WholeMill$Whole", "words", "[I", true)
  | _ => ("WholeMill$Whole", "length", "I", false)
def t_Whole : Nat → FieldType := fun k => match k with
  | 0 => .array .int
  | _ => .int
def F_Mod : u_T := fun k => match k with
  | 0 => ("WholeMillModel", "digits", "[I", true)
  | 1 => ("WholeMillModel", "sizes", "[I", true)
  | 2 => ("WholeMillModel", "x", "[I", true)
  | 3 => ("WholeMillModel", "y", "[I", true)
  | 4 => ("WholeMillModel", "z", "[I", true)
  | 5 => ("WholeMillModel", "xs", "I", false)
  | 6 => ("WholeMillModel", "ys", "I", false)
  | _ => ("WholeMillModel", "zs", "I", false)
def t_Mod : Nat → FieldType := fun k => match k with
  | 5 => .int
  | 6 => .int
  | 7 => .int
  | k => if k < 5 then .array .int else .int
theorem n_Mill : ∀ a, a < 4 → ∀ b, b < 4 → a ≠ b → (F_Mill a).2.1 ≠ (F_Mill b).2.1 := by decide +kernel
theorem t_Mill_ok : ∀ k, k < 4 → parseFieldDescriptor (F_Mill k).2.2.1 = some (t_Mill k) := by decide +kernel
theorem n_Whole : ∀ a, a < 2 → ∀ b, b < 2 → a ≠ b → (F_Whole a).2.1 ≠ (F_Whole b).2.1 := by decide +kernel
theorem t_Whole_ok : ∀ k, k < 2 → parseFieldDescriptor (F_Whole k).2.2.1 = some (t_Whole k) := by decide +kernel
theorem n_Mod : ∀ a, a < 8 → ∀ b, b < 8 → a ≠ b → (F_Mod a).2.1 ≠ (F_Mod b).2.1 := by decide +kernel
theorem t_Mod_ok : ∀ k, k < 8 → parseFieldDescriptor (F_Mod k).2.2.1 = some (t_Mod k) := by decide +kernel
theorem i_Mill : ∀ w ∈ u_ws R_Mill F_Mill 4, w ∈ lw_T := by decide +kernel
theorem i_Whole : ∀ w ∈ u_ws R_Whole F_Whole 2, w ∈ lw_T := by decide +kernel
theorem i_Mod : ∀ w ∈ u_ws R_Mod F_Mod 8, w ∈ lw_T := by decide +kernel
abbrev classes : List vw_C := [(R_Mill, F_Mill, 4), (R_Whole, F_Whole, 2), (R_Mod, F_Mod, 8)]
abbrev b_Mill_init : ByteArray := prog_1_method_1_code
def y_Mill_init : MethodName := ⟨R_Mill, "<init>", "()V"⟩
theorem kd_Mill_init : y_Mill_init.cls ≠ "java/lang/invoke/MethodHandle" ∧ y_Mill_init.cls ≠ "java/lang/invoke/VarHandle" ∧ (parseMethodDescriptor y_Mill_init.desc).map (fun d => d.parameters.length) = some 0 := by decide +kernel
abbrev b_Whole_init : ByteArray := prog_5_method_1_code
def y_Whole_init : MethodName := ⟨R_Whole, "<init>", "()V"⟩
theorem kd_Whole_init : y_Whole_init.cls ≠ "java/lang/invoke/MethodHandle" ∧ y_Whole_init.cls ≠ "java/lang/invoke/VarHandle" ∧ (parseMethodDescriptor y_Whole_init.desc).map (fun d => d.parameters.length) = some 0 := by decide +kernel
abbrev b_Mill_push : ByteArray := prog_1_method_2_code
def y_Mill_push : MethodName := ⟨R_Mill, "push", "(IJ)Z"⟩
theorem kd_Mill_push : y_Mill_push.cls ≠ "java/lang/invoke/MethodHandle" ∧ y_Mill_push.cls ≠ "java/lang/invoke/VarHandle" ∧ (parseMethodDescriptor y_Mill_push.desc).map (fun d => d.parameters.length) = some 2 := by decide +kernel
abbrev b_Mill_isRegister : ByteArray := prog_1_method_18_code
def y_Mill_isRegister : MethodName := ⟨R_Mill, "isRegister", "(I)Z"⟩
theorem kd_Mill_isRegister : y_Mill_isRegister.cls ≠ "java/lang/invoke/MethodHandle" ∧ y_Mill_isRegister.cls ≠ "java/lang/invoke/VarHandle" ∧ (parseMethodDescriptor y_Mill_isRegister.desc).map (fun d => d.parameters.length) = some 1 := by decide +kernel
abbrev b_Whole_size : ByteArray := prog_5_method_14_code
def y_Whole_size : MethodName := ⟨R_Whole, "size", "()I"⟩
theorem kd_Whole_size : y_Whole_size.cls ≠ "java/lang/invoke/MethodHandle" ∧ y_Whole_size.cls ≠ "java/lang/invoke/VarHandle" ∧ (parseMethodDescriptor y_Whole_size.desc).map (fun d => d.parameters.length) = some 0 := by decide +kernel
abbrev b_Int_numberOfLeadingZeros : ByteArray := prog_8_method_47_code
def y_Int_numberOfLeadingZeros : MethodName := ⟨R_Int, "numberOfLeadingZeros", "(I)I"⟩
theorem kd_Int_numberOfLeadingZeros : y_Int_numberOfLeadingZeros.cls ≠ "java/lang/invoke/MethodHandle" ∧ y_Int_numberOfLeadingZeros.cls ≠ "java/lang/invoke/VarHandle" ∧ (parseMethodDescriptor y_Int_numberOfLeadingZeros.desc).map (fun d => d.parameters.length) = some 1 := by decide +kernel
abbrev b_Whole_becomeShiftedLeft : ByteArray := prog_5_method_10_code
def y_Whole_becomeShiftedLeft : MethodName := ⟨R_Whole, "becomeShiftedLeft", "(LWholeMill$Whole;I)V"⟩
theorem kd_Whole_becomeShiftedLeft : y_Whole_becomeShiftedLeft.cls ≠ "java/lang/invoke/MethodHandle" ∧ y_Whole_becomeShiftedLeft.cls ≠ "java/lang/invoke/VarHandle" ∧ (parseMethodDescriptor y_Whole_becomeShiftedLeft.desc).map (fun d => d.parameters.length) = some 2 := by decide +kernel
abbrev b_Whole_clear : ByteArray := prog_5_method_3_code
def y_Whole_clear : MethodName := ⟨R_Whole, "clear", "()V"⟩
theorem kd_Whole_clear : y_Whole_clear.cls ≠ "java/lang/invoke/MethodHandle" ∧ y_Whole_clear.cls ≠ "java/lang/invoke/VarHandle" ∧ (parseMethodDescriptor y_Whole_clear.desc).map (fun d => d.parameters.length) = some 0 := by decide +kernel
abbrev b_Whole_settle : ByteArray := prog_5_method_2_code
def y_Whole_settle : MethodName := ⟨R_Whole, "settle", "(I)V"⟩
theorem kd_Whole_settle : y_Whole_settle.cls ≠ "java/lang/invoke/MethodHandle" ∧ y_Whole_settle.cls ≠ "java/lang/invoke/VarHandle" ∧ (parseMethodDescriptor y_Whole_settle.desc).map (fun d => d.parameters.length) = some 1 := by decide +kernel
abbrev b_Whole_fillLowestPair : ByteArray := prog_5_method_6_code
def y_Whole_fillLowestPair : MethodName := ⟨R_Whole, "fillLowestPair", "(J)V"⟩
theorem kd_Whole_fillLowestPair : y_Whole_fillLowestPair.cls ≠ "java/lang/invoke/MethodHandle" ∧ y_Whole_fillLowestPair.cls ≠ "java/lang/invoke/VarHandle" ∧ (parseMethodDescriptor y_Whole_fillLowestPair.desc).map (fun d => d.parameters.length) = some 1 := by decide +kernel
abbrev b_Math_max : ByteArray := prog_9_method_65_code
def y_Math_max : MethodName := ⟨R_Math, "max", "(II)I"⟩
theorem kd_Math_max : y_Math_max.cls ≠ "java/lang/invoke/MethodHandle" ∧ y_Math_max.cls ≠ "java/lang/invoke/VarHandle" ∧ (parseMethodDescriptor y_Math_max.desc).map (fun d => d.parameters.length) = some 2 := by decide +kernel
abbrev b_Mill_keepResult : ByteArray := prog_1_method_19_code
def y_Mill_keepResult : MethodName := ⟨R_Mill, "keepResult", "(I)Z"⟩
theorem kd_Mill_keepResult : y_Mill_keepResult.cls ≠ "java/lang/invoke/MethodHandle" ∧ y_Mill_keepResult.cls ≠ "java/lang/invoke/VarHandle" ∧ (parseMethodDescriptor y_Mill_keepResult.desc).map (fun d => d.parameters.length) = some 1 := by decide +kernel
abbrev b_Whole_become : ByteArray := prog_5_method_4_code
def y_Whole_become : MethodName := ⟨R_Whole, "become", "(LWholeMill$Whole;)V"⟩
theorem kd_Whole_become : y_Whole_become.cls ≠ "java/lang/invoke/MethodHandle" ∧ y_Whole_become.cls ≠ "java/lang/invoke/VarHandle" ∧ (parseMethodDescriptor y_Whole_become.desc).map (fun d => d.parameters.length) = some 1 := by decide +kernel
abbrev b_Mill_spread : ByteArray := prog_1_method_3_code
def y_Mill_spread : MethodName := ⟨R_Mill, "spread", "(IJI)Z"⟩
theorem kd_Mill_spread : y_Mill_spread.cls ≠ "java/lang/invoke/MethodHandle" ∧ y_Mill_spread.cls ≠ "java/lang/invoke/VarHandle" ∧ (parseMethodDescriptor y_Mill_spread.desc).map (fun d => d.parameters.length) = some 3 := by decide +kernel
abbrev b_Whole_becomePairs : ByteArray := prog_5_method_5_code
def y_Whole_becomePairs : MethodName := ⟨R_Whole, "becomePairs", "(JI)V"⟩
theorem kd_Whole_becomePairs : y_Whole_becomePairs.cls ≠ "java/lang/invoke/MethodHandle" ∧ y_Whole_becomePairs.cls ≠ "java/lang/invoke/VarHandle" ∧ (parseMethodDescriptor y_Whole_becomePairs.desc).map (fun d => d.parameters.length) = some 2 := by decide +kernel
abbrev b_Mill_copy : ByteArray := prog_1_method_4_code
def y_Mill_copy : MethodName := ⟨R_Mill, "copy", "(II)Z"⟩
theorem kd_Mill_copy : y_Mill_copy.cls ≠ "java/lang/invoke/MethodHandle" ∧ y_Mill_copy.cls ≠ "java/lang/invoke/VarHandle" ∧ (parseMethodDescriptor y_Mill_copy.desc).map (fun d => d.parameters.length) = some 2 := by decide +kernel
abbrev b_Mill_add : ByteArray := prog_1_method_5_code
def y_Mill_add : MethodName := ⟨R_Mill, "add", "(III)Z"⟩
theorem kd_Mill_add : y_Mill_add.cls ≠ "java/lang/invoke/MethodHandle" ∧ y_Mill_add.cls ≠ "java/lang/invoke/VarHandle" ∧ (parseMethodDescriptor y_Mill_add.desc).map (fun d => d.parameters.length) = some 3 := by decide +kernel
abbrev b_Whole_becomeSum : ByteArray := prog_5_method_7_code
def y_Whole_becomeSum : MethodName := ⟨R_Whole, "becomeSum", "(LWholeMill$Whole;LWholeMill$Whole;)V"⟩
theorem kd_Whole_becomeSum : y_Whole_becomeSum.cls ≠ "java/lang/invoke/MethodHandle" ∧ y_Whole_becomeSum.cls ≠ "java/lang/invoke/VarHandle" ∧ (parseMethodDescriptor y_Whole_becomeSum.desc).map (fun d => d.parameters.length) = some 2 := by decide +kernel
abbrev b_Mill_take : ByteArray := prog_1_method_6_code
def y_Mill_take : MethodName := ⟨R_Mill, "take", "(III)Z"⟩
theorem kd_Mill_take : y_Mill_take.cls ≠ "java/lang/invoke/MethodHandle" ∧ y_Mill_take.cls ≠ "java/lang/invoke/VarHandle" ∧ (parseMethodDescriptor y_Mill_take.desc).map (fun d => d.parameters.length) = some 3 := by decide +kernel
abbrev b_Whole_order : ByteArray := prog_5_method_13_code
def y_Whole_order : MethodName := ⟨R_Whole, "order", "(LWholeMill$Whole;)I"⟩
theorem kd_Whole_order : y_Whole_order.cls ≠ "java/lang/invoke/MethodHandle" ∧ y_Whole_order.cls ≠ "java/lang/invoke/VarHandle" ∧ (parseMethodDescriptor y_Whole_order.desc).map (fun d => d.parameters.length) = some 1 := by decide +kernel
abbrev b_Whole_becomeDifference : ByteArray := prog_5_method_8_code
def y_Whole_becomeDifference : MethodName := ⟨R_Whole, "becomeDifference", "(LWholeMill$Whole;LWholeMill$Whole;)V"⟩
theorem kd_Whole_becomeDifference : y_Whole_becomeDifference.cls ≠ "java/lang/invoke/MethodHandle" ∧ y_Whole_becomeDifference.cls ≠ "java/lang/invoke/VarHandle" ∧ (parseMethodDescriptor y_Whole_becomeDifference.desc).map (fun d => d.parameters.length) = some 2 := by decide +kernel
abbrev b_Mill_times : ByteArray := prog_1_method_7_code
def y_Mill_times : MethodName := ⟨R_Mill, "times", "(III)Z"⟩
theorem kd_Mill_times : y_Mill_times.cls ≠ "java/lang/invoke/MethodHandle" ∧ y_Mill_times.cls ≠ "java/lang/invoke/VarHandle" ∧ (parseMethodDescriptor y_Mill_times.desc).map (fun d => d.parameters.length) = some 3 := by decide +kernel
abbrev b_Whole_becomeProduct : ByteArray := prog_5_method_9_code
def y_Whole_becomeProduct : MethodName := ⟨R_Whole, "becomeProduct", "(LWholeMill$Whole;LWholeMill$Whole;)V"⟩
theorem kd_Whole_becomeProduct : y_Whole_becomeProduct.cls ≠ "java/lang/invoke/MethodHandle" ∧ y_Whole_becomeProduct.cls ≠ "java/lang/invoke/VarHandle" ∧ (parseMethodDescriptor y_Whole_becomeProduct.desc).map (fun d => d.parameters.length) = some 2 := by decide +kernel
abbrev b_Rows_addMultiple : ByteArray := prog_3_method_2_code
def y_Rows_addMultiple : MethodName := ⟨R_Rows, "addMultiple", "([II[IIJ)J"⟩
theorem kd_Rows_addMultiple : y_Rows_addMultiple.cls ≠ "java/lang/invoke/MethodHandle" ∧ y_Rows_addMultiple.cls ≠ "java/lang/invoke/VarHandle" ∧ (parseMethodDescriptor y_Rows_addMultiple.desc).map (fun d => d.parameters.length) = some 5 := by decide +kernel
abbrev b_Mill_divide : ByteArray := prog_1_method_8_code
def y_Mill_divide : MethodName := ⟨R_Mill, "divide", "(IIII)Z"⟩
theorem kd_Mill_divide : y_Mill_divide.cls ≠ "java/lang/invoke/MethodHandle" ∧ y_Mill_divide.cls ≠ "java/lang/invoke/VarHandle" ∧ (parseMethodDescriptor y_Mill_divide.desc).map (fun d => d.parameters.length) = some 4 := by decide +kernel
abbrev b_Div_find : ByteArray := prog_2_method_2_code
def y_Div_find : MethodName := ⟨R_Div, "find", "(LWholeMill$Whole;LWholeMill$Whole;LWholeMill$Whole;LWholeMill$Whole;LWholeMill$Whole;)V"⟩
theorem kd_Div_find : y_Div_find.cls ≠ "java/lang/invoke/MethodHandle" ∧ y_Div_find.cls ≠ "java/lang/invoke/VarHandle" ∧ (parseMethodDescriptor y_Div_find.desc).map (fun d => d.parameters.length) = some 5 := by decide +kernel
abbrev b_Div_nextWord : ByteArray := prog_2_method_3_code
def y_Div_nextWord : MethodName := ⟨R_Div, "nextWord", "([I[III)I"⟩
theorem kd_Div_nextWord : y_Div_nextWord.cls ≠ "java/lang/invoke/MethodHandle" ∧ y_Div_nextWord.cls ≠ "java/lang/invoke/VarHandle" ∧ (parseMethodDescriptor y_Div_nextWord.desc).map (fun d => d.parameters.length) = some 4 := by decide +kernel
abbrev b_Rows_guess : ByteArray := prog_3_method_5_code
def y_Rows_guess : MethodName := ⟨R_Rows, "guess", "(IIIII)J"⟩
theorem kd_Rows_guess : y_Rows_guess.cls ≠ "java/lang/invoke/MethodHandle" ∧ y_Rows_guess.cls ≠ "java/lang/invoke/VarHandle" ∧ (parseMethodDescriptor y_Rows_guess.desc).map (fun d => d.parameters.length) = some 5 := by decide +kernel
abbrev b_Math_minL : ByteArray := prog_9_method_70_code
def y_Math_minL : MethodName := ⟨R_Math, "min", "(JJ)J"⟩
theorem kd_Math_minL : y_Math_minL.cls ≠ "java/lang/invoke/MethodHandle" ∧ y_Math_minL.cls ≠ "java/lang/invoke/VarHandle" ∧ (parseMethodDescriptor y_Math_minL.desc).map (fun d => d.parameters.length) = some 2 := by decide +kernel
abbrev b_Rows_isAbove : ByteArray := prog_3_method_6_code
def y_Rows_isAbove : MethodName := ⟨R_Rows, "isAbove", "(JJ)Z"⟩
theorem kd_Rows_isAbove : y_Rows_isAbove.cls ≠ "java/lang/invoke/MethodHandle" ∧ y_Rows_isAbove.cls ≠ "java/lang/invoke/VarHandle" ∧ (parseMethodDescriptor y_Rows_isAbove.desc).map (fun d => d.parameters.length) = some 2 := by decide +kernel
abbrev b_Rows_takeMultiple : ByteArray := prog_3_method_3_code
def y_Rows_takeMultiple : MethodName := ⟨R_Rows, "takeMultiple", "([II[IIIJ)J"⟩
theorem kd_Rows_takeMultiple : y_Rows_takeMultiple.cls ≠ "java/lang/invoke/MethodHandle" ∧ y_Rows_takeMultiple.cls ≠ "java/lang/invoke/VarHandle" ∧ (parseMethodDescriptor y_Rows_takeMultiple.desc).map (fun d => d.parameters.length) = some 6 := by decide +kernel
abbrev b_Rows_addStretch : ByteArray := prog_3_method_4_code
def y_Rows_addStretch : MethodName := ⟨R_Rows, "addStretch", "([II[IIIJ)J"⟩
theorem kd_Rows_addStretch : y_Rows_addStretch.cls ≠ "java/lang/invoke/MethodHandle" ∧ y_Rows_addStretch.cls ≠ "java/lang/invoke/VarHandle" ∧ (parseMethodDescriptor y_Rows_addStretch.desc).map (fun d => d.parameters.length) = some 6 := by decide +kernel
abbrev b_Whole_becomeShiftedRight : ByteArray := prog_5_method_11_code
def y_Whole_becomeShiftedRight : MethodName := ⟨R_Whole, "becomeShiftedRight", "(LWholeMill$Whole;I)V"⟩
theorem kd_Whole_becomeShiftedRight : y_Whole_becomeShiftedRight.cls ≠ "java/lang/invoke/MethodHandle" ∧ y_Whole_becomeShiftedRight.cls ≠ "java/lang/invoke/VarHandle" ∧ (parseMethodDescriptor y_Whole_becomeShiftedRight.desc).map (fun d => d.parameters.length) = some 2 := by decide +kernel
abbrev b_Mill_root : ByteArray := prog_1_method_9_code
def y_Mill_root : MethodName := ⟨R_Mill, "root", "(III)Z"⟩
theorem kd_Mill_root : y_Mill_root.cls ≠ "java/lang/invoke/MethodHandle" ∧ y_Mill_root.cls ≠ "java/lang/invoke/VarHandle" ∧ (parseMethodDescriptor y_Mill_root.desc).map (fun d => d.parameters.length) = some 3 := by decide +kernel
abbrev b_Root_find : ByteArray := prog_4_method_2_code
def y_Root_find : MethodName := ⟨R_Root, "find", "(LWholeMill$Whole;LWholeMill$Whole;LWholeMill$Whole;LWholeMill$Whole;)V"⟩
theorem kd_Root_find : y_Root_find.cls ≠ "java/lang/invoke/MethodHandle" ∧ y_Root_find.cls ≠ "java/lang/invoke/VarHandle" ∧ (parseMethodDescriptor y_Root_find.desc).map (fun d => d.parameters.length) = some 4 := by decide +kernel
abbrev b_Root_firstWord : ByteArray := prog_4_method_3_code
def y_Root_firstWord : MethodName := ⟨R_Root, "firstWord", "([I[II)V"⟩
theorem kd_Root_firstWord : y_Root_firstWord.cls ≠ "java/lang/invoke/MethodHandle" ∧ y_Root_firstWord.cls ≠ "java/lang/invoke/VarHandle" ∧ (parseMethodDescriptor y_Root_firstWord.desc).map (fun d => d.parameters.length) = some 3 := by decide +kernel
abbrev b_Root_rootOfPair : ByteArray := prog_4_method_4_code
def y_Root_rootOfPair : MethodName := ⟨R_Root, "rootOfPair", "(J)J"⟩
theorem kd_Root_rootOfPair : y_Root_rootOfPair.cls ≠ "java/lang/invoke/MethodHandle" ∧ y_Root_rootOfPair.cls ≠ "java/lang/invoke/VarHandle" ∧ (parseMethodDescriptor y_Root_rootOfPair.desc).map (fun d => d.parameters.length) = some 1 := by decide +kernel
abbrev b_Root_putWord : ByteArray := prog_4_method_7_code
def y_Root_putWord : MethodName := ⟨R_Root, "putWord", "([IIJ)V"⟩
theorem kd_Root_putWord : y_Root_putWord.cls ≠ "java/lang/invoke/MethodHandle" ∧ y_Root_putWord.cls ≠ "java/lang/invoke/VarHandle" ∧ (parseMethodDescriptor y_Root_putWord.desc).map (fun d => d.parameters.length) = some 3 := by decide +kernel
abbrev b_Root_nextWord : ByteArray := prog_4_method_5_code
def y_Root_nextWord : MethodName := ⟨R_Root, "nextWord", "([I[III)V"⟩
theorem kd_Root_nextWord : y_Root_nextWord.cls ≠ "java/lang/invoke/MethodHandle" ∧ y_Root_nextWord.cls ≠ "java/lang/invoke/VarHandle" ∧ (parseMethodDescriptor y_Root_nextWord.desc).map (fun d => d.parameters.length) = some 4 := by decide +kernel
abbrev b_Root_guessWord : ByteArray := prog_4_method_6_code
def y_Root_guessWord : MethodName := ⟨R_Root, "guessWord", "([I[III)J"⟩
theorem kd_Root_guessWord : y_Root_guessWord.cls ≠ "java/lang/invoke/MethodHandle" ∧ y_Root_guessWord.cls ≠ "java/lang/invoke/VarHandle" ∧ (parseMethodDescriptor y_Root_guessWord.desc).map (fun d => d.parameters.length) = some 4 := by decide +kernel
abbrev b_Rows_halved : ByteArray := prog_3_method_7_code
def y_Rows_halved : MethodName := ⟨R_Rows, "halved", "(II)I"⟩
theorem kd_Rows_halved : y_Rows_halved.cls ≠ "java/lang/invoke/MethodHandle" ∧ y_Rows_halved.cls ≠ "java/lang/invoke/VarHandle" ∧ (parseMethodDescriptor y_Rows_halved.desc).map (fun d => d.parameters.length) = some 2 := by decide +kernel
abbrev b_Root_shiftBack : ByteArray := prog_4_method_8_code
def y_Root_shiftBack : MethodName := ⟨R_Root, "shiftBack", "(LWholeMill$Whole;LWholeMill$Whole;LWholeMill$Whole;II)V"⟩
theorem kd_Root_shiftBack : y_Root_shiftBack.cls ≠ "java/lang/invoke/MethodHandle" ∧ y_Root_shiftBack.cls ≠ "java/lang/invoke/VarHandle" ∧ (parseMethodDescriptor y_Root_shiftBack.desc).map (fun d => d.parameters.length) = some 5 := by decide +kernel
abbrev b_Mill_shift : ByteArray := prog_1_method_10_code
def y_Mill_shift : MethodName := ⟨R_Mill, "shift", "(III)Z"⟩
theorem kd_Mill_shift : y_Mill_shift.cls ≠ "java/lang/invoke/MethodHandle" ∧ y_Mill_shift.cls ≠ "java/lang/invoke/VarHandle" ∧ (parseMethodDescriptor y_Mill_shift.desc).map (fun d => d.parameters.length) = some 3 := by decide +kernel
abbrev b_Math_abs : ByteArray := prog_9_method_59_code
def y_Math_abs : MethodName := ⟨R_Math, "abs", "(I)I"⟩
theorem kd_Math_abs : y_Math_abs.cls ≠ "java/lang/invoke/MethodHandle" ∧ y_Math_abs.cls ≠ "java/lang/invoke/VarHandle" ∧ (parseMethodDescriptor y_Math_abs.desc).map (fun d => d.parameters.length) = some 1 := by decide +kernel
abbrev b_Mill_part : ByteArray := prog_1_method_11_code
def y_Mill_part : MethodName := ⟨R_Mill, "part", "(IIII)Z"⟩
theorem kd_Mill_part : y_Mill_part.cls ≠ "java/lang/invoke/MethodHandle" ∧ y_Mill_part.cls ≠ "java/lang/invoke/VarHandle" ∧ (parseMethodDescriptor y_Mill_part.desc).map (fun d => d.parameters.length) = some 4 := by decide +kernel
abbrev b_Math_min : ByteArray := prog_9_method_69_code
def y_Math_min : MethodName := ⟨R_Math, "min", "(II)I"⟩
theorem kd_Math_min : y_Math_min.cls ≠ "java/lang/invoke/MethodHandle" ∧ y_Math_min.cls ≠ "java/lang/invoke/VarHandle" ∧ (parseMethodDescriptor y_Math_min.desc).map (fun d => d.parameters.length) = some 2 := by decide +kernel
abbrev b_Whole_keepLowest : ByteArray := prog_5_method_12_code
def y_Whole_keepLowest : MethodName := ⟨R_Whole, "keepLowest", "(I)V"⟩
theorem kd_Whole_keepLowest : y_Whole_keepLowest.cls ≠ "java/lang/invoke/MethodHandle" ∧ y_Whole_keepLowest.cls ≠ "java/lang/invoke/VarHandle" ∧ (parseMethodDescriptor y_Whole_keepLowest.desc).map (fun d => d.parameters.length) = some 1 := by decide +kernel
abbrev b_Mill_compare : ByteArray := prog_1_method_12_code
def y_Mill_compare : MethodName := ⟨R_Mill, "compare", "(II)I"⟩
theorem kd_Mill_compare : y_Mill_compare.cls ≠ "java/lang/invoke/MethodHandle" ∧ y_Mill_compare.cls ≠ "java/lang/invoke/VarHandle" ∧ (parseMethodDescriptor y_Mill_compare.desc).map (fun d => d.parameters.length) = some 2 := by decide +kernel
abbrev b_Mill_bits : ByteArray := prog_1_method_13_code
def y_Mill_bits : MethodName := ⟨R_Mill, "bits", "(I)I"⟩
theorem kd_Mill_bits : y_Mill_bits.cls ≠ "java/lang/invoke/MethodHandle" ∧ y_Mill_bits.cls ≠ "java/lang/invoke/VarHandle" ∧ (parseMethodDescriptor y_Mill_bits.desc).map (fun d => d.parameters.length) = some 1 := by decide +kernel
abbrev b_Mill_word : ByteArray := prog_1_method_14_code
def y_Mill_word : MethodName := ⟨R_Mill, "word", "(II)I"⟩
theorem kd_Mill_word : y_Mill_word.cls ≠ "java/lang/invoke/MethodHandle" ∧ y_Mill_word.cls ≠ "java/lang/invoke/VarHandle" ∧ (parseMethodDescriptor y_Mill_word.desc).map (fun d => d.parameters.length) = some 2 := by decide +kernel
abbrev b_Mill_ones : ByteArray := prog_1_method_15_code
def y_Mill_ones : MethodName := ⟨R_Mill, "ones", "(I)I"⟩
theorem kd_Mill_ones : y_Mill_ones.cls ≠ "java/lang/invoke/MethodHandle" ∧ y_Mill_ones.cls ≠ "java/lang/invoke/VarHandle" ∧ (parseMethodDescriptor y_Mill_ones.desc).map (fun d => d.parameters.length) = some 1 := by decide +kernel
abbrev b_Whole_countOnes : ByteArray := prog_5_method_15_code
def y_Whole_countOnes : MethodName := ⟨R_Whole, "countOnes", "()I"⟩
theorem kd_Whole_countOnes : y_Whole_countOnes.cls ≠ "java/lang/invoke/MethodHandle" ∧ y_Whole_countOnes.cls ≠ "java/lang/invoke/VarHandle" ∧ (parseMethodDescriptor y_Whole_countOnes.desc).map (fun d => d.parameters.length) = some 0 := by decide +kernel
abbrev b_Int_bitCount : ByteArray := prog_8_method_49_code
def y_Int_bitCount : MethodName := ⟨R_Int, "bitCount", "(I)I"⟩
theorem kd_Int_bitCount : y_Int_bitCount.cls ≠ "java/lang/invoke/MethodHandle" ∧ y_Int_bitCount.cls ≠ "java/lang/invoke/VarHandle" ∧ (parseMethodDescriptor y_Int_bitCount.desc).map (fun d => d.parameters.length) = some 1 := by decide +kernel
abbrev b_Mill_lowest : ByteArray := prog_1_method_16_code
def y_Mill_lowest : MethodName := ⟨R_Mill, "lowest", "(I)I"⟩
theorem kd_Mill_lowest : y_Mill_lowest.cls ≠ "java/lang/invoke/MethodHandle" ∧ y_Mill_lowest.cls ≠ "java/lang/invoke/VarHandle" ∧ (parseMethodDescriptor y_Mill_lowest.desc).map (fun d => d.parameters.length) = some 1 := by decide +kernel
abbrev b_Whole_lowestOne : ByteArray := prog_5_method_16_code
def y_Whole_lowestOne : MethodName := ⟨R_Whole, "lowestOne", "()I"⟩
theorem kd_Whole_lowestOne : y_Whole_lowestOne.cls ≠ "java/lang/invoke/MethodHandle" ∧ y_Whole_lowestOne.cls ≠ "java/lang/invoke/VarHandle" ∧ (parseMethodDescriptor y_Whole_lowestOne.desc).map (fun d => d.parameters.length) = some 0 := by decide +kernel
abbrev b_Int_numberOfTrailingZeros : ByteArray := prog_8_method_48_code
def y_Int_numberOfTrailingZeros : MethodName := ⟨R_Int, "numberOfTrailingZeros", "(I)I"⟩
theorem kd_Int_numberOfTrailingZeros : y_Int_numberOfTrailingZeros.cls ≠ "java/lang/invoke/MethodHandle" ∧ y_Int_numberOfTrailingZeros.cls ≠ "java/lang/invoke/VarHandle" ∧ (parseMethodDescriptor y_Int_numberOfTrailingZeros.desc).map (fun d => d.parameters.length) = some 1 := by decide +kernel
abbrev b_Mill_rest : ByteArray := prog_1_method_17_code
def y_Mill_rest : MethodName := ⟨R_Mill, "rest", "(II)I"⟩
theorem kd_Mill_rest : y_Mill_rest.cls ≠ "java/lang/invoke/MethodHandle" ∧ y_Mill_rest.cls ≠ "java/lang/invoke/VarHandle" ∧ (parseMethodDescriptor y_Mill_rest.desc).map (fun d => d.parameters.length) = some 2 := by decide +kernel
abbrev b_Whole_remainder : ByteArray := prog_5_method_17_code
def y_Whole_remainder : MethodName := ⟨R_Whole, "remainder", "(I)I"⟩
theorem kd_Whole_remainder : y_Whole_remainder.cls ≠ "java/lang/invoke/MethodHandle" ∧ y_Whole_remainder.cls ≠ "java/lang/invoke/VarHandle" ∧ (parseMethodDescriptor y_Whole_remainder.desc).map (fun d => d.parameters.length) = some 1 := by decide +kernel
abbrev b_Mod_init : ByteArray := prog_7_method_1_code
def y_Mod_init : MethodName := ⟨R_Mod, "<init>", "()V"⟩
theorem kd_Mod_init : y_Mod_init.cls ≠ "java/lang/invoke/MethodHandle" ∧ y_Mod_init.cls ≠ "java/lang/invoke/VarHandle" ∧ (parseMethodDescriptor y_Mod_init.desc).map (fun d => d.parameters.length) = some 0 := by decide +kernel
abbrev b_Mod_push : ByteArray := prog_7_method_12_code
def y_Mod_push : MethodName := ⟨R_Mod, "push", "(IJ)Z"⟩
theorem kd_Mod_push : y_Mod_push.cls ≠ "java/lang/invoke/MethodHandle" ∧ y_Mod_push.cls ≠ "java/lang/invoke/VarHandle" ∧ (parseMethodDescriptor y_Mod_push.desc).map (fun d => d.parameters.length) = some 2 := by decide +kernel
abbrev b_Mod_isRegister : ByteArray := prog_7_method_2_code
def y_Mod_isRegister : MethodName := ⟨R_Mod, "isRegister", "(I)Z"⟩
theorem kd_Mod_isRegister : y_Mod_isRegister.cls ≠ "java/lang/invoke/MethodHandle" ∧ y_Mod_isRegister.cls ≠ "java/lang/invoke/VarHandle" ∧ (parseMethodDescriptor y_Mod_isRegister.desc).map (fun d => d.parameters.length) = some 1 := by decide +kernel
abbrev b_Mod_loadX : ByteArray := prog_7_method_4_code
def y_Mod_loadX : MethodName := ⟨R_Mod, "loadX", "(I)V"⟩
theorem kd_Mod_loadX : y_Mod_loadX.cls ≠ "java/lang/invoke/MethodHandle" ∧ y_Mod_loadX.cls ≠ "java/lang/invoke/VarHandle" ∧ (parseMethodDescriptor y_Mod_loadX.desc).map (fun d => d.parameters.length) = some 1 := by decide +kernel
abbrev b_Mod_clearZ : ByteArray := prog_7_method_6_code
def y_Mod_clearZ : MethodName := ⟨R_Mod, "clearZ", "()V"⟩
theorem kd_Mod_clearZ : y_Mod_clearZ.cls ≠ "java/lang/invoke/MethodHandle" ∧ y_Mod_clearZ.cls ≠ "java/lang/invoke/VarHandle" ∧ (parseMethodDescriptor y_Mod_clearZ.desc).map (fun d => d.parameters.length) = some 0 := by decide +kernel
abbrev b_Mod_put : ByteArray := prog_7_method_7_code
def y_Mod_put : MethodName := ⟨R_Mod, "put", "(I[II)Z"⟩
theorem kd_Mod_put : y_Mod_put.cls ≠ "java/lang/invoke/MethodHandle" ∧ y_Mod_put.cls ≠ "java/lang/invoke/VarHandle" ∧ (parseMethodDescriptor y_Mod_put.desc).map (fun d => d.parameters.length) = some 3 := by decide +kernel
abbrev b_Mod_trim : ByteArray := prog_7_method_3_code
def y_Mod_trim : MethodName := ⟨R_Mod, "trim", "([II)I"⟩
theorem kd_Mod_trim : y_Mod_trim.cls ≠ "java/lang/invoke/MethodHandle" ∧ y_Mod_trim.cls ≠ "java/lang/invoke/VarHandle" ∧ (parseMethodDescriptor y_Mod_trim.desc).map (fun d => d.parameters.length) = some 2 := by decide +kernel
abbrev b_Mod_spread : ByteArray := prog_7_method_13_code
def y_Mod_spread : MethodName := ⟨R_Mod, "spread", "(IJI)Z"⟩
theorem kd_Mod_spread : y_Mod_spread.cls ≠ "java/lang/invoke/MethodHandle" ∧ y_Mod_spread.cls ≠ "java/lang/invoke/VarHandle" ∧ (parseMethodDescriptor y_Mod_spread.desc).map (fun d => d.parameters.length) = some 3 := by decide +kernel
abbrev b_Mod_copy : ByteArray := prog_7_method_14_code
def y_Mod_copy : MethodName := ⟨R_Mod, "copy", "(II)Z"⟩
theorem kd_Mod_copy : y_Mod_copy.cls ≠ "java/lang/invoke/MethodHandle" ∧ y_Mod_copy.cls ≠ "java/lang/invoke/VarHandle" ∧ (parseMethodDescriptor y_Mod_copy.desc).map (fun d => d.parameters.length) = some 2 := by decide +kernel
abbrev b_Mod_add : ByteArray := prog_7_method_15_code
def y_Mod_add : MethodName := ⟨R_Mod, "add", "(III)Z"⟩
theorem kd_Mod_add : y_Mod_add.cls ≠ "java/lang/invoke/MethodHandle" ∧ y_Mod_add.cls ≠ "java/lang/invoke/VarHandle" ∧ (parseMethodDescriptor y_Mod_add.desc).map (fun d => d.parameters.length) = some 3 := by decide +kernel
abbrev b_Mod_loadY : ByteArray := prog_7_method_5_code
def y_Mod_loadY : MethodName := ⟨R_Mod, "loadY", "(I)V"⟩
theorem kd_Mod_loadY : y_Mod_loadY.cls ≠ "java/lang/invoke/MethodHandle" ∧ y_Mod_loadY.cls ≠ "java/lang/invoke/VarHandle" ∧ (parseMethodDescriptor y_Mod_loadY.desc).map (fun d => d.parameters.length) = some 1 := by decide +kernel
abbrev b_Mod_take : ByteArray := prog_7_method_16_code
def y_Mod_take : MethodName := ⟨R_Mod, "take", "(III)Z"⟩
theorem kd_Mod_take : y_Mod_take.cls ≠ "java/lang/invoke/MethodHandle" ∧ y_Mod_take.cls ≠ "java/lang/invoke/VarHandle" ∧ (parseMethodDescriptor y_Mod_take.desc).map (fun d => d.parameters.length) = some 3 := by decide +kernel
abbrev b_Mod_compareRows : ByteArray := prog_7_method_8_code
def y_Mod_compareRows : MethodName := ⟨R_Mod, "compareRows", "([II[II)I"⟩
theorem kd_Mod_compareRows : y_Mod_compareRows.cls ≠ "java/lang/invoke/MethodHandle" ∧ y_Mod_compareRows.cls ≠ "java/lang/invoke/VarHandle" ∧ (parseMethodDescriptor y_Mod_compareRows.desc).map (fun d => d.parameters.length) = some 4 := by decide +kernel
abbrev b_Mod_lessen : ByteArray := prog_7_method_9_code
def y_Mod_lessen : MethodName := ⟨R_Mod, "lessen", "([II[II)I"⟩
theorem kd_Mod_lessen : y_Mod_lessen.cls ≠ "java/lang/invoke/MethodHandle" ∧ y_Mod_lessen.cls ≠ "java/lang/invoke/VarHandle" ∧ (parseMethodDescriptor y_Mod_lessen.desc).map (fun d => d.parameters.length) = some 4 := by decide +kernel
abbrev b_Mod_times : ByteArray := prog_7_method_17_code
def y_Mod_times : MethodName := ⟨R_Mod, "times", "(III)Z"⟩
theorem kd_Mod_times : y_Mod_times.cls ≠ "java/lang/invoke/MethodHandle" ∧ y_Mod_times.cls ≠ "java/lang/invoke/VarHandle" ∧ (parseMethodDescriptor y_Mod_times.desc).map (fun d => d.parameters.length) = some 3 := by decide +kernel
abbrev b_Mod_divide : ByteArray := prog_7_method_18_code
def y_Mod_divide : MethodName := ⟨R_Mod, "divide", "(IIII)Z"⟩
theorem kd_Mod_divide : y_Mod_divide.cls ≠ "java/lang/invoke/MethodHandle" ∧ y_Mod_divide.cls ≠ "java/lang/invoke/VarHandle" ∧ (parseMethodDescriptor y_Mod_divide.desc).map (fun d => d.parameters.length) = some 4 := by decide +kernel
abbrev b_Mod_bitOf : ByteArray := prog_7_method_11_code
def y_Mod_bitOf : MethodName := ⟨R_Mod, "bitOf", "([II)I"⟩
theorem kd_Mod_bitOf : y_Mod_bitOf.cls ≠ "java/lang/invoke/MethodHandle" ∧ y_Mod_bitOf.cls ≠ "java/lang/invoke/VarHandle" ∧ (parseMethodDescriptor y_Mod_bitOf.desc).map (fun d => d.parameters.length) = some 2 := by decide +kernel
abbrev b_Mod_twice : ByteArray := prog_7_method_10_code
def y_Mod_twice : MethodName := ⟨R_Mod, "twice", "([III)I"⟩
theorem kd_Mod_twice : y_Mod_twice.cls ≠ "java/lang/invoke/MethodHandle" ∧ y_Mod_twice.cls ≠ "java/lang/invoke/VarHandle" ∧ (parseMethodDescriptor y_Mod_twice.desc).map (fun d => d.parameters.length) = some 3 := by decide +kernel
abbrev b_Mod_root : ByteArray := prog_7_method_19_code
def y_Mod_root : MethodName := ⟨R_Mod, "root", "(III)Z"⟩
theorem kd_Mod_root : y_Mod_root.cls ≠ "java/lang/invoke/MethodHandle" ∧ y_Mod_root.cls ≠ "java/lang/invoke/VarHandle" ∧ (parseMethodDescriptor y_Mod_root.desc).map (fun d => d.parameters.length) = some 3 := by decide +kernel
abbrev b_Mod_halve : ByteArray := prog_7_method_20_code
def y_Mod_halve : MethodName := ⟨R_Mod, "halve", "()V"⟩
theorem kd_Mod_halve : y_Mod_halve.cls ≠ "java/lang/invoke/MethodHandle" ∧ y_Mod_halve.cls ≠ "java/lang/invoke/VarHandle" ∧ (parseMethodDescriptor y_Mod_halve.desc).map (fun d => d.parameters.length) = some 0 := by decide +kernel
abbrev b_Mod_shift : ByteArray := prog_7_method_23_code
def y_Mod_shift : MethodName := ⟨R_Mod, "shift", "(III)Z"⟩
theorem kd_Mod_shift : y_Mod_shift.cls ≠ "java/lang/invoke/MethodHandle" ∧ y_Mod_shift.cls ≠ "java/lang/invoke/VarHandle" ∧ (parseMethodDescriptor y_Mod_shift.desc).map (fun d => d.parameters.length) = some 3 := by decide +kernel
abbrev b_Mod_moved : ByteArray := prog_7_method_22_code
def y_Mod_moved : MethodName := ⟨R_Mod, "moved", "(IIJJJ)Z"⟩
theorem kd_Mod_moved : y_Mod_moved.cls ≠ "java/lang/invoke/MethodHandle" ∧ y_Mod_moved.cls ≠ "java/lang/invoke/VarHandle" ∧ (parseMethodDescriptor y_Mod_moved.desc).map (fun d => d.parameters.length) = some 5 := by decide +kernel
abbrev b_Mod_bitsOf : ByteArray := prog_7_method_21_code
def y_Mod_bitsOf : MethodName := ⟨R_Mod, "bitsOf", "(I)I"⟩
theorem kd_Mod_bitsOf : y_Mod_bitsOf.cls ≠ "java/lang/invoke/MethodHandle" ∧ y_Mod_bitsOf.cls ≠ "java/lang/invoke/VarHandle" ∧ (parseMethodDescriptor y_Mod_bitsOf.desc).map (fun d => d.parameters.length) = some 1 := by decide +kernel
abbrev b_Mod_part : ByteArray := prog_7_method_24_code
def y_Mod_part : MethodName := ⟨R_Mod, "part", "(IIII)Z"⟩
theorem kd_Mod_part : y_Mod_part.cls ≠ "java/lang/invoke/MethodHandle" ∧ y_Mod_part.cls ≠ "java/lang/invoke/VarHandle" ∧ (parseMethodDescriptor y_Mod_part.desc).map (fun d => d.parameters.length) = some 4 := by decide +kernel
abbrev b_Mod_compare : ByteArray := prog_7_method_25_code
def y_Mod_compare : MethodName := ⟨R_Mod, "compare", "(II)I"⟩
theorem kd_Mod_compare : y_Mod_compare.cls ≠ "java/lang/invoke/MethodHandle" ∧ y_Mod_compare.cls ≠ "java/lang/invoke/VarHandle" ∧ (parseMethodDescriptor y_Mod_compare.desc).map (fun d => d.parameters.length) = some 2 := by decide +kernel
abbrev b_Mod_bits : ByteArray := prog_7_method_26_code
def y_Mod_bits : MethodName := ⟨R_Mod, "bits", "(I)I"⟩
theorem kd_Mod_bits : y_Mod_bits.cls ≠ "java/lang/invoke/MethodHandle" ∧ y_Mod_bits.cls ≠ "java/lang/invoke/VarHandle" ∧ (parseMethodDescriptor y_Mod_bits.desc).map (fun d => d.parameters.length) = some 1 := by decide +kernel
abbrev b_Mod_word : ByteArray := prog_7_method_27_code
def y_Mod_word : MethodName := ⟨R_Mod, "word", "(II)I"⟩
theorem kd_Mod_word : y_Mod_word.cls ≠ "java/lang/invoke/MethodHandle" ∧ y_Mod_word.cls ≠ "java/lang/invoke/VarHandle" ∧ (parseMethodDescriptor y_Mod_word.desc).map (fun d => d.parameters.length) = some 2 := by decide +kernel
abbrev b_Mod_ones : ByteArray := prog_7_method_28_code
def y_Mod_ones : MethodName := ⟨R_Mod, "ones", "(I)I"⟩
theorem kd_Mod_ones : y_Mod_ones.cls ≠ "java/lang/invoke/MethodHandle" ∧ y_Mod_ones.cls ≠ "java/lang/invoke/VarHandle" ∧ (parseMethodDescriptor y_Mod_ones.desc).map (fun d => d.parameters.length) = some 1 := by decide +kernel
abbrev b_Mod_lowest : ByteArray := prog_7_method_29_code
def y_Mod_lowest : MethodName := ⟨R_Mod, "lowest", "(I)I"⟩
theorem kd_Mod_lowest : y_Mod_lowest.cls ≠ "java/lang/invoke/MethodHandle" ∧ y_Mod_lowest.cls ≠ "java/lang/invoke/VarHandle" ∧ (parseMethodDescriptor y_Mod_lowest.desc).map (fun d => d.parameters.length) = some 1 := by decide +kernel
abbrev b_Mod_rest : ByteArray := prog_7_method_30_code
def y_Mod_rest : MethodName := ⟨R_Mod, "rest", "(II)I"⟩
theorem kd_Mod_rest : y_Mod_rest.cls ≠ "java/lang/invoke/MethodHandle" ∧ y_Mod_rest.cls ≠ "java/lang/invoke/VarHandle" ∧ (parseMethodDescriptor y_Mod_rest.desc).map (fun d => d.parameters.length) = some 2 := by decide +kernel
end
section
/-! ===== the world of a mill: nineteen Wholes (0 .. 15 the registers, 16 result, 17 left, 18 helper), their rows, the mill, its array ===== -/
/-- cells 0 .. 18 the Wholes, 19 .. 37 their rows, 38 the mill, 39 the array of registers; ad: their addresses -/
def wm_e (ad : Nat → Nat) (cA cR : ClassId) (ln : Nat → Nat) (wd : Nat → Nat → Int32) (k : Nat) : va_E :=
  if k < 19 then .inr (1, [.ref (ad (19 + k)), .int (nI (ln k))])
  else if k < 38 then .inl (cA, 2050, .inl (wd (k - 19)))
  else if k < 39 then .inr (0, [.ref (ad 39), .ref (ad 16), .ref (ad 17), .ref (ad 18)])
  else .inl (cR, 16, .inr (.inr (.inr (.inr (fun i => some (ad i))))))
def wm_w (ad : Nat → Nat) (cA cR : ClassId) (ln : Nat → Nat) (wd : Nat → Nat → Int32) : va_W := (List.range 40).map (fun k => (ad k, wm_e ad cA cR ln wd k))
theorem wm_w_len (ad : Nat → Nat) (cA cR : ClassId) (ln : Nat → Nat) (wd : Nat → Nat → Int32) : (wm_w ad cA cR ln wd).length = 40 := by simp [wm_w]
theorem wm_w_at {ad : Nat → Nat} {cA cR : ClassId} {ln : Nat → Nat} {wd : Nat → Nat → Int32} {k : Nat} (hk : k < 40) : (wm_w ad cA cR ln wd)[k]? = some (ad k, wm_e ad cA cR ln wd k) := by
  unfold wm_w
  rw [List.getElem?_map, List.getElem?_range hk]
  rfl
theorem wm_w_of {ad : Nat → Nat} {cA cR : ClassId} {ln : Nat → Nat} {wd : Nat → Nat → Int32} {k : Nat} {q : Nat × va_E} (h : (wm_w ad cA cR ln wd)[k]? = some q) : k < 40 ∧ q.1 = ad k := by
  have hk : k < 40 := by
    have := (List.getElem?_eq_some_iff.mp h).1
    rwa [wm_w_len] at this
  rw [wm_w_at hk] at h
  cases h
  exact ⟨hk, rfl⟩
theorem wm_at_o {ad : Nat → Nat} {cA cR : ClassId} {ln : Nat → Nat} {wd : Nat → Nat → Int32} {j : Nat} (hj : j < 19) : (wm_w ad cA cR ln wd)[j]? = some (ad j, .inr (1, [.ref (ad (19 + j)), .int (nI (ln j))])) := by
  rw [wm_w_at (by omega), wm_e, if_pos hj]
theorem wm_at_w {ad : Nat → Nat} {cA cR : ClassId} {ln : Nat → Nat} {wd : Nat → Nat → Int32} {j : Nat} (hj : j < 19) : (wm_w ad cA cR ln wd)[19 + j]? = some (ad (19 + j), .inl (cA, 2050, .inl (wd j))) := by
  rw [wm_w_at (by omega), wm_e, if_neg (by omega), if_pos (by omega), Nat.add_sub_cancel_left]
theorem wm_at_m {ad : Nat → Nat} {cA cR : ClassId} {ln : Nat → Nat} {wd : Nat → Nat → Int32} : (wm_w ad cA cR ln wd)[38]? = some (ad 38, .inr (0, [.ref (ad 39), .ref (ad 16), .ref (ad 17), .ref (ad 18)])) := by
  rw [wm_w_at (by omega), wm_e, if_neg (by omega), if_neg (by omega), if_pos (by omega)]
theorem wm_at_r {ad : Nat → Nat} {cA cR : ClassId} {ln : Nat → Nat} {wd : Nat → Nat → Int32} : (wm_w ad cA cR ln wd)[39]? = some (ad 39, .inl (cR, 16, .inr (.inr (.inr (.inr (fun i => some (ad i))))))) := by
  rw [wm_w_at (by omega), wm_e, if_neg (by omega), if_neg (by omega), if_neg (by omega)]
theorem wm_set {ad : Nat → Nat} {cA cR : ClassId} {ln ln' : Nat → Nat} {wd wd' : Nat → Nat → Int32} {j : Nat} {x : va_E} (hx : wm_e ad cA cR ln' wd' j = x) (ho : ∀ k, k < 40 → k ≠ j → wm_e ad cA cR ln' wd' k = wm_e ad cA cR ln wd k) : (wm_w ad cA cR ln wd).set j (ad j, x) = wm_w ad cA cR ln' wd' := by
  apply List.ext_getElem?
  intro k
  by_cases hk : k < 40
  · rw [wm_w_at (ln := ln') hk]
    by_cases e : k = j
    · subst e
      rw [List.getElem?_set_self (by rw [wm_w_len]; exact hk), hx]
    · rw [List.getElem?_set_ne (Ne.symm e), wm_w_at hk, ho k hk e]
  · rw [List.getElem?_eq_none (by rw [List.length_set, wm_w_len]; omega), List.getElem?_eq_none (by rw [wm_w_len]; omega)]
theorem wm_set_o {ad : Nat → Nat} {cA cR : ClassId} {ln : Nat → Nat} {wd : Nat → Nat → Int32} {j n : Nat} (hj : j < 19) : (wm_w ad cA cR ln wd).set j (ad j, .inr (1, [.ref (ad (19 + j)), .int (nI n)])) = wm_w ad cA cR (va_up ln j n) wd := by
  refine wm_set (by rw [wm_e, if_pos hj, va_up_self]) (fun k hk e => ?_)
  unfold wm_e
  rw [va_up_ne _ _ e]
theorem wm_set_w {ad : Nat → Nat} {cA cR : ClassId} {ln : Nat → Nat} {wd : Nat → Nat → Int32} {j : Nat} {g : Nat → Int32} (hj : j < 19) : (wm_w ad cA cR ln wd).set (19 + j) (ad (19 + j), .inl (cA, 2050, .inl g)) = wm_w ad cA cR ln (va_up wd j g) := by
  refine wm_set (by rw [wm_e, if_neg (by omega), if_pos (by omega), Nat.add_sub_cancel_left, va_up_self]) (fun k hk e => ?_)
  unfold wm_e
  by_cases h1 : k < 19
  · rw [if_pos h1, if_pos h1]
  · rw [if_neg h1, if_neg h1]
    by_cases h2 : k < 38
    · rw [if_pos h2, if_pos h2, va_up_ne _ _ (by omega)]
    · rw [if_neg h2, if_neg h2]
/-- the cells that a method of the mill may write: the mill's own, and new ones -/
def wm_A (ad : Nat → Nat) (sz : Nat) : Nat → Prop := fun q => (∃ k, k < 40 ∧ q = ad k) ∨ sz ≤ q
/-- the array classes of the world -/
abbrev wm_ty (cA cR : ClassId) : List (ClassId × FieldType) := [(cA, .int), (cR, .object "WholeMill$Whole")]
/-- the world now, in a method that began at s: what the cells hold, that they are apart, what has been written -/
def wm_M (D : va_G) (ad : Nat → Nat) (cA cR : ClassId) (s : State) (ln : Nat → Nat) (wd : Nat → Nat → Int32) (H : Heap) (locs : List Loc) : Prop :=
  va_P D classes (wm_w ad cA cR ln wd) H ∧ va_D (wm_A ad s.heap.size) (wm_w ad cA cR ln wd) ∧ va_S (wm_A ad s.heap.size) s.heap H locs
/-- a contract's start over the world -/
def wm_B (D : va_G) (ad : Nat → Nat) (cA cR : ClassId) (sz : Nat) (ln : Nat → Nat) (wd : Nat → Nat → Int32) : State → Prop := fun U =>
  U.heap.size = sz ∧ va_P D classes (wm_w ad cA cR ln wd) U.heap ∧ va_K D classes (wm_ty cA cR) U ∧ va_D (fun _ => True) (wm_w ad cA cR ln wd)
abbrev wm_St : Type := (Nat → Nat) × (Nat → Nat → Int32)
/-- its end: u the lengths and rows then -/
def wm_E (D : va_G) (ad : Nat → Nat) (cA cR : ClassId) (sz : Nat) : wm_St → State → Prop := fun u t =>
  va_P D classes (wm_w ad cA cR u.1 u.2) t.heap ∧ va_K D classes (wm_ty cA cR) t ∧ va_D (wm_A ad sz) (wm_w ad cA cR u.1 u.2)
theorem wm_blind (D : va_G) (ad : Nat → Nat) (cA cR : ClassId) (sz : Nat) (ln : Nat → Nat) (wd : Nat → Nat → Int32) (As : List Value) : FrameBlind (va_Pc As (wm_B D ad cA cR sz ln wd)) :=
  fun a U g mk q => by obtain ⟨q0, q1, qP, qK, qD⟩ := q; exact ⟨q0, q1, qP, va_K.moved (u := U) (U := U.calling g mk a) (Vm.Alike.refl U.vm) qK, qD⟩
theorem wm_A_mono {ad : Nat → Nat} {a b q : Nat} (h : a ≤ b) (hq : wm_A ad b q) : wm_A ad a q := by
  rcases hq with h1 | h1
  · exact Or.inl h1
  · exact Or.inr (Nat.le_trans h h1)
theorem wm_good {w : Cond} (h : w ∈ lw_T) : GoodIn lw_T (w :: lw_T) := by
  intro v hv
  rcases List.mem_cons.mp hv with rfl | h2
  · exact ⟨h, good_of_word (List.mem_filter.mp h).2⟩
  · exact ⟨h2, good_of_word (List.mem_filter.mp h2).2⟩
end
section
/-! ===== rows over numbers: nI for ints, lN for longs ===== -/
section NvRows
variable {p : Program} {l : Launch} {e : Env} {R : Room} {s : State} {m : MethodId} {args : Array Value} {below : List Frame} {meth : Method} {c : Code} {H : Heap} {locs : List Loc} {cells slots : Nat} {Q : State → Prop} {cc : ByteArray} {pc : Nat} {ls : Array Slot} {rest : List Value} {own : String} {nL : Nat}
theorem nv_iadd (hC : CallFix p m c cc nL s args lw_T own) {x y : Nat} (hdg : decode cc pc = .ok (.iadd, 1)) (k : W p l e R s m args below meth c H locs cells slots Q (F0 m (pc + 1) ls (.int (nI (x + y)) :: rest))) : W p l e R s m args below meth c H locs cells slots Q (F0 m pc ls (.int (nI y) :: .int (nI x) :: rest)) :=
  lv_iadd hC.1 hC.2.1 hdg (by rw [nI_add]; exact k)
theorem nv_isub (hC : CallFix p m c cc nL s args lw_T own) {x y : Nat} (h : y ≤ x) (hdg : decode cc pc = .ok (.isub, 1)) (k : W p l e R s m args below meth c H locs cells slots Q (F0 m (pc + 1) ls (.int (nI (x - y)) :: rest))) : W p l e R s m args below meth c H locs cells slots Q (F0 m pc ls (.int (nI y) :: .int (nI x) :: rest)) :=
  lv_isub hC.1 hC.2.1 hdg (by rw [pk_sub h]; exact k)
theorem nv_imul (hC : CallFix p m c cc nL s args lw_T own) {x y : Nat} (hdg : decode cc pc = .ok (.imul, 1)) (k : W p l e R s m args below meth c H locs cells slots Q (F0 m (pc + 1) ls (.int (nI (x * y)) :: rest))) : W p l e R s m args below meth c H locs cells slots Q (F0 m pc ls (.int (nI y) :: .int (nI x) :: rest)) :=
  lv_imul hC.1 hC.2.1 hdg (by rw [pk_mul]; exact k)
theorem nv_inc (i : Nat) : nI i + Int32.ofInt 1 = nI (i + 1) := nI_1 i
theorem nv_dec (i : Nat) : nI (i + 1) + Int32.ofInt (-1) = nI i := pk_m1 i
theorem nv_icmp_ge (hC : CallFix p m c cc nL s args lw_T own) {x y : Nat} {off : Int} {tgt : Nat} (h1 : x < 2 ^ 31) (h2 : y < 2 ^ 31) (hdg : decode cc pc = .ok (.if_icmp .ge off, 3)) (ht : (pc : Int) + off = (tgt : Int)) (kt : y ≤ x → W p l e R s m args below meth c H locs cells slots Q (F0 m tgt ls rest)) (kf : x < y → W p l e R s m args below meth c H locs cells slots Q (F0 m (pc + 3) ls rest)) : W p l e R s m args below meth c H locs cells slots Q (F0 m pc ls (.int (nI y) :: .int (nI x) :: rest)) :=
  lv_icmp_ge hC.1 hC.2.1 hdg ht (fun h => kt ((nI_leI h2 h1).mp h)) (fun h => kf (Nat.lt_of_not_le fun z => h ((nI_leI h2 h1).mpr z)))
theorem nv_icmp_lt (hC : CallFix p m c cc nL s args lw_T own) {x y : Nat} {off : Int} {tgt : Nat} (h1 : x < 2 ^ 31) (h2 : y < 2 ^ 31) (hdg : decode cc pc = .ok (.if_icmp .lt off, 3)) (ht : (pc : Int) + off = (tgt : Int)) (kt : x < y → W p l e R s m args below meth c H locs cells slots Q (F0 m tgt ls rest)) (kf : y ≤ x → W p l e R s m args below meth c H locs cells slots Q (F0 m (pc + 3) ls rest)) : W p l e R s m args below meth c H locs cells slots Q (F0 m pc ls (.int (nI y) :: .int (nI x) :: rest)) :=
  lv_icmp_lt hC.1 hC.2.1 hdg ht (fun h => kt ((nI_ltI h1 h2).mp h)) (fun h => kf (Nat.le_of_not_lt fun z => h ((nI_ltI h1 h2).mpr z)))
theorem nv_icmp_gt (hC : CallFix p m c cc nL s args lw_T own) {x y : Nat} {off : Int} {tgt : Nat} (h1 : x < 2 ^ 31) (h2 : y < 2 ^ 31) (hdg : decode cc pc = .ok (.if_icmp .gt off, 3)) (ht : (pc : Int) + off = (tgt : Int)) (kt : y < x → W p l e R s m args below meth c H locs cells slots Q (F0 m tgt ls rest)) (kf : x ≤ y → W p l e R s m args below meth c H locs cells slots Q (F0 m (pc + 3) ls rest)) : W p l e R s m args below meth c H locs cells slots Q (F0 m pc ls (.int (nI y) :: .int (nI x) :: rest)) :=
  lv_icmp_gt hC.1 hC.2.1 hdg ht (fun h => kt ((nI_ltI h2 h1).mp h)) (fun h => kf (Nat.le_of_not_lt fun z => h ((nI_ltI h2 h1).mpr z)))
theorem nv_icmp_le (hC : CallFix p m c cc nL s args lw_T own) {x y : Nat} {off : Int} {tgt : Nat} (h1 : x < 2 ^ 31) (h2 : y < 2 ^ 31) (hdg : decode cc pc = .ok (.if_icmp .le off, 3)) (ht : (pc : Int) + off = (tgt : Int)) (kt : x ≤ y → W p l e R s m args below meth c H locs cells slots Q (F0 m tgt ls rest)) (kf : y < x → W p l e R s m args below meth c H locs cells slots Q (F0 m (pc + 3) ls rest)) : W p l e R s m args below meth c H locs cells slots Q (F0 m pc ls (.int (nI y) :: .int (nI x) :: rest)) :=
  lv_icmp_le hC.1 hC.2.1 hdg ht (fun h => kt ((nI_leI h1 h2).mp h)) (fun h => kf (Nat.lt_of_not_le fun z => h ((nI_leI h1 h2).mpr z)))
theorem nv_icmp_eq (hC : CallFix p m c cc nL s args lw_T own) {x y : Nat} {off : Int} {tgt : Nat} (h1 : x < 2 ^ 31) (h2 : y < 2 ^ 31) (hdg : decode cc pc = .ok (.if_icmp .eq off, 3)) (ht : (pc : Int) + off = (tgt : Int)) (kt : x = y → W p l e R s m args below meth c H locs cells slots Q (F0 m tgt ls rest)) (kf : x ≠ y → W p l e R s m args below meth c H locs cells slots Q (F0 m (pc + 3) ls rest)) : W p l e R s m args below meth c H locs cells slots Q (F0 m pc ls (.int (nI y) :: .int (nI x) :: rest)) :=
  lv_icmp_eq hC.1 hC.2.1 hdg ht (fun h => kt ((nI_eq h1 h2).mp h)) (fun h => kf (fun z => h ((nI_eq h1 h2).mpr z)))
theorem nv_icmp_ne (hC : CallFix p m c cc nL s args lw_T own) {x y : Nat} {off : Int} {tgt : Nat} (h1 : x < 2 ^ 31) (h2 : y < 2 ^ 31) (hdg : decode cc pc = .ok (.if_icmp .ne off, 3)) (ht : (pc : Int) + off = (tgt : Int)) (kt : x ≠ y → W p l e R s m args below meth c H locs cells slots Q (F0 m tgt ls rest)) (kf : x = y → W p l e R s m args below meth c H locs cells slots Q (F0 m (pc + 3) ls rest)) : W p l e R s m args below meth c H locs cells slots Q (F0 m pc ls (.int (nI y) :: .int (nI x) :: rest)) :=
  lv_icmp_ne hC.1 hC.2.1 hdg ht (fun h => kt (fun z => h ((nI_eq h1 h2).mpr z))) (fun h => kf ((nI_eq h1 h2).mp h))
theorem nv_z {x : Nat} (h : x < 2 ^ 31) : nI x = 0 ↔ x = 0 := by rw [← nI_0, nI_eq h (by decide)]
theorem nv_le0 {x : Nat} (h : x < 2 ^ 31) : nI x ≤ 0 ↔ x = 0 := by rw [← nI_0, nI_leI h (by decide)]; omega
theorem nv_if_eq (hC : CallFix p m c cc nL s args lw_T own) {x : Nat} {off : Int} {tgt : Nat} (h1 : x < 2 ^ 31) (hdg : decode cc pc = .ok (.ifCond .eq off, 3)) (ht : (pc : Int) + off = (tgt : Int)) (kt : x = 0 → W p l e R s m args below meth c H locs cells slots Q (F0 m tgt ls rest)) (kf : x ≠ 0 → W p l e R s m args below meth c H locs cells slots Q (F0 m (pc + 3) ls rest)) : W p l e R s m args below meth c H locs cells slots Q (F0 m pc ls (.int (nI x) :: rest)) :=
  lv_if_eq hC.1 hC.2.1 hdg ht (fun h => kt ((nv_z h1).mp h)) (fun h => kf (fun z => h ((nv_z h1).mpr z)))
theorem nv_if_ne (hC : CallFix p m c cc nL s args lw_T own) {x : Nat} {off : Int} {tgt : Nat} (h1 : x < 2 ^ 31) (hdg : decode cc pc = .ok (.ifCond .ne off, 3)) (ht : (pc : Int) + off = (tgt : Int)) (kt : x ≠ 0 → W p l e R s m args below meth c H locs cells slots Q (F0 m tgt ls rest)) (kf : x = 0 → W p l e R s m args below meth c H locs cells slots Q (F0 m (pc + 3) ls rest)) : W p l e R s m args below meth c H locs cells slots Q (F0 m pc ls (.int (nI x) :: rest)) :=
  lv_if_ne hC.1 hC.2.1 hdg ht (fun h => kt (fun z => h ((nv_z h1).mpr z))) (fun h => kf ((nv_z h1).mp h))
theorem nv_if_le (hC : CallFix p m c cc nL s args lw_T own) {x : Nat} {off : Int} {tgt : Nat} (h1 : x < 2 ^ 31) (hdg : decode cc pc = .ok (.ifCond .le off, 3)) (ht : (pc : Int) + off = (tgt : Int)) (kt : x = 0 → W p l e R s m args below meth c H locs cells slots Q (F0 m tgt ls rest)) (kf : x ≠ 0 → W p l e R s m args below meth c H locs cells slots Q (F0 m (pc + 3) ls rest)) : W p l e R s m args below meth c H locs cells slots Q (F0 m pc ls (.int (nI x) :: rest)) :=
  lv_if_le hC.1 hC.2.1 hdg ht (fun h => kt ((nv_le0 h1).mp h)) (fun h => kf (fun z => h ((nv_le0 h1).mpr z)))
/-- the test of a loop that counts down: its int is one less than the number of rounds left -/
theorem nv_down_lt (hC : CallFix p m c cc nL s args lw_T own) {x : Nat} {off : Int} {tgt : Nat} (h1 : x < 2 ^ 31) (hdg : decode cc pc = .ok (.ifCond .lt off, 3)) (ht : (pc : Int) + off = (tgt : Int)) (kt : x = 0 → W p l e R s m args below meth c H locs cells slots Q (F0 m tgt ls rest)) (kf : ∀ y, x = y + 1 → W p l e R s m args below meth c H locs cells slots Q (F0 m (pc + 3) ls rest)) : W p l e R s m args below meth c H locs cells slots Q (F0 m pc ls (.int (nI x + (-1)) :: rest)) := by
  refine lv_if_lt hC.1 hC.2.1 hdg ht (fun h => ?_) (fun h => ?_)
  · rcases Nat.eq_zero_or_pos x with z | z
    · exact kt z
    · obtain ⟨y, rfl⟩ : ∃ y, x = y + 1 := ⟨x - 1, by omega⟩
      rw [pk_m1] at h
      exact absurd h (nI_pos (by omega))
  · rcases Nat.eq_zero_or_pos x with z | z
    · subst z
      exact absurd (show nI 0 + (-1) < 0 by decide) h
    · exact kf (x - 1) (by omega)
theorem nv_isub1 (hC : CallFix p m c cc nL s args lw_T own) {x : Nat} (hdg : decode cc pc = .ok (.isub, 1)) (k : W p l e R s m args below meth c H locs cells slots Q (F0 m (pc + 1) ls (.int (nI x + (-1)) :: rest))) : W p l e R s m args below meth c H locs cells slots Q (F0 m pc ls (.int (nI 1) :: .int (nI x) :: rest)) :=
  lv_isub hC.1 hC.2.1 hdg (by rw [Int32.sub_eq_add_neg]; exact k)
theorem nv_low (hC : CallFix p m c cc nL s args lw_T own) {index : Nat} (hc : Cond.constantLong own index 4294967295 ∈ lw_T) {x : Int32} (h1 : decode cc pc = .ok (.i2l, 1)) (h2 : decode cc (pc + 1) = .ok (.ldc2_w index, 3)) (h3 : decode cc (pc + 4) = .ok (.land, 1)) (k : W p l e R s m args below meth c H locs cells slots Q (F0 m (pc + 5) ls (.long (lN (wm_u x)) :: rest))) : W p l e R s m args below meth c H locs cells slots Q (F0 m pc ls (.int x :: rest)) :=
  lv_i2l hC.1 hC.2.1 h1 rfl (lv_ldc2 hC.1 hC.2.1 hC.2.2.2.1 (hC.2.2.2.2 _ hc) h2 (lv_land hC.1 hC.2.1 h3 (by rw [wm_low]; exact k)))
theorem nv_lowL (hC : CallFix p m c cc nL s args lw_T own) {index : Nat} (hc : Cond.constantLong own index 4294967295 ∈ lw_T) {n : Nat} (hn : n < 2 ^ 64) (h2 : decode cc pc = .ok (.ldc2_w index, 3)) (h3 : decode cc (pc + 3) = .ok (.land, 1)) (k : W p l e R s m args below meth c H locs cells slots Q (F0 m (pc + 4) ls (.long (lN (n % 4294967296)) :: rest))) : W p l e R s m args below meth c H locs cells slots Q (F0 m pc ls (.long (lN n) :: rest)) :=
  lv_ldc2 hC.1 hC.2.1 hC.2.2.2.1 (hC.2.2.2.2 _ hc) h2 (lv_land hC.1 hC.2.1 h3 (by rw [wm_lowL hn]; exact k))
theorem nv_ladd (hC : CallFix p m c cc nL s args lw_T own) {x y : Nat} (hdg : decode cc pc = .ok (.ladd, 1)) (k : W p l e R s m args below meth c H locs cells slots Q (F0 m (pc + 1) ls (.long (lN (x + y)) :: rest))) : W p l e R s m args below meth c H locs cells slots Q (F0 m pc ls (.long (lN y) :: .long (lN x) :: rest)) :=
  lv_ladd hC.1 hC.2.1 hdg (by rw [lN_add]; exact k)
theorem nv_lmul (hC : CallFix p m c cc nL s args lw_T own) {x y : Nat} (hdg : decode cc pc = .ok (.lmul, 1)) (k : W p l e R s m args below meth c H locs cells slots Q (F0 m (pc + 1) ls (.long (lN (x * y)) :: rest))) : W p l e R s m args below meth c H locs cells slots Q (F0 m pc ls (.long (lN y) :: .long (lN x) :: rest)) :=
  lv_lmul hC.1 hC.2.1 hdg (by rw [lN_mul]; exact k)
theorem nv_lsub (hC : CallFix p m c cc nL s args lw_T own) {x y : Nat} (h : y ≤ x) (hdg : decode cc pc = .ok (.lsub, 1)) (k : W p l e R s m args below meth c H locs cells slots Q (F0 m (pc + 1) ls (.long (lN (x - y)) :: rest))) : W p l e R s m args below meth c H locs cells slots Q (F0 m pc ls (.long (lN y) :: .long (lN x) :: rest)) :=
  lv_lsub hC.1 hC.2.1 hdg (by rw [lN_sub h]; exact k)
theorem nv_lsubw (hC : CallFix p m c cc nL s args lw_T own) {x y : Nat} (h : y ≤ 2 ^ 64) (hdg : decode cc pc = .ok (.lsub, 1)) (k : W p l e R s m args below meth c H locs cells slots Q (F0 m (pc + 1) ls (.long (lN (x + (2 ^ 64 - y))) :: rest))) : W p l e R s m args below meth c H locs cells slots Q (F0 m pc ls (.long (lN y) :: .long (lN x) :: rest)) :=
  lv_lsub hC.1 hC.2.1 hdg (by rw [wm_lsub h]; exact k)
theorem nv_lushr (hC : CallFix p m c cc nL s args lw_T own) {n k : Nat} (hn : n < 2 ^ 64) (hk : k < 64) (hdg : decode cc pc = .ok (.lushr, 1)) (kk : W p l e R s m args below meth c H locs cells slots Q (F0 m (pc + 1) ls (.long (lN (n / 2 ^ k)) :: rest))) : W p l e R s m args below meth c H locs cells slots Q (F0 m pc ls (.int (nI k) :: .long (lN n) :: rest)) :=
  lv_lushr hC.1 hC.2.1 hdg (wb_shr hn hk) kk
theorem nv_lshl (hC : CallFix p m c cc nL s args lw_T own) {n k : Nat} (hk : k < 64) (hdg : decode cc pc = .ok (.lshl, 1)) (kk : W p l e R s m args below meth c H locs cells slots Q (F0 m (pc + 1) ls (.long (lN (n * 2 ^ k)) :: rest))) : W p l e R s m args below meth c H locs cells slots Q (F0 m pc ls (.int (nI k) :: .long (lN n) :: rest)) :=
  lv_lshl hC.1 hC.2.1 hdg (wb_shl n hk) kk
theorem nv_l2i (hC : CallFix p m c cc nL s args lw_T own) {n : Nat} (hdg : decode cc pc = .ok (.l2i, 1)) (kk : W p l e R s m args below meth c H locs cells slots Q (F0 m (pc + 1) ls (.int (nI n) :: rest))) : W p l e R s m args below meth c H locs cells slots Q (F0 m pc ls (.long (lN n) :: rest)) :=
  lv_l2i hC.1 hC.2.1 hdg (lN_i n) kk
theorem nv_i2l (hC : CallFix p m c cc nL s args lw_T own) {n : Nat} (hn : n < 2 ^ 31) (hdg : decode cc pc = .ok (.i2l, 1)) (kk : W p l e R s m args below meth c H locs cells slots Q (F0 m (pc + 1) ls (.long (lN n) :: rest))) : W p l e R s m args below meth c H locs cells slots Q (F0 m pc ls (.int (nI n) :: rest)) :=
  lv_i2l hC.1 hC.2.1 hdg (nI_l hn) kk
theorem nv_iushr (hC : CallFix p m c cc nL s args lw_T own) {n k : Nat} (hn : n < 2 ^ 32) (hk : k < 32) (hdg : decode cc pc = .ok (.iushr, 1)) (kk : W p l e R s m args below meth c H locs cells slots Q (F0 m (pc + 1) ls (.int (nI (n / 2 ^ k)) :: rest))) : W p l e R s m args below meth c H locs cells slots Q (F0 m pc ls (.int (nI k) :: .int (nI n) :: rest)) :=
  lv_iushr hC.1 hC.2.1 hdg (pk_ushrN hn _ k (wm_s_u k hk)) kk
theorem nv_iand (hC : CallFix p m c cc nL s args lw_T own) {n k : Nat} (hn : n < 2 ^ 32) (hk : k < 32) (hdg : decode cc pc = .ok (.iand, 1)) (kk : W p l e R s m args below meth c H locs cells slots Q (F0 m (pc + 1) ls (.int (nI (n % 2 ^ k)) :: rest))) : W p l e R s m args below meth c H locs cells slots Q (F0 m pc ls (.int (nI (2 ^ k - 1)) :: .int (nI n) :: rest)) :=
  lv_iand hC.1 hC.2.1 hdg (by rw [pk_andN hn k (pk_tn (by have := Nat.pow_lt_pow_right (show 1 < 2 by decide) hk; omega))]; exact kk)
theorem nv_lushr32 (hC : CallFix p m c cc nL s args lw_T own) {n : Nat} (hn : n < 18446744073709551616) (hdg : decode cc pc = .ok (.lushr, 1)) (kk : W p l e R s m args below meth c H locs cells slots Q (F0 m (pc + 1) ls (.long (lN (n / 4294967296)) :: rest))) : W p l e R s m args below meth c H locs cells slots Q (F0 m pc ls (.int (nI 32) :: .long (lN n) :: rest)) :=
  nv_lushr hC (k := 32) hn (by decide) hdg kk
theorem nv_maxi {a b : Nat} (ha : a < 2 ^ 31) (hb : b < 2 ^ 31) : (if nI a < nI b then nI b else nI a) = nI (max a b) := by
  by_cases h : a < b
  · rw [if_pos ((nI_ltI ha hb).mpr h), Nat.max_eq_right (Nat.le_of_lt h)]
  · rw [if_neg (fun z => h ((nI_ltI ha hb).mp z)), Nat.max_eq_left (Nat.le_of_not_lt h)]
theorem nv_mini {a b : Nat} (ha : a < 2 ^ 31) (hb : b < 2 ^ 31) : (if nI b < nI a then nI b else nI a) = nI (min a b) := by
  by_cases h : b < a
  · rw [if_pos ((nI_ltI hb ha).mpr h), Nat.min_eq_right (Nat.le_of_lt h)]
  · rw [if_neg (fun z => h ((nI_ltI hb ha).mp z)), Nat.min_eq_left (Nat.le_of_not_lt h)]
theorem nv_mmax (hC : CallFix p m c cc nL s args lw_T own) (hsz : ls.size = nL) {index : Nat} (hlink : Cond.methodLink own index Lib.Math.max.name ∈ lw_T) (hstat : Cond.static Lib.Math.max.name ∈ lw_T) (hini : Cond.initialized "java/lang/Math" ∈ lw_T) (hcode : Cond.code Lib.Math.max.name Lib.Math.max.code 2 (some .int) ∈ lw_T) (hfr : 1 ≤ R.frames) (hlo : (rest.map fun v => v.category).sum + 13 ≤ R.locals) {x y : Int32} (hdg : decode cc pc = .ok (.invokestatic index, 3))
    (kk : W p l e R s m args below meth c H locs 0 0 Q (F0 m (pc + 3) ls (.int (if x < y then y else x) :: rest))) : W p l e R s m args below meth c H locs 0 0 Q (F0 m pc ls (.int y :: .int x :: rest)) :=
  va_mmax hC.1 hC.2.1 (by rw [hC.2.2.1, hsz]) hC.2.2.2.1 (hC.2.2.2.2 _ hlink) (hC.2.2.2.2 _ hstat) (hC.2.2.2.2 _ hini) (hC.2.2.2.2 _ hcode) hfr hlo (Nat.zero_le _) (Nat.zero_le _) hdg kk
theorem nv_mmin (hC : CallFix p m c cc nL s args lw_T own) (hsz : ls.size = nL) {index : Nat} (hlink : Cond.methodLink own index Lib.Math.min.name ∈ lw_T) (hstat : Cond.static Lib.Math.min.name ∈ lw_T) (hini : Cond.initialized "java/lang/Math" ∈ lw_T) (hcode : Cond.code Lib.Math.min.name Lib.Math.min.code 2 (some .int) ∈ lw_T) (hfr : 1 ≤ R.frames) (hlo : (rest.map fun v => v.category).sum + 13 ≤ R.locals) {x y : Int32} (hdg : decode cc pc = .ok (.invokestatic index, 3))
    (kk : W p l e R s m args below meth c H locs 0 0 Q (F0 m (pc + 3) ls (.int (if y < x then y else x) :: rest))) : W p l e R s m args below meth c H locs 0 0 Q (F0 m pc ls (.int y :: .int x :: rest)) :=
  va_mmin hC.1 hC.2.1 (by rw [hC.2.2.1, hsz]) hC.2.2.2.1 (hC.2.2.2.2 _ hlink) (hC.2.2.2.2 _ hstat) (hC.2.2.2.2 _ hini) (hC.2.2.2.2 _ hcode) hfr hlo (Nat.zero_le _) (Nat.zero_le _) hdg kk
theorem nz_lsub (hC : CallFix p m c cc nL s args lw_T own) {x y : Int} (hdg : decode cc pc = .ok (.lsub, 1)) (k : W p l e R s m args below meth c H locs cells slots Q (F0 m (pc + 1) ls (.long (lz_i (x - y)) :: rest))) : W p l e R s m args below meth c H locs cells slots Q (F0 m pc ls (.long (lz_i y) :: .long (lz_i x) :: rest)) :=
  lv_lsub hC.1 hC.2.1 hdg (by rw [lz_sub]; exact k)
theorem nz_ladd (hC : CallFix p m c cc nL s args lw_T own) {x y : Int} (hdg : decode cc pc = .ok (.ladd, 1)) (k : W p l e R s m args below meth c H locs cells slots Q (F0 m (pc + 1) ls (.long (lz_i (x + y)) :: rest))) : W p l e R s m args below meth c H locs cells slots Q (F0 m pc ls (.long (lz_i y) :: .long (lz_i x) :: rest)) :=
  lv_ladd hC.1 hC.2.1 hdg (by rw [lz_add]; exact k)
/-- x - y of two longs that are numbers: with a sign -/
theorem nz_lsubn (hC : CallFix p m c cc nL s args lw_T own) {x y : Nat} (hdg : decode cc pc = .ok (.lsub, 1)) (k : W p l e R s m args below meth c H locs cells slots Q (F0 m (pc + 1) ls (.long (lz_i ((x : Int) - (y : Int))) :: rest))) : W p l e R s m args below meth c H locs cells slots Q (F0 m pc ls (.long (lN y) :: .long (lN x) :: rest)) :=
  lv_lsub hC.1 hC.2.1 hdg (by rw [lz_n, lz_n, lz_sub]; exact k)
theorem nz_lsubm (hC : CallFix p m c cc nL s args lw_T own) {x : Int} {y : Nat} (hdg : decode cc pc = .ok (.lsub, 1)) (k : W p l e R s m args below meth c H locs cells slots Q (F0 m (pc + 1) ls (.long (lz_i (x - (y : Int))) :: rest))) : W p l e R s m args below meth c H locs cells slots Q (F0 m pc ls (.long (lN y) :: .long (lz_i x) :: rest)) :=
  lv_lsub hC.1 hC.2.1 hdg (by rw [lz_n, lz_sub]; exact k)
theorem nz_l2i (hC : CallFix p m c cc nL s args lw_T own) {z : Int} (hdg : decode cc pc = .ok (.l2i, 1)) (kk : W p l e R s m args below meth c H locs cells slots Q (F0 m (pc + 1) ls (.int (Int32.ofInt z) :: rest))) : W p l e R s m args below meth c H locs cells slots Q (F0 m pc ls (.long (lz_i z) :: rest)) :=
  lv_l2i hC.1 hC.2.1 hdg (lz_32 z) kk
theorem nz_63 (hC : CallFix p m c cc nL s args lw_T own) {z : Int} (h1 : -9223372036854775808 ≤ z) (h2 : z < 9223372036854775808) (hdg : decode cc pc = .ok (.lushr, 1)) (kk : W p l e R s m args below meth c H locs cells slots Q (F0 m (pc + 1) ls (.long (lN (if z < 0 then 1 else 0)) :: rest))) : W p l e R s m args below meth c H locs cells slots Q (F0 m pc ls (.int (nI 63) :: .long (lz_i z) :: rest)) :=
  lv_lushr hC.1 hC.2.1 hdg (lz_63 h1 h2) kk
end NvRows
end
section
/-! ===== rows over the mill's world ===== -/
section WmRows
variable {p : Program} {l : Launch} {e : Env} {R : Room} {s : State} {m : MethodId} {args : Array Value} {below : List Frame} {meth : Method} {c : Code} {H : Heap} {locs : List Loc} {cells slots : Nat} {Q : State → Prop} {cc : ByteArray} {pc : Nat} {ls : Array Slot} {rest : List Value} {own : String} {nL : Nat}
  {D : va_G} {ad : Nat → Nat} {cA cR : ClassId} {ln : Nat → Nat} {wd : Nat → Nat → Int32}
theorem wm_len (hC : CallFix p m c cc nL s args lw_T own) (hK : va_K D classes (wm_ty cA cR) s) (hM : wm_M D ad cA cR s ln wd H locs) {j index : Nat} (hj : j < 19) (hlink : Cond.fieldLink own index "WholeMill$Whole" "length" "I" ∈ lw_T) (hdg : decode cc pc = .ok (.getfield index, 3)) (kk : W p l e R s m args below meth c H locs cells slots Q (F0 m (pc + 3) ls (.int (nI (ln j)) :: rest))) : W p l e R s m args below meth c H locs cells slots Q (F0 m pc ls (.ref (ad j) :: rest)) :=
  va_get (D := D) (ci := 1) (C := R_Whole) (T := F_Whole) (N := 2) hC.1 hC.2.1 hC.2.2.2.2 i_Whole hC.2.2.2.1 hK hM.1 j (wm_at_o hj) rfl 1 (by decide) (hC.2.2.2.2 _ hlink) (fun _ h9 => h9) rfl hdg kk
theorem wm_wds (hC : CallFix p m c cc nL s args lw_T own) (hK : va_K D classes (wm_ty cA cR) s) (hM : wm_M D ad cA cR s ln wd H locs) {j index : Nat} (hj : j < 19) (hlink : Cond.fieldLink own index "WholeMill$Whole" "words" "[I" ∈ lw_T) (hdg : decode cc pc = .ok (.getfield index, 3)) (kk : W p l e R s m args below meth c H locs cells slots Q (F0 m (pc + 3) ls (.ref (ad (19 + j)) :: rest))) : W p l e R s m args below meth c H locs cells slots Q (F0 m pc ls (.ref (ad j) :: rest)) :=
  va_get (D := D) (ci := 1) (C := R_Whole) (T := F_Whole) (N := 2) hC.1 hC.2.1 hC.2.2.2.2 i_Whole hC.2.2.2.1 hK hM.1 j (wm_at_o hj) rfl 0 (by decide) (hC.2.2.2.2 _ hlink) (fun _ h9 => h9) rfl hdg kk
theorem wm_regs (hC : CallFix p m c cc nL s args lw_T own) (hK : va_K D classes (wm_ty cA cR) s) (hM : wm_M D ad cA cR s ln wd H locs) {index : Nat} (hlink : Cond.fieldLink own index "WholeMill" "registers" "[LWholeMill$Whole;" ∈ lw_T) (hdg : decode cc pc = .ok (.getfield index, 3)) (kk : W p l e R s m args below meth c H locs cells slots Q (F0 m (pc + 3) ls (.ref (ad 39) :: rest))) : W p l e R s m args below meth c H locs cells slots Q (F0 m pc ls (.ref (ad 38) :: rest)) :=
  va_get (D := D) (ci := 0) (C := R_Mill) (T := F_Mill) (N := 4) hC.1 hC.2.1 hC.2.2.2.2 i_Mill hC.2.2.2.1 hK hM.1 38 wm_at_m rfl 0 (by decide) (hC.2.2.2.2 _ hlink) (fun _ h9 => h9) rfl hdg kk
theorem wm_res (hC : CallFix p m c cc nL s args lw_T own) (hK : va_K D classes (wm_ty cA cR) s) (hM : wm_M D ad cA cR s ln wd H locs) {index : Nat} (hlink : Cond.fieldLink own index "WholeMill" "result" "LWholeMill$Whole;" ∈ lw_T) (hdg : decode cc pc = .ok (.getfield index, 3)) (kk : W p l e R s m args below meth c H locs cells slots Q (F0 m (pc + 3) ls (.ref (ad 16) :: rest))) : W p l e R s m args below meth c H locs cells slots Q (F0 m pc ls (.ref (ad 38) :: rest)) :=
  va_get (D := D) (ci := 0) (C := R_Mill) (T := F_Mill) (N := 4) hC.1 hC.2.1 hC.2.2.2.2 i_Mill hC.2.2.2.1 hK hM.1 38 wm_at_m rfl 1 (by decide) (hC.2.2.2.2 _ hlink) (fun _ h9 => h9) rfl hdg kk
theorem wm_lef (hC : CallFix p m c cc nL s args lw_T own) (hK : va_K D classes (wm_ty cA cR) s) (hM : wm_M D ad cA cR s ln wd H locs) {index : Nat} (hlink : Cond.fieldLink own index "WholeMill" "left" "LWholeMill$Whole;" ∈ lw_T) (hdg : decode cc pc = .ok (.getfield index, 3)) (kk : W p l e R s m args below meth c H locs cells slots Q (F0 m (pc + 3) ls (.ref (ad 17) :: rest))) : W p l e R s m args below meth c H locs cells slots Q (F0 m pc ls (.ref (ad 38) :: rest)) :=
  va_get (D := D) (ci := 0) (C := R_Mill) (T := F_Mill) (N := 4) hC.1 hC.2.1 hC.2.2.2.2 i_Mill hC.2.2.2.1 hK hM.1 38 wm_at_m rfl 2 (by decide) (hC.2.2.2.2 _ hlink) (fun _ h9 => h9) rfl hdg kk
theorem wm_hel (hC : CallFix p m c cc nL s args lw_T own) (hK : va_K D classes (wm_ty cA cR) s) (hM : wm_M D ad cA cR s ln wd H locs) {index : Nat} (hlink : Cond.fieldLink own index "WholeMill" "helper" "LWholeMill$Whole;" ∈ lw_T) (hdg : decode cc pc = .ok (.getfield index, 3)) (kk : W p l e R s m args below meth c H locs cells slots Q (F0 m (pc + 3) ls (.ref (ad 18) :: rest))) : W p l e R s m args below meth c H locs cells slots Q (F0 m pc ls (.ref (ad 38) :: rest)) :=
  va_get (D := D) (ci := 0) (C := R_Mill) (T := F_Mill) (N := 4) hC.1 hC.2.1 hC.2.2.2.2 i_Mill hC.2.2.2.1 hK hM.1 38 wm_at_m rfl 3 (by decide) (hC.2.2.2.2 _ hlink) (fun _ h9 => h9) rfl hdg kk
theorem wm_putlen (hC : CallFix p m c cc nL s args lw_T own) (hK : va_K D classes (wm_ty cA cR) s) (hM : wm_M D ad cA cR s ln wd H locs) {j n index : Nat} (hj : j < 19) (hlink : Cond.fieldLink own index "WholeMill$Whole" "length" "I" ∈ lw_T) (hdg : decode cc pc = .ok (.putfield index, 3)) (kk : ∀ (H1 : Heap) (locs1 : List Loc), wm_M D ad cA cR s (va_up ln j n) wd H1 locs1 → W p l e R s m args below meth c H1 locs1 cells slots Q (F0 m (pc + 3) ls rest)) : W p l e R s m args below meth c H locs cells slots Q (F0 m pc ls (.int (nI n) :: .ref (ad j) :: rest)) := by
  refine va_put (D := D) (ci := 1) (v := .int (nI n)) (ty := .int) (C := R_Whole) (T := F_Whole) (N := 2) hC.1 hC.2.1 hC.2.2.2.2 i_Whole t_Whole t_Whole_ok n_Whole hC.2.2.2.1 hK hM.1 hM.2.1 hM.2.2 j (wm_at_o hj) rfl 1 (by decide) (hC.2.2.2.2 _ hlink) (fun _ h9 => h9) rfl (by decide +kernel) rfl rfl (Nat.le_of_ble_eq_true rfl) hdg (fun H1 locs1 hP hD hS => ?_)
  have hP : va_P D classes ((wm_w ad cA cR ln wd).set j (ad j, .inr (1, [.ref (ad (19 + j)), .int (nI n)]))) H1 := hP
  have hD : va_D (wm_A ad s.heap.size) ((wm_w ad cA cR ln wd).set j (ad j, .inr (1, [.ref (ad (19 + j)), .int (nI n)]))) := hD
  rw [wm_set_o hj] at hP hD
  exact kk H1 locs1 ⟨hP, hD, hS⟩
theorem wm_ald (hC : CallFix p m c cc nL s args lw_T own) (hK : va_K D classes (wm_ty cA cR) s) (hM : wm_M D ad cA cR s ln wd H locs) {j k : Nat} (hj : j < 19) (hk : k < 2050) (hdg : decode cc pc = .ok (.iaload, 1)) (kk : W p l e R s m args below meth c H locs cells slots Q (F0 m (pc + 1) ls (.int (wd j k) :: rest))) : W p l e R s m args below meth c H locs cells slots Q (F0 m pc ls (.int (nI k) :: .ref (ad (19 + j)) :: rest)) :=
  va_iald hC.1 hC.2.1 hK hM.1 (19 + j) 0 (wm_at_w hj) rfl (vp_in_nI hk (by decide)) hdg (by rw [nI_clamp (by omega)]; exact kk)
theorem wm_ast (hC : CallFix p m c cc nL s args lw_T own) (hK : va_K D classes (wm_ty cA cR) s) (hM : wm_M D ad cA cR s ln wd H locs) {j k : Nat} {x : Int32} (hj : j < 19) (hk : k < 2050) (hdg : decode cc pc = .ok (.iastore, 1)) (kk : ∀ (H1 : Heap) (locs1 : List Loc), wm_M D ad cA cR s ln (va_up wd j (upd (wd j) k x)) H1 locs1 → W p l e R s m args below meth c H1 locs1 cells slots Q (F0 m (pc + 1) ls rest)) : W p l e R s m args below meth c H locs cells slots Q (F0 m pc ls (.int x :: .int (nI k) :: .ref (ad (19 + j)) :: rest)) := by
  refine va_iast hC.1 hC.2.1 hK hM.1 hM.2.1 hM.2.2 (19 + j) 0 (wm_at_w hj) rfl (vp_in_nI hk (by decide)) hdg (fun H1 locs1 hP hD hS => ?_)
  rw [nI_clamp (by omega), wm_set_w hj] at hP hD
  exact kk H1 locs1 ⟨hP, hD, hS⟩
theorem wm_reg (hC : CallFix p m c cc nL s args lw_T own) (hK : va_K D classes (wm_ty cA cR) s) (hM : wm_M D ad cA cR s ln wd H locs) {i : Nat} (hi : i < 16) (hdg : decode cc pc = .ok (.aaload, 1)) (kk : W p l e R s m args below meth c H locs cells slots Q (F0 m (pc + 1) ls (.ref (ad i) :: rest))) : W p l e R s m args below meth c H locs cells slots Q (F0 m pc ls (.int (nI i) :: .ref (ad 39) :: rest)) :=
  va_aldq hC.1 hC.2.1 hK hM.1 39 1 (C := "WholeMill$Whole") wm_at_r rfl (vp_in_nI hi (by decide)) hdg (by rw [nI_clamp (by omega)]; exact kk)
theorem wm_iret (hC : CallFix p m c cc nL s args lw_T own) (hK : va_K D classes (wm_ty cA cR) s) (hM : wm_M D ad cA cR s ln wd H locs) (hr : meth.sig.returnType = some .int) (hlk : meth.locks = false) {post : Int32 → wm_St → Prop} {v : Int32} (hp : post v (ln, wd)) (hdg : decode cc pc = .ok (.ireturn, 1)) : W p l e R s m args below meth c H locs 0 0 (MQ below (va_Qi post (wm_E D ad cA cR s.heap.size) (wm_A ad s.heap.size)) args s 0 0 (wm_A ad s.heap.size)) (F0 m pc ls [.int v]) :=
  W.iret hC.1 hC.2.1 hr (fun t ht hW => ⟨⟨v, (ln, wd), rfl, hp, by rw [ht]; exact hM.1, va_K.moved hW.alike hK, hM.2.1⟩, hM.2.2.F ht⟩) hM.2.2.2.2 hdg (hlocks := hlk)
theorem wm_zret (hC : CallFix p m c cc nL s args lw_T own) (hK : va_K D classes (wm_ty cA cR) s) (hM : wm_M D ad cA cR s ln wd H locs) {ty : FieldType} (hr : meth.sig.returnType = some ty) (hlk : meth.locks = false) {post : Int32 → wm_St → Prop} {v : Int32} (hn : narrow ty (.int v) = .int v) (hp : post v (ln, wd)) (hdg : decode cc pc = .ok (.ireturn, 1)) : W p l e R s m args below meth c H locs 0 0 (MQ below (va_Qi post (wm_E D ad cA cR s.heap.size) (wm_A ad s.heap.size)) args s 0 0 (wm_A ad s.heap.size)) (F0 m pc ls [.int v]) :=
  W.zret hC.1 hC.2.1 hr hn (fun t ht hW => ⟨⟨v, (ln, wd), rfl, hp, by rw [ht]; exact hM.1, va_K.moved hW.alike hK, hM.2.1⟩, hM.2.2.F ht⟩) hM.2.2.2.2 hdg (hlocks := hlk)
theorem wm_lret (hC : CallFix p m c cc nL s args lw_T own) (hK : va_K D classes (wm_ty cA cR) s) (hM : wm_M D ad cA cR s ln wd H locs) (hr : meth.sig.returnType = some .long) (hlk : meth.locks = false) {post : Int64 → wm_St → Prop} {v : Int64} (hp : post v (ln, wd)) (hdg : decode cc pc = .ok (.lreturn, 1)) : W p l e R s m args below meth c H locs 0 0 (MQ below (va_Ql post (wm_E D ad cA cR s.heap.size) (wm_A ad s.heap.size)) args s 0 0 (wm_A ad s.heap.size)) (F0 m pc ls [.long v]) :=
  W.lret hC.1 hC.2.1 hr (fun t ht hW => ⟨⟨v, (ln, wd), rfl, hp, by rw [ht]; exact hM.1, va_K.moved hW.alike hK, hM.2.1⟩, hM.2.2.F ht⟩) hM.2.2.2.2 hdg (hlocks := hlk)
theorem wm_vret (hC : CallFix p m c cc nL s args lw_T own) (hK : va_K D classes (wm_ty cA cR) s) (hM : wm_M D ad cA cR s ln wd H locs) (hr : meth.sig.returnType = none) (hlk : meth.locks = false) {post : wm_St → Prop} (hp : post (ln, wd)) (hdg : decode cc pc = .ok (.return_, 1)) : W p l e R s m args below meth c H locs 0 0 (MQ below (va_Qv post (wm_E D ad cA cR s.heap.size) (wm_A ad s.heap.size)) args s 0 0 (wm_A ad s.heap.size)) (F0 m pc ls []) :=
  W.vret hC.1 hC.2.1 hr (fun t ht hW => ⟨⟨(ln, wd), rfl, hp, by rw [ht]; exact hM.1, va_K.moved hW.alike hK, hM.2.1⟩, hM.2.2.F ht⟩) hM.2.2.2.2 hdg (hlocks := hlk)
theorem wm_met (l : Launch) {y : MethodName} {cc : ByteArray} {maxL : Nat} {ret : Option FieldType} {rm : Room} {D : va_G} {ad : Nat → Nat} {cA cR : ClassId} {sz : Nat} {ln : Nat → Nat} {wd : Nat → Nat → Int32} {As : List Value} {Qc : Array Value → State → Outcome → State → Prop} (hy : plainName y.cls = true) (hlen : (lg_sl As).length ≤ maxL)
    (body : ∀ (p : Program) (e : Env) (s : State) (m : MethodId) (below : List Frame) (meth : Method) (c : Code) (ls : Array Slot), s.heap.size = sz → CallFix p m c cc maxL s As.toArray lw_T y.cls → va_K D classes (wm_ty cA cR) s → meth.sig.returnType = ret → meth.locks = false → wm_M D ad cA cR s ln wd s.heap [] → lv_has ls maxL (lv_args 0 As) →
      W p l e rm s m As.toArray below meth c s.heap [] 0 0 (MQ below Qc As.toArray s 0 0 (wm_A ad sz)) (F0 m 0 ls [])) : Met l y (Cond.code y cc maxL ret :: lw_T) rm (va_Pc As (wm_B D ad cA cR sz ln wd)) Qc 0 0 (wm_A ad sz) := by
  refine Met.ofW (cc := cc) (maxL := maxL) (ret := ret) hy rfl ?_
  intro p e s m args below meth c s₁ B hml hv
  obtain ⟨rfl, hsz, hP, hK, hD0⟩ := hv
  have hts := atoms_spec (ws := Cond.code y cc maxL ret :: lw_T) B.pre
  have hown : s.vm.findClass y.cls = some m.cls := findClass_of_methodNamed B.named
  have hl := lv_entry As (n := maxL) hlen
  rw [lg_entry_eq]
  exact body p e s m below meth c _ hsz ⟨B.exec, B.bytes, hml, hown, fun w hw => hts w (List.mem_cons_of_mem _ hw)⟩ hK B.returns B.notSynchronized ⟨hP, ⟨hD0.1, fun k q hk => Or.inl ⟨k, wm_w_of hk⟩⟩, va_S.rf⟩ hl
theorem wm_callSi (hC : CallFix p m c cc nL s args lw_T own) (hK : va_K D classes (wm_ty cA cR) s) (hM : wm_M D ad cA cR s ln wd H locs) {y : MethodName} {bc : ByteArray} {mL index : Nat} {ret : Option FieldType} {rm : Room} {As st0 : List Value} {post : Int32 → wm_St → Prop} (hMet : Met l y (Cond.code y bc mL ret :: lw_T) rm (va_Pc As (wm_B D ad cA cR H.size ln wd)) (va_Qi post (wm_E D ad cA cR H.size) (wm_A ad H.size)) 0 0 (wm_A ad H.size)) (hcode : Cond.code y bc mL ret ∈ lw_T) (hlink : Cond.methodLink own index y ∈ lw_T) (hini : Cond.initialized y.cls ∈ lw_T) (hstat : Cond.static y ∈ lw_T) (hd : y.cls ≠ "java/lang/invoke/MethodHandle" ∧ y.cls ≠ "java/lang/invoke/VarHandle" ∧ (parseMethodDescriptor y.desc).map (fun d => d.parameters.length) = some As.length) (hrm : rm.cells = 0 ∧ rm.slots = 0) (hR : rm.frames + 1 ≤ R.frames ∧ 8 + (mL + 11) + rm.locals ≤ R.locals) (hst : st0 = As.reverse ++ rest) (hsz : ls.size = nL) (hw : (rest.map fun v => v.category).sum ≤ 8) (hdg : decode cc pc = .ok (.invokestatic index, 3))
    (kk : ∀ (r : Int32) (u : wm_St) (H1 : Heap) (locs1 : List Loc), post r u → wm_M D ad cA cR s u.1 u.2 H1 locs1 → W p l e R s m args below meth c H1 locs1 0 0 Q (F0 m (pc + 3) ls (.int r :: rest))) : W p l e R s m args below meth c H locs 0 0 Q (F0 m pc ls st0) := by
  refine va_calli (va_runS (As := As) (rest := rest) hC hMet ⟨callB_of As.length hC.2.2.2.2 (wm_good hcode) rfl hrm.1 hrm.2 (hC.2.2.2.2 _ hini) (hC.2.2.2.2 _ hlink) hd hR, hC.2.2.2.2 _ hstat⟩ ⟨wm_blind _ _ _ _ _ _ _ _, fun U hU hW => ⟨rfl, by rw [hU], by rw [hU]; exact hM.1, va_K.moved hW.alike hK, hM.2.1.weaken (fun _ _ _ _ => trivial)⟩⟩ rfl rfl hsz hst (lv_room hw) hdg ⟨Nat.zero_le _, Nat.zero_le _⟩) hM.2.2 (fun q _ h => wm_A_mono hM.2.2.1 h) (fun q h => wm_A_mono hM.2.2.1 h) (fun r u t H1 locs1 ht hvm hp hB hz hk hS => ?_)
  obtain ⟨hP1, hK1, hD1⟩ := hB
  rw [ht] at hP1
  exact kk r u H1 locs1 hp ⟨hP1, hD1.weaken (fun _ _ _ h => wm_A_mono hM.2.2.1 h), hS⟩
theorem wm_callSl (hC : CallFix p m c cc nL s args lw_T own) (hK : va_K D classes (wm_ty cA cR) s) (hM : wm_M D ad cA cR s ln wd H locs) {y : MethodName} {bc : ByteArray} {mL index : Nat} {ret : Option FieldType} {rm : Room} {As st0 : List Value} {post : Int64 → wm_St → Prop} (hMet : Met l y (Cond.code y bc mL ret :: lw_T) rm (va_Pc As (wm_B D ad cA cR H.size ln wd)) (va_Ql post (wm_E D ad cA cR H.size) (wm_A ad H.size)) 0 0 (wm_A ad H.size)) (hcode : Cond.code y bc mL ret ∈ lw_T) (hlink : Cond.methodLink own index y ∈ lw_T) (hini : Cond.initialized y.cls ∈ lw_T) (hstat : Cond.static y ∈ lw_T) (hd : y.cls ≠ "java/lang/invoke/MethodHandle" ∧ y.cls ≠ "java/lang/invoke/VarHandle" ∧ (parseMethodDescriptor y.desc).map (fun d => d.parameters.length) = some As.length) (hrm : rm.cells = 0 ∧ rm.slots = 0) (hR : rm.frames + 1 ≤ R.frames ∧ 8 + (mL + 11) + rm.locals ≤ R.locals) (hst : st0 = As.reverse ++ rest) (hsz : ls.size = nL) (hw : (rest.map fun v => v.category).sum ≤ 8) (hdg : decode cc pc = .ok (.invokestatic index, 3))
    (kk : ∀ (r : Int64) (u : wm_St) (H1 : Heap) (locs1 : List Loc), post r u → wm_M D ad cA cR s u.1 u.2 H1 locs1 → W p l e R s m args below meth c H1 locs1 0 0 Q (F0 m (pc + 3) ls (.long r :: rest))) : W p l e R s m args below meth c H locs 0 0 Q (F0 m pc ls st0) := by
  refine va_calll (va_runS (As := As) (rest := rest) hC hMet ⟨callB_of As.length hC.2.2.2.2 (wm_good hcode) rfl hrm.1 hrm.2 (hC.2.2.2.2 _ hini) (hC.2.2.2.2 _ hlink) hd hR, hC.2.2.2.2 _ hstat⟩ ⟨wm_blind _ _ _ _ _ _ _ _, fun U hU hW => ⟨rfl, by rw [hU], by rw [hU]; exact hM.1, va_K.moved hW.alike hK, hM.2.1.weaken (fun _ _ _ _ => trivial)⟩⟩ rfl rfl hsz hst (lv_room hw) hdg ⟨Nat.zero_le _, Nat.zero_le _⟩) hM.2.2 (fun q _ h => wm_A_mono hM.2.2.1 h) (fun q h => wm_A_mono hM.2.2.1 h) (fun r u t H1 locs1 ht hvm hp hB hz hk hS => ?_)
  obtain ⟨hP1, hK1, hD1⟩ := hB
  rw [ht] at hP1
  exact kk r u H1 locs1 hp ⟨hP1, hD1.weaken (fun _ _ _ h => wm_A_mono hM.2.2.1 h), hS⟩
theorem wm_callSv (hC : CallFix p m c cc nL s args lw_T own) (hK : va_K D classes (wm_ty cA cR) s) (hM : wm_M D ad cA cR s ln wd H locs) {y : MethodName} {bc : ByteArray} {mL index : Nat} {ret : Option FieldType} {rm : Room} {As st0 : List Value} {post : wm_St → Prop} (hMet : Met l y (Cond.code y bc mL ret :: lw_T) rm (va_Pc As (wm_B D ad cA cR H.size ln wd)) (va_Qv post (wm_E D ad cA cR H.size) (wm_A ad H.size)) 0 0 (wm_A ad H.size)) (hcode : Cond.code y bc mL ret ∈ lw_T) (hlink : Cond.methodLink own index y ∈ lw_T) (hini : Cond.initialized y.cls ∈ lw_T) (hstat : Cond.static y ∈ lw_T) (hd : y.cls ≠ "java/lang/invoke/MethodHandle" ∧ y.cls ≠ "java/lang/invoke/VarHandle" ∧ (parseMethodDescriptor y.desc).map (fun d => d.parameters.length) = some As.length) (hrm : rm.cells = 0 ∧ rm.slots = 0) (hR : rm.frames + 1 ≤ R.frames ∧ 8 + (mL + 11) + rm.locals ≤ R.locals) (hst : st0 = As.reverse ++ rest) (hsz : ls.size = nL) (hw : (rest.map fun v => v.category).sum ≤ 8) (hdg : decode cc pc = .ok (.invokestatic index, 3))
    (kk : ∀ (u : wm_St) (H1 : Heap) (locs1 : List Loc), post u → wm_M D ad cA cR s u.1 u.2 H1 locs1 → W p l e R s m args below meth c H1 locs1 0 0 Q (F0 m (pc + 3) ls rest)) : W p l e R s m args below meth c H locs 0 0 Q (F0 m pc ls st0) := by
  refine va_callv (va_runS (As := As) (rest := rest) hC hMet ⟨callB_of As.length hC.2.2.2.2 (wm_good hcode) rfl hrm.1 hrm.2 (hC.2.2.2.2 _ hini) (hC.2.2.2.2 _ hlink) hd hR, hC.2.2.2.2 _ hstat⟩ ⟨wm_blind _ _ _ _ _ _ _ _, fun U hU hW => ⟨rfl, by rw [hU], by rw [hU]; exact hM.1, va_K.moved hW.alike hK, hM.2.1.weaken (fun _ _ _ _ => trivial)⟩⟩ rfl rfl hsz hst (lv_room hw) hdg ⟨Nat.zero_le _, Nat.zero_le _⟩) hM.2.2 (fun q _ h => wm_A_mono hM.2.2.1 h) (fun q h => wm_A_mono hM.2.2.1 h) (fun u t H1 locs1 ht hvm hp hB hz hk hS => ?_)
  obtain ⟨hP1, hK1, hD1⟩ := hB
  rw [ht] at hP1
  exact kk u H1 locs1 hp ⟨hP1, hD1.weaken (fun _ _ _ h => wm_A_mono hM.2.2.1 h), hS⟩
theorem wm_callVi (hC : CallFix p m c cc nL s args lw_T own) (hK : va_K D classes (wm_ty cA cR) s) (hM : wm_M D ad cA cR s ln wd H locs) {y : MethodName} {bc : ByteArray} {mL index : Nat} {ret : Option FieldType} {rm : Room} {As st0 : List Value} {post : Int32 → wm_St → Prop} {b q0 ci : Nat} {fs : List Value} {T : u_T} {N : Nat} (he : (wm_w ad cA cR ln wd)[q0]? = some (b, .inr (ci, fs))) (hc : classes[ci]? = some (y.cls, T, N)) (hMet : Met l y (Cond.code y bc mL ret :: lw_T) rm (va_Pc (.ref b :: As) (wm_B D ad cA cR H.size ln wd)) (va_Qi post (wm_E D ad cA cR H.size) (wm_A ad H.size)) 0 0 (wm_A ad H.size)) (hcode : Cond.code y bc mL ret ∈ lw_T) (hlink : Cond.methodLink own index y ∈ lw_T) (hini : Cond.initialized y.cls ∈ lw_T) (hinst : Cond.instanceMethod y ∈ lw_T) (hsel : Cond.selects y.cls y y ∈ lw_T) (hd : y.cls ≠ "java/lang/invoke/MethodHandle" ∧ y.cls ≠ "java/lang/invoke/VarHandle" ∧ (parseMethodDescriptor y.desc).map (fun d => d.parameters.length) = some As.length) (hrm : rm.cells = 0 ∧ rm.slots = 0) (hR : rm.frames + 1 ≤ R.frames ∧ 8 + (mL + 11) + rm.locals ≤ R.locals) (hst : st0 = As.reverse ++ .ref b :: rest) (hsz : ls.size = nL) (hw : (rest.map fun v => v.category).sum ≤ 8) (hdg : decode cc pc = .ok (.invokevirtual index, 3))
    (kk : ∀ (r : Int32) (u : wm_St) (H1 : Heap) (locs1 : List Loc), post r u → wm_M D ad cA cR s u.1 u.2 H1 locs1 → W p l e R s m args below meth c H1 locs1 0 0 Q (F0 m (pc + 3) ls (.int r :: rest))) : W p l e R s m args below meth c H locs 0 0 Q (F0 m pc ls st0) := by
  refine va_calli (va_runV (As := As) (rest := rest) hC hMet ⟨callB_of As.length hC.2.2.2.2 (wm_good hcode) rfl hrm.1 hrm.2 (hC.2.2.2.2 _ hini) (hC.2.2.2.2 _ hlink) hd hR, hC.2.2.2.2 _ hinst, hC.2.2.2.2 _ hsel⟩ ⟨wm_blind _ _ _ _ _ _ _ _, va_recv hK hM.1 hc he, fun U hU hW => ⟨rfl, by rw [hU], by rw [hU]; exact hM.1, va_K.moved hW.alike hK, hM.2.1.weaken (fun _ _ _ _ => trivial)⟩⟩ rfl rfl hsz hst (lv_room hw) hdg ⟨Nat.zero_le _, Nat.zero_le _⟩) hM.2.2 (fun q _ h => wm_A_mono hM.2.2.1 h) (fun q h => wm_A_mono hM.2.2.1 h) (fun r u t H1 locs1 ht hvm hp hB hz hk hS => ?_)
  obtain ⟨hP1, hK1, hD1⟩ := hB
  rw [ht] at hP1
  exact kk r u H1 locs1 hp ⟨hP1, hD1.weaken (fun _ _ _ h => wm_A_mono hM.2.2.1 h), hS⟩
theorem wm_callVl (hC : CallFix p m c cc nL s args lw_T own) (hK : va_K D classes (wm_ty cA cR) s) (hM : wm_M D ad cA cR s ln wd H locs) {y : MethodName} {bc : ByteArray} {mL index : Nat} {ret : Option FieldType} {rm : Room} {As st0 : List Value} {post : Int64 → wm_St → Prop} {b q0 ci : Nat} {fs : List Value} {T : u_T} {N : Nat} (he : (wm_w ad cA cR ln wd)[q0]? = some (b, .inr (ci, fs))) (hc : classes[ci]? = some (y.cls, T, N)) (hMet : Met l y (Cond.code y bc mL ret :: lw_T) rm (va_Pc (.ref b :: As) (wm_B D ad cA cR H.size ln wd)) (va_Ql post (wm_E D ad cA cR H.size) (wm_A ad H.size)) 0 0 (wm_A ad H.size)) (hcode : Cond.code y bc mL ret ∈ lw_T) (hlink : Cond.methodLink own index y ∈ lw_T) (hini : Cond.initialized y.cls ∈ lw_T) (hinst : Cond.instanceMethod y ∈ lw_T) (hsel : Cond.selects y.cls y y ∈ lw_T) (hd : y.cls ≠ "java/lang/invoke/MethodHandle" ∧ y.cls ≠ "java/lang/invoke/VarHandle" ∧ (parseMethodDescriptor y.desc).map (fun d => d.parameters.length) = some As.length) (hrm : rm.cells = 0 ∧ rm.slots = 0) (hR : rm.frames + 1 ≤ R.frames ∧ 8 + (mL + 11) + rm.locals ≤ R.locals) (hst : st0 = As.reverse ++ .ref b :: rest) (hsz : ls.size = nL) (hw : (rest.map fun v => v.category).sum ≤ 8) (hdg : decode cc pc = .ok (.invokevirtual index, 3))
    (kk : ∀ (r : Int64) (u : wm_St) (H1 : Heap) (locs1 : List Loc), post r u → wm_M D ad cA cR s u.1 u.2 H1 locs1 → W p l e R s m args below meth c H1 locs1 0 0 Q (F0 m (pc + 3) ls (.long r :: rest))) : W p l e R s m args below meth c H locs 0 0 Q (F0 m pc ls st0) := by
  refine va_calll (va_runV (As := As) (rest := rest) hC hMet ⟨callB_of As.length hC.2.2.2.2 (wm_good hcode) rfl hrm.1 hrm.2 (hC.2.2.2.2 _ hini) (hC.2.2.2.2 _ hlink) hd hR, hC.2.2.2.2 _ hinst, hC.2.2.2.2 _ hsel⟩ ⟨wm_blind _ _ _ _ _ _ _ _, va_recv hK hM.1 hc he, fun U hU hW => ⟨rfl, by rw [hU], by rw [hU]; exact hM.1, va_K.moved hW.alike hK, hM.2.1.weaken (fun _ _ _ _ => trivial)⟩⟩ rfl rfl hsz hst (lv_room hw) hdg ⟨Nat.zero_le _, Nat.zero_le _⟩) hM.2.2 (fun q _ h => wm_A_mono hM.2.2.1 h) (fun q h => wm_A_mono hM.2.2.1 h) (fun r u t H1 locs1 ht hvm hp hB hz hk hS => ?_)
  obtain ⟨hP1, hK1, hD1⟩ := hB
  rw [ht] at hP1
  exact kk r u H1 locs1 hp ⟨hP1, hD1.weaken (fun _ _ _ h => wm_A_mono hM.2.2.1 h), hS⟩
theorem wm_callVv (hC : CallFix p m c cc nL s args lw_T own) (hK : va_K D classes (wm_ty cA cR) s) (hM : wm_M D ad cA cR s ln wd H locs) {y : MethodName} {bc : ByteArray} {mL index : Nat} {ret : Option FieldType} {rm : Room} {As st0 : List Value} {post : wm_St → Prop} {b q0 ci : Nat} {fs : List Value} {T : u_T} {N : Nat} (he : (wm_w ad cA cR ln wd)[q0]? = some (b, .inr (ci, fs))) (hc : classes[ci]? = some (y.cls, T, N)) (hMet : Met l y (Cond.code y bc mL ret :: lw_T) rm (va_Pc (.ref b :: As) (wm_B D ad cA cR H.size ln wd)) (va_Qv post (wm_E D ad cA cR H.size) (wm_A ad H.size)) 0 0 (wm_A ad H.size)) (hcode : Cond.code y bc mL ret ∈ lw_T) (hlink : Cond.methodLink own index y ∈ lw_T) (hini : Cond.initialized y.cls ∈ lw_T) (hinst : Cond.instanceMethod y ∈ lw_T) (hsel : Cond.selects y.cls y y ∈ lw_T) (hd : y.cls ≠ "java/lang/invoke/MethodHandle" ∧ y.cls ≠ "java/lang/invoke/VarHandle" ∧ (parseMethodDescriptor y.desc).map (fun d => d.parameters.length) = some As.length) (hrm : rm.cells = 0 ∧ rm.slots = 0) (hR : rm.frames + 1 ≤ R.frames ∧ 8 + (mL + 11) + rm.locals ≤ R.locals) (hst : st0 = As.reverse ++ .ref b :: rest) (hsz : ls.size = nL) (hw : (rest.map fun v => v.category).sum ≤ 8) (hdg : decode cc pc = .ok (.invokevirtual index, 3))
    (kk : ∀ (u : wm_St) (H1 : Heap) (locs1 : List Loc), post u → wm_M D ad cA cR s u.1 u.2 H1 locs1 → W p l e R s m args below meth c H1 locs1 0 0 Q (F0 m (pc + 3) ls rest)) : W p l e R s m args below meth c H locs 0 0 Q (F0 m pc ls st0) := by
  refine va_callv (va_runV (As := As) (rest := rest) hC hMet ⟨callB_of As.length hC.2.2.2.2 (wm_good hcode) rfl hrm.1 hrm.2 (hC.2.2.2.2 _ hini) (hC.2.2.2.2 _ hlink) hd hR, hC.2.2.2.2 _ hinst, hC.2.2.2.2 _ hsel⟩ ⟨wm_blind _ _ _ _ _ _ _ _, va_recv hK hM.1 hc he, fun U hU hW => ⟨rfl, by rw [hU], by rw [hU]; exact hM.1, va_K.moved hW.alike hK, hM.2.1.weaken (fun _ _ _ _ => trivial)⟩⟩ rfl rfl hsz hst (lv_room hw) hdg ⟨Nat.zero_le _, Nat.zero_le _⟩) hM.2.2 (fun q _ h => wm_A_mono hM.2.2.1 h) (fun q h => wm_A_mono hM.2.2.1 h) (fun u t H1 locs1 ht hvm hp hB hz hk hS => ?_)
  obtain ⟨hP1, hK1, hD1⟩ := hB
  rw [ht] at hP1
  exact kk u H1 locs1 hp ⟨hP1, hD1.weaken (fun _ _ _ h => wm_A_mono hM.2.2.1 h), hS⟩
end WmRows
section WmCopy
variable {p : Program} {l : Launch} {e : Env} {R : Room} {s : State} {m : MethodId} {args : Array Value} {below : List Frame} {meth : Method} {c : Code} {H : Heap} {locs : List Loc} {cells slots : Nat} {Q : State → Prop} {cc : ByteArray} {pc : Nat} {ls : Array Slot} {rest : List Value} {own : String} {nL : Nat}
  {D : va_G} {ad : Nat → Nat} {cA cR : ClassId} {ln : Nat → Nat} {wd : Nat → Nat → Int32}
theorem wm_copy (hC : CallFix p m c cc nL s args lw_T own) (hK : va_K D classes (wm_ty cA cR) s) (hM : wm_M D ad cA cR s ln wd H locs) {i j sp dp n index : Nat} (hi : i < 19) (hj : j < 19) (h4 : sp + n ≤ 2050) (h5 : dp + n ≤ 2050) (hlink : Cond.methodLink own index arraycopyName ∈ lw_T) (hnat : Cond.native arraycopyName ∈ lw_T) (hstat : Cond.static arraycopyName ∈ lw_T) (hini : Cond.initialized "java/lang/System" ∈ lw_T) (hsz : ls.size = nL) (hfr : 1 ≤ R.frames) (hlo : (rest.map fun v => v.category).sum + (nativeFrameWords "java/lang/System" "arraycopy" 5 + 11) ≤ R.locals) (hdg : decode cc pc = .ok (.invokestatic index, 3))
    (kk : ∀ (H1 : Heap) (locs1 : List Loc), wm_M D ad cA cR s ln (va_up wd i (va_cpy (wd j) (wd i) sp dp n)) H1 locs1 → W p l e R s m args below meth c H1 locs1 cells slots Q (F0 m (pc + 3) ls rest)) : W p l e R s m args below meth c H locs cells slots Q (F0 m pc ls (.int (nI n) :: .int (nI dp) :: .ref (ad (19 + i)) :: .int (nI sp) :: .ref (ad (19 + j)) :: rest)) := by
  have e1 : (nI sp).toNatClampNeg = sp := nI_clamp (by omega)
  have e2 : (nI dp).toNatClampNeg = dp := nI_clamp (by omega)
  have e3 : (nI n).toNatClampNeg = n := nI_clamp (by omega)
  refine va_copyi hC.1 hC.2.1 (by rw [hC.2.2.1, hsz]) hC.2.2.2.1 (hC.2.2.2.2 _ hlink) (hC.2.2.2.2 _ hnat) (hC.2.2.2.2 _ hstat) (hC.2.2.2.2 _ hini) hK hM.1 hM.2.1 hM.2.2 (19 + j) (19 + i) 0 0 (wm_at_w hj) (wm_at_w hi) (ty := .int) rfl rfl rfl (nI_pos (by omega)) (nI_pos (by omega)) (nI_pos (by omega)) (by rw [e1, e3]; exact h4) (by rw [e2, e3]; exact h5) (fun _ _ => rfl) hfr hlo hdg (fun H1 locs1 hP hD hS => ?_)
  rw [e1, e2, e3, wm_set_w hi] at hP hD
  exact kk H1 locs1 ⟨hP, hD, hS⟩
end WmCopy
end
section
/-! ===== methods that touch no cell: contracts over any heap ===== -/
abbrev pu_Pc (As : List Value) (sz : Nat) : Array Value → State → Prop := va_Pc As (fun U => U.heap.size = sz)
abbrev pu_Qi (post : Int32 → Prop) (sz : Nat) : Array Value → State → Outcome → State → Prop := va_Qi (fun r (_ : Unit) => post r) (fun _ _ => True) (fun q => sz ≤ q)
abbrev pu_Ql (post : Int64 → Prop) (sz : Nat) : Array Value → State → Outcome → State → Prop := va_Ql (fun r (_ : Unit) => post r) (fun _ _ => True) (fun q => sz ≤ q)
theorem pu_blind (As : List Value) (sz : Nat) : FrameBlind (pu_Pc As sz) := fun a U g mk q => q
/-- nothing old has been written -/
abbrev pu_H (s : State) (H : Heap) (locs : List Loc) : Prop := va_S (fun q : Nat => s.heap.size ≤ q) s.heap H locs
section PuRows
variable {p : Program} {l : Launch} {e : Env} {R : Room} {s : State} {m : MethodId} {args : Array Value} {below : List Frame} {meth : Method} {c : Code} {H : Heap} {locs : List Loc} {cells slots : Nat} {Q : State → Prop} {cc : ByteArray} {pc : Nat} {ls : Array Slot} {rest : List Value} {own : String} {nL : Nat}
  {D : va_G} {ad : Nat → Nat} {cA cR : ClassId} {ln : Nat → Nat} {wd : Nat → Nat → Int32}
theorem nv_top {x : Int32} (y : Int32) (h : x = y) (kk : W p l e R s m args below meth c H locs cells slots Q (F0 m pc ls (.int y :: rest))) : W p l e R s m args below meth c H locs cells slots Q (F0 m pc ls (.int x :: rest)) := by rw [h]; exact kk
theorem nv_topl {x : Int64} (y : Int64) (h : x = y) (kk : W p l e R s m args below meth c H locs cells slots Q (F0 m pc ls (.long y :: rest))) : W p l e R s m args below meth c H locs cells slots Q (F0 m pc ls (.long x :: rest)) := by rw [h]; exact kk
theorem pu_met (l : Launch) {y : MethodName} {cc : ByteArray} {maxL : Nat} {ret : Option FieldType} {rm : Room} {sz : Nat} {As : List Value} {Qc : Array Value → State → Outcome → State → Prop} (hy : plainName y.cls = true) (hlen : (lg_sl As).length ≤ maxL)
    (body : ∀ (p : Program) (e : Env) (s : State) (m : MethodId) (below : List Frame) (meth : Method) (c : Code) (ls : Array Slot), s.heap.size = sz → CallFix p m c cc maxL s As.toArray lw_T y.cls → meth.sig.returnType = ret → meth.locks = false → lv_has ls maxL (lv_args 0 As) →
      W p l e rm s m As.toArray below meth c s.heap [] 0 0 (MQ below Qc As.toArray s 0 0 (fun q => sz ≤ q)) (F0 m 0 ls [])) : Met l y (Cond.code y cc maxL ret :: lw_T) rm (pu_Pc As sz) Qc 0 0 (fun q => sz ≤ q) := by
  refine Met.ofW (cc := cc) (maxL := maxL) (ret := ret) hy rfl ?_
  intro p e s m args below meth c s₁ B hml hv
  obtain ⟨rfl, hsz⟩ := hv
  have hts := atoms_spec (ws := Cond.code y cc maxL ret :: lw_T) B.pre
  have hown : s.vm.findClass y.cls = some m.cls := findClass_of_methodNamed B.named
  have hl := lv_entry As (n := maxL) hlen
  rw [lg_entry_eq]
  exact body p e s m below meth c _ hsz ⟨B.exec, B.bytes, hml, hown, fun w hw => hts w (List.mem_cons_of_mem _ hw)⟩ B.returns B.notSynchronized hl
theorem pu_iret (hC : CallFix p m c cc nL s args lw_T own) (hr : meth.sig.returnType = some .int) (hM : pu_H s H locs) (hlk : meth.locks = false) {post : Int32 → Prop} {v : Int32} (hp : post v) (hdg : decode cc pc = .ok (.ireturn, 1)) : W p l e R s m args below meth c H locs 0 0 (MQ below (pu_Qi post s.heap.size) args s 0 0 (fun q => s.heap.size ≤ q)) (F0 m pc ls [.int v]) :=
  W.iret hC.1 hC.2.1 hr (fun t ht hW => ⟨⟨v, (), rfl, hp, trivial⟩, hM.F ht⟩) hM.2.2 hdg (hlocks := hlk)
theorem pu_zret (hC : CallFix p m c cc nL s args lw_T own) {ty : FieldType} (hr : meth.sig.returnType = some ty) {v : Int32} (hn : narrow ty (.int v) = .int v) (hM : pu_H s H locs) (hlk : meth.locks = false) {post : Int32 → Prop} (hp : post v) (hdg : decode cc pc = .ok (.ireturn, 1)) : W p l e R s m args below meth c H locs 0 0 (MQ below (pu_Qi post s.heap.size) args s 0 0 (fun q => s.heap.size ≤ q)) (F0 m pc ls [.int v]) :=
  W.zret hC.1 hC.2.1 hr hn (fun t ht hW => ⟨⟨v, (), rfl, hp, trivial⟩, hM.F ht⟩) hM.2.2 hdg (hlocks := hlk)
theorem pu_lret (hC : CallFix p m c cc nL s args lw_T own) (hr : meth.sig.returnType = some .long) (hM : pu_H s H locs) (hlk : meth.locks = false) {post : Int64 → Prop} {v : Int64} (hp : post v) (hdg : decode cc pc = .ok (.lreturn, 1)) : W p l e R s m args below meth c H locs 0 0 (MQ below (pu_Ql post s.heap.size) args s 0 0 (fun q => s.heap.size ≤ q)) (F0 m pc ls [.long v]) :=
  W.lret hC.1 hC.2.1 hr (fun t ht hW => ⟨⟨v, (), rfl, hp, trivial⟩, hM.F ht⟩) hM.2.2 hdg (hlocks := hlk)
theorem wm_callPi (hC : CallFix p m c cc nL s args lw_T own) (hK : va_K D classes (wm_ty cA cR) s) (hM : wm_M D ad cA cR s ln wd H locs) {y : MethodName} {bc : ByteArray} {mL index : Nat} {ret : Option FieldType} {rm : Room} {As st0 : List Value} {post : Int32 → Prop} (hMet : Met l y (Cond.code y bc mL ret :: lw_T) rm (pu_Pc As H.size) (pu_Qi post H.size) 0 0 (fun q => H.size ≤ q)) (hcode : Cond.code y bc mL ret ∈ lw_T) (hlink : Cond.methodLink own index y ∈ lw_T) (hini : Cond.initialized y.cls ∈ lw_T) (hstat : Cond.static y ∈ lw_T) (hd : y.cls ≠ "java/lang/invoke/MethodHandle" ∧ y.cls ≠ "java/lang/invoke/VarHandle" ∧ (parseMethodDescriptor y.desc).map (fun d => d.parameters.length) = some As.length) (hrm : rm.cells = 0 ∧ rm.slots = 0) (hR : rm.frames + 1 ≤ R.frames ∧ 8 + (mL + 11) + rm.locals ≤ R.locals) (hst : st0 = As.reverse ++ rest) (hsz : ls.size = nL) (hw : (rest.map fun v => v.category).sum ≤ 8) (hdg : decode cc pc = .ok (.invokestatic index, 3))
    (kk : ∀ (r : Int32) (H1 : Heap) (locs1 : List Loc), post r → wm_M D ad cA cR s ln wd H1 locs1 → W p l e R s m args below meth c H1 locs1 0 0 Q (F0 m (pc + 3) ls (.int r :: rest))) : W p l e R s m args below meth c H locs 0 0 Q (F0 m pc ls st0) := by
  refine va_calli (va_runS (As := As) (rest := rest) hC hMet ⟨callB_of As.length hC.2.2.2.2 (wm_good hcode) rfl hrm.1 hrm.2 (hC.2.2.2.2 _ hini) (hC.2.2.2.2 _ hlink) hd hR, hC.2.2.2.2 _ hstat⟩ ⟨pu_blind _ _, fun U hU hW => ⟨rfl, congrArg Array.size hU⟩⟩ rfl rfl hsz hst (lv_room hw) hdg ⟨Nat.zero_le _, Nat.zero_le _⟩) hM.2.2 (fun q _ h => Or.inr (Nat.le_trans hM.2.2.1 h)) (fun q h => Or.inr (Nat.le_trans hM.2.2.1 h)) (fun r u t H1 locs1 ht hvm hp hB hz hk hS => ?_)
  refine kk r H1 locs1 hp ⟨hM.1.kept (fun k q hq => ?_), hM.2.1, hS⟩
  have hlt : q.1 < H.size := va_at.lt (hM.1 k q hq)
  exact hk q.1 hlt (Nat.not_le.mpr hlt)
theorem wm_callPl (hC : CallFix p m c cc nL s args lw_T own) (hK : va_K D classes (wm_ty cA cR) s) (hM : wm_M D ad cA cR s ln wd H locs) {y : MethodName} {bc : ByteArray} {mL index : Nat} {ret : Option FieldType} {rm : Room} {As st0 : List Value} {post : Int64 → Prop} (hMet : Met l y (Cond.code y bc mL ret :: lw_T) rm (pu_Pc As H.size) (pu_Ql post H.size) 0 0 (fun q => H.size ≤ q)) (hcode : Cond.code y bc mL ret ∈ lw_T) (hlink : Cond.methodLink own index y ∈ lw_T) (hini : Cond.initialized y.cls ∈ lw_T) (hstat : Cond.static y ∈ lw_T) (hd : y.cls ≠ "java/lang/invoke/MethodHandle" ∧ y.cls ≠ "java/lang/invoke/VarHandle" ∧ (parseMethodDescriptor y.desc).map (fun d => d.parameters.length) = some As.length) (hrm : rm.cells = 0 ∧ rm.slots = 0) (hR : rm.frames + 1 ≤ R.frames ∧ 8 + (mL + 11) + rm.locals ≤ R.locals) (hst : st0 = As.reverse ++ rest) (hsz : ls.size = nL) (hw : (rest.map fun v => v.category).sum ≤ 8) (hdg : decode cc pc = .ok (.invokestatic index, 3))
    (kk : ∀ (r : Int64) (H1 : Heap) (locs1 : List Loc), post r → wm_M D ad cA cR s ln wd H1 locs1 → W p l e R s m args below meth c H1 locs1 0 0 Q (F0 m (pc + 3) ls (.long r :: rest))) : W p l e R s m args below meth c H locs 0 0 Q (F0 m pc ls st0) := by
  refine va_calll (va_runS (As := As) (rest := rest) hC hMet ⟨callB_of As.length hC.2.2.2.2 (wm_good hcode) rfl hrm.1 hrm.2 (hC.2.2.2.2 _ hini) (hC.2.2.2.2 _ hlink) hd hR, hC.2.2.2.2 _ hstat⟩ ⟨pu_blind _ _, fun U hU hW => ⟨rfl, congrArg Array.size hU⟩⟩ rfl rfl hsz hst (lv_room hw) hdg ⟨Nat.zero_le _, Nat.zero_le _⟩) hM.2.2 (fun q _ h => Or.inr (Nat.le_trans hM.2.2.1 h)) (fun q h => Or.inr (Nat.le_trans hM.2.2.1 h)) (fun r u t H1 locs1 ht hvm hp hB hz hk hS => ?_)
  refine kk r H1 locs1 hp ⟨hM.1.kept (fun k q hq => ?_), hM.2.1, hS⟩
  have hlt : q.1 < H.size := va_at.lt (hM.1 k q hq)
  exact hk q.1 hlt (Nat.not_le.mpr hlt)
/-- a pure method called by a pure one: pu_H says that the heap is the one at the start -/
theorem pu_calli (hC : CallFix p m c cc nL s args lw_T own) (hM : pu_H s H locs) {y : MethodName} {bc : ByteArray} {mL index : Nat} {ret : Option FieldType} {rm : Room} {As st0 : List Value} {post : Int32 → Prop} (hMet : Met l y (Cond.code y bc mL ret :: lw_T) rm (pu_Pc As H.size) (pu_Qi post H.size) 0 0 (fun q => H.size ≤ q)) (hcode : Cond.code y bc mL ret ∈ lw_T) (hlink : Cond.methodLink own index y ∈ lw_T) (hini : Cond.initialized y.cls ∈ lw_T) (hstat : Cond.static y ∈ lw_T) (hd : y.cls ≠ "java/lang/invoke/MethodHandle" ∧ y.cls ≠ "java/lang/invoke/VarHandle" ∧ (parseMethodDescriptor y.desc).map (fun d => d.parameters.length) = some As.length) (hrm : rm.cells = 0 ∧ rm.slots = 0) (hR : rm.frames + 1 ≤ R.frames ∧ 8 + (mL + 11) + rm.locals ≤ R.locals) (hst : st0 = As.reverse ++ rest) (hsz : ls.size = nL) (hw : (rest.map fun v => v.category).sum ≤ 8) (hdg : decode cc pc = .ok (.invokestatic index, 3))
    (kk : ∀ (r : Int32) (H1 : Heap) (locs1 : List Loc), post r → pu_H s H1 locs1 → W p l e R s m args below meth c H1 locs1 0 0 Q (F0 m (pc + 3) ls (.int r :: rest))) : W p l e R s m args below meth c H locs 0 0 Q (F0 m pc ls st0) := by
  refine va_calli (va_runS (As := As) (rest := rest) hC hMet ⟨callB_of As.length hC.2.2.2.2 (wm_good hcode) rfl hrm.1 hrm.2 (hC.2.2.2.2 _ hini) (hC.2.2.2.2 _ hlink) hd hR, hC.2.2.2.2 _ hstat⟩ ⟨pu_blind _ _, fun U hU hW => ⟨rfl, congrArg Array.size hU⟩⟩ rfl rfl hsz hst (lv_room hw) hdg ⟨Nat.zero_le _, Nat.zero_le _⟩) hM (fun q _ h => Nat.le_trans hM.1 h) (fun q h => Nat.le_trans hM.1 h) (fun r u t H1 locs1 ht hvm hp hB hz hk hS => ?_)
  exact kk r H1 locs1 hp hS
/-- a pure method called by a pure one: pu_H says that the heap is the one at the start -/
theorem pu_calll (hC : CallFix p m c cc nL s args lw_T own) (hM : pu_H s H locs) {y : MethodName} {bc : ByteArray} {mL index : Nat} {ret : Option FieldType} {rm : Room} {As st0 : List Value} {post : Int64 → Prop} (hMet : Met l y (Cond.code y bc mL ret :: lw_T) rm (pu_Pc As H.size) (pu_Ql post H.size) 0 0 (fun q => H.size ≤ q)) (hcode : Cond.code y bc mL ret ∈ lw_T) (hlink : Cond.methodLink own index y ∈ lw_T) (hini : Cond.initialized y.cls ∈ lw_T) (hstat : Cond.static y ∈ lw_T) (hd : y.cls ≠ "java/lang/invoke/MethodHandle" ∧ y.cls ≠ "java/lang/invoke/VarHandle" ∧ (parseMethodDescriptor y.desc).map (fun d => d.parameters.length) = some As.length) (hrm : rm.cells = 0 ∧ rm.slots = 0) (hR : rm.frames + 1 ≤ R.frames ∧ 8 + (mL + 11) + rm.locals ≤ R.locals) (hst : st0 = As.reverse ++ rest) (hsz : ls.size = nL) (hw : (rest.map fun v => v.category).sum ≤ 8) (hdg : decode cc pc = .ok (.invokestatic index, 3))
    (kk : ∀ (r : Int64) (H1 : Heap) (locs1 : List Loc), post r → pu_H s H1 locs1 → W p l e R s m args below meth c H1 locs1 0 0 Q (F0 m (pc + 3) ls (.long r :: rest))) : W p l e R s m args below meth c H locs 0 0 Q (F0 m pc ls st0) := by
  refine va_calll (va_runS (As := As) (rest := rest) hC hMet ⟨callB_of As.length hC.2.2.2.2 (wm_good hcode) rfl hrm.1 hrm.2 (hC.2.2.2.2 _ hini) (hC.2.2.2.2 _ hlink) hd hR, hC.2.2.2.2 _ hstat⟩ ⟨pu_blind _ _, fun U hU hW => ⟨rfl, congrArg Array.size hU⟩⟩ rfl rfl hsz hst (lv_room hw) hdg ⟨Nat.zero_le _, Nat.zero_le _⟩) hM (fun q _ h => Nat.le_trans hM.1 h) (fun q h => Nat.le_trans hM.1 h) (fun r u t H1 locs1 ht hvm hp hB hz hk hS => ?_)
  exact kk r H1 locs1 hp hS
end PuRows
end
