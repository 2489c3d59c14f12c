section
/-! ===== lN n to 2^64: shifts, and, or, masks, one bit ===== -/
theorem wb_tb (n : Nat) : (lN n).toBitVec = BitVec.ofNat 64 n := rfl
theorem wb_inj {a b : Int64} (h : a.toBitVec = b.toBitVec) : a = b := Int64.toBitVec_inj.mp h
theorem wb_tn {n : Nat} (h : n < 2 ^ 64) : (lN n).toBitVec.toNat = n := by rw [wb_tb, BitVec.toNat_ofNat, Nat.mod_eq_of_lt h]
theorem wb_of (x : Int64) : ∃ n, n < 2 ^ 64 ∧ x = lN n := ⟨x.toBitVec.toNat, x.toBitVec.isLt, wb_inj (by rw [wb_tb]; simp)⟩
theorem wb_of32 (x : Int32) : ∃ n, n < 2 ^ 32 ∧ x = nI n := ⟨x.toBitVec.toNat, x.toBitVec.isLt, Int32.toBitVec_inj.mp (by show _ = BitVec.ofNat 32 _; simp)⟩
theorem wb_c : ∀ k, k < 64 → ((nI k).toInt64 &&& 63) = lN k := by decide +kernel
theorem wb_cu : ∀ k, k < 64 → ((nI k).toInt64.toUInt64 &&& Int64.toUInt64 63) = UInt64.ofNat k := by decide +kernel
theorem wb_sm : ∀ k, k < 64 → (BitVec.ofNat 64 k).smod 64 = BitVec.ofNat 64 k := by decide +kernel
theorem wb_pw {a b : Nat} (h : a ≤ b) : 2 ^ b = 2 ^ a * 2 ^ (b - a) := by rw [← Nat.pow_add]; congr 1; omega
theorem wb_lt2 {a b : Nat} (h : a < b) : 2 ^ a < 2 ^ b := Nat.pow_lt_pow_right (by decide) h
theorem wb_mod (n : Nat) : lN n = lN (n % 2 ^ 64) := wb_inj (by rw [wb_tb, wb_tb]; apply BitVec.eq_of_toNat_eq; rw [BitVec.toNat_ofNat, BitVec.toNat_ofNat, Nat.mod_mod])
theorem wb_shr {n k : Nat} (hn : n < 2 ^ 64) (hk : k < 64) : ((lN n).toUInt64 >>> ((nI k).toInt64.toUInt64 &&& Int64.toUInt64 63)).toInt64 = lN (n / 2 ^ k) := by
  rw [wb_cu k hk]
  apply wb_inj
  apply BitVec.eq_of_toNat_eq
  show ((lN n).toUInt64 >>> UInt64.ofNat k).toNat = (BitVec.ofNat 64 _).toNat
  have h1 : (UInt64.ofNat k).toNat = k := by
    show (BitVec.ofNat 64 k).toNat = k
    rw [BitVec.toNat_ofNat, Nat.mod_eq_of_lt (by omega)]
  have h2 : (lN n).toUInt64.toNat = n := wb_tn hn
  rw [UInt64.toNat_shiftRight, h1, h2, Nat.mod_eq_of_lt hk, Nat.shiftRight_eq_div_pow, BitVec.toNat_ofNat, Nat.mod_eq_of_lt (Nat.lt_of_le_of_lt (Nat.div_le_self _ _) hn)]
theorem wb_shl (n : Nat) {k : Nat} (hk : k < 64) : lN n <<< ((nI k).toInt64 &&& 63) = lN (n * 2 ^ k) := by
  rw [wb_c k hk]
  apply wb_inj
  rw [Int64.toBitVec_shiftLeft, wb_tb, wb_tb, wb_tb, wb_sm k hk]
  apply BitVec.eq_of_toNat_eq
  rw [BitVec.shiftLeft_eq', BitVec.toNat_shiftLeft, BitVec.toNat_ofNat, BitVec.toNat_ofNat, BitVec.toNat_ofNat, Nat.mod_eq_of_lt (show k < 2 ^ 64 by omega), Nat.shiftLeft_eq, Nat.mul_mod, Nat.mod_mod, ← Nat.mul_mod]
theorem wb_and {a b : Nat} (ha : a < 2 ^ 64) (hb : b < 2 ^ 64) : lN a &&& lN b = lN (a &&& b) := by
  apply wb_inj
  rw [Int64.toBitVec_and, wb_tb, wb_tb, wb_tb]
  apply BitVec.eq_of_toNat_eq
  rw [BitVec.toNat_and, BitVec.toNat_ofNat, BitVec.toNat_ofNat, BitVec.toNat_ofNat, Nat.mod_eq_of_lt ha, Nat.mod_eq_of_lt hb, Nat.mod_eq_of_lt (Nat.and_lt_two_pow _ hb)]
theorem wb_or {a b : Nat} (ha : a < 2 ^ 64) (hb : b < 2 ^ 64) : lN a ||| lN b = lN (a ||| b) := by
  apply wb_inj
  rw [Int64.toBitVec_or, wb_tb, wb_tb, wb_tb]
  apply BitVec.eq_of_toNat_eq
  rw [BitVec.toNat_or, BitVec.toNat_ofNat, BitVec.toNat_ofNat, BitVec.toNat_ofNat, Nat.mod_eq_of_lt ha, Nat.mod_eq_of_lt hb, Nat.mod_eq_of_lt (Nat.or_lt_two_pow ha hb)]
theorem wb_mask {n k : Nat} (hn : n < 2 ^ 64) (hk : k < 64) : lN n &&& lN (2 ^ k - 1) = lN (n % 2 ^ k) := by
  rw [wb_and hn (by have := wb_lt2 hk; omega), Nat.and_two_pow_sub_one_eq_mod]
theorem wb_a1 {n : Nat} (hn : n < 2 ^ 64) : lN n &&& 1 = lN (n % 2) := wb_mask (k := 1) hn (by decide)
theorem wb_bit {n k : Nat} (hn : n < 2 ^ 64) (hk : k < 64) : ((lN n).toUInt64 >>> ((nI k).toInt64.toUInt64 &&& Int64.toUInt64 63)).toInt64 &&& 1 = lN (n / 2 ^ k % 2) := by
  rw [wb_shr hn hk, wb_a1 (Nat.lt_of_le_of_lt (Nat.div_le_self _ _) hn)]
theorem wb_xor {q k : Nat} (hk : k < 63) (h : 2 ^ k ≤ q) (h2 : q < 2 ^ (k + 1)) : lN q ^^^ lN (2 ^ k) = lN (q - 2 ^ k) := by
  obtain ⟨r, rfl⟩ : ∃ r, q = 2 ^ k + r := ⟨q - 2 ^ k, by omega⟩
  have hr : r < 2 ^ k := by rw [Nat.pow_succ] at h2; omega
  have hx : (2 ^ k + r) ^^^ 2 ^ k = r := by
    apply Nat.eq_of_testBit_eq
    intro i
    rw [Nat.testBit_xor, Nat.testBit_two_pow]
    rcases Nat.lt_trichotomy i k with h | h | h
    · rw [Nat.testBit_two_pow_add_gt h]
      simp [show ¬ k = i by omega]
    · subst h
      rw [Nat.testBit_two_pow_add_eq]
      simp
    · have a1 : 2 ^ (k + 1) ≤ 2 ^ i := Nat.pow_le_pow_right (by decide) h
      rw [Nat.testBit_lt_two_pow (show 2 ^ k + r < 2 ^ i by omega), Nat.testBit_lt_two_pow (show r < 2 ^ i by omega)]
      simp [show ¬ k = i by omega]
  have b1 := wb_lt2 (show k + 1 < 64 by omega)
  have b2 := wb_lt2 (show k < 64 by omega)
  apply wb_inj
  rw [Int64.toBitVec_xor, wb_tb, wb_tb, wb_tb]
  apply BitVec.eq_of_toNat_eq
  rw [BitVec.toNat_xor, BitVec.toNat_ofNat, BitVec.toNat_ofNat, BitVec.toNat_ofNat, Nat.mod_eq_of_lt (by omega : 2 ^ k + r < 2 ^ 64), Nat.mod_eq_of_lt b2, hx, Nat.add_sub_cancel_left, Nat.mod_eq_of_lt (by omega)]
/-! ===== lN: masks, 'or' of parts that don't overlap is a sum ===== -/
theorem u_tn {n : Nat} (h : n < 2 ^ 64) : (UInt64.ofNat n).toNat = n := Nat.mod_eq_of_lt h
theorem g_and {a b c : Nat} (ha : a < 2 ^ 64) (hb : b < 2 ^ 64) (hc : a &&& b = c) : lN a &&& lN b = lN c := by
  subst hc
  have h : UInt64.ofNat a &&& UInt64.ofNat b = UInt64.ofNat (a &&& b) := UInt64.toNat_inj.mp (by rw [UInt64.toNat_and, u_tn ha, u_tn hb, u_tn (Nat.and_lt_two_pow a hb)])
  have h2 := congrArg UInt64.toInt64 h
  exact h2
theorem g_and1 {a : Nat} (ha : a < 2 ^ 64) : lN a &&& 1 = lN (a % 2) := g_and (b := 1) ha (by decide) (Nat.and_two_pow_sub_one_eq_mod a 1)
theorem g_mask {a s p : Nat} (hp : 2 ^ s = p) (hs : s < 64) (ha : a < 2 ^ 64) : lN a &&& lN (p - 1) = lN (a % p) := by
  subst hp
  have := Nat.pow_lt_pow_right (show 1 < 2 by decide) hs
  exact g_and ha (by omega) (Nat.and_two_pow_sub_one_eq_mod a s)
theorem g_or {k p a b : Nat} (hp : 2 ^ k = p) (ha : a < p) (h : b * p + a < 2 ^ 64) : lN (b * p) ||| lN a = lN (b * p + a) := by
  subst hp
  have h1 : b * 2 ^ k ||| a = b * 2 ^ k + a := by rw [← Nat.shiftLeft_eq, Nat.shiftLeft_add_eq_or_of_lt ha]
  have h3 : UInt64.ofNat (b * 2 ^ k) ||| UInt64.ofNat a = UInt64.ofNat (b * 2 ^ k + a) := UInt64.toNat_inj.mp (by rw [UInt64.toNat_or, u_tn (by omega), u_tn (by omega), u_tn h, h1])
  have h2 := congrArg UInt64.toInt64 h3
  exact h2
theorem g_or' {k p a b : Nat} (hp : 2 ^ k = p) (ha : a < p) (h : a + b * p < 2 ^ 64) : lN a ||| lN (b * p) = lN (a + b * p) := by
  rw [Int64.or_comm, g_or hp ha (by omega), Nat.add_comm]
theorem g_ushr {a k p : Nat} {y : UInt64} (hy : y = UInt64.ofNat k) (hk : k < 64) (hp : 2 ^ k = p) (ha : a < 2 ^ 64) : ((lN a).toUInt64 >>> y).toInt64 = lN (a / p) := by
  subst hy hp
  have h : UInt64.ofNat a >>> UInt64.ofNat k = UInt64.ofNat (a / 2 ^ k) := UInt64.toNat_inj.mp (by rw [UInt64.toNat_shiftRight, u_tn ha, u_tn (by omega), u_tn (Nat.lt_of_le_of_lt (Nat.div_le_self _ _) ha), Nat.mod_eq_of_lt hk, Nat.shiftRight_eq_div_pow])
  have h2 := congrArg UInt64.toInt64 h
  exact h2
theorem g_shl {a k p : Nat} {y : Int64} (hy : y.toBitVec.smod 64 = BitVec.ofNat 64 k) (hk : k < 64) (hp : 2 ^ k = p) (ha : a < 2 ^ 64) : lN a <<< y = lN (a * p) := by
  subst hp
  apply Int64.toBitVec_inj.mp
  rw [Int64.toBitVec_shiftLeft, hy]
  apply BitVec.eq_of_toNat_eq
  have hb : (lN a).toBitVec.toNat = a := Nat.mod_eq_of_lt ha
  have hk' : (BitVec.ofNat 64 k).toNat = k := Nat.mod_eq_of_lt (by omega)
  have h : ((lN a).toBitVec <<< BitVec.ofNat 64 k).toNat = (a * 2 ^ k) % 2 ^ 64 := by simp only [BitVec.shiftLeft_eq', BitVec.toNat_shiftLeft, hb, hk', Nat.shiftLeft_eq]
  exact h
theorem lN_bv (n : Nat) : (lN n).toBitVec = BitVec.ofNat 64 n := rfl
theorem lN_nat {n : Nat} (h : n < 2 ^ 64) : (lN n).toBitVec.toNat = n := by rw [lN_bv, BitVec.toNat_ofNat]; exact Nat.mod_eq_of_lt h
theorem lN_xor (a b : Nat) : lN a ^^^ lN b = lN (a ^^^ b) := by
  apply Int64.toBitVec_inj.mp; rw [Int64.toBitVec_xor, lN_bv, lN_bv, lN_bv]; apply BitVec.eq_of_getLsbD_eq; intro i hi; simp [BitVec.getLsbD_ofNat, Nat.testBit_xor, hi]
theorem lN_ti {m : Nat} (h : m < 2 ^ 64) : (lN m).toInt = if m < 2 ^ 63 then (m : Int) else (m : Int) - 2 ^ 64 := by
  have c := BitVec.toInt_eq_toNat_cond (lN m).toBitVec
  rw [lN_nat h] at c
  show (lN m).toBitVec.toInt = _
  rw [c]
  split <;> split <;> omega
theorem xor63 {x : Nat} (h : x < 2 ^ 63) : x ^^^ 2 ^ 63 = 2 ^ 63 + x := by
  apply Nat.eq_of_testBit_eq
  intro i
  rw [Nat.testBit_xor, Nat.testBit_two_pow]
  rcases Nat.lt_trichotomy i 63 with z | z | z
  · rw [Nat.testBit_two_pow_add_gt z, decide_eq_false (by omega)]; simp
  · subst z; rw [Nat.testBit_two_pow_add_eq]; simp
  · have hp : 2 ^ 64 ≤ 2 ^ i := Nat.pow_le_pow_right (by decide) z
    rw [Nat.testBit_lt_two_pow (show x < 2 ^ i by omega), Nat.testBit_lt_two_pow (show 2 ^ 63 + x < 2 ^ i by omega), decide_eq_false (by omega)]; rfl
theorem xorS {a : Nat} (h : a < 2 ^ 64) : (lN a ^^^ (-9223372036854775808)).toInt = (a : Int) - 2 ^ 63 := by
  rw [show (-9223372036854775808 : Int64) = lN (2 ^ 63) from by decide +kernel, lN_xor]
  rcases Nat.lt_or_ge a (2 ^ 63) with z | z
  · rw [xor63 z, lN_ti (by omega), if_neg (by omega)]; omega
  · obtain ⟨x, rfl⟩ : ∃ x, a = 2 ^ 63 + x := ⟨a - 2 ^ 63, by omega⟩
    rw [← xor63 (by omega), Nat.xor_assoc, Nat.xor_self, Nat.xor_zero, lN_ti (by omega), if_pos (by omega), xor63 (by omega)]; omega
theorem ultL {a b : Nat} (ha : a < 2 ^ 64) (hb : b < 2 ^ 64) : ((lN b ^^^ (-9223372036854775808)) ≤ (lN a ^^^ (-9223372036854775808))) ↔ b ≤ a := by
  rw [Int64.le_iff_toInt_le, xorS ha, xorS hb]; omega
/-! ===== words: an Int32 as a number below 2^32 ===== -/
def wm_u (x : Int32) : Nat := x.toBitVec.toNat
theorem wm_u_lt (x : Int32) : wm_u x < 4294967296 := x.toBitVec.isLt
theorem wm_nu (x : Int32) : nI (wm_u x) = x := Int32.toBitVec_inj.mp (by show BitVec.ofNat 32 x.toBitVec.toNat = x.toBitVec; simp)
theorem wm_un (n : Nat) : wm_u (nI n) = n % 4294967296 := by
  show (BitVec.ofNat 32 n).toNat = _
  rw [BitVec.toNat_ofNat]
theorem wm_un' {n : Nat} (h : n < 4294967296) : wm_u (nI n) = n := by rw [wm_un, Nat.mod_eq_of_lt h]
theorem wm_u_inj {x y : Int32} (h : wm_u x = wm_u y) : x = y := Int32.toBitVec_inj.mp (BitVec.eq_of_toNat_eq h)
theorem wm_u_0 : wm_u 0 = 0 := by decide
theorem wm_u_z {x : Int32} : wm_u x = 0 ↔ x = 0 := ⟨fun h => wm_u_inj (by rw [h, wm_u_0]), fun h => by rw [h, wm_u_0]⟩
theorem wm_u_nz {x : Int32} (h : ¬ x = 0) : 0 < wm_u x := Nat.pos_of_ne_zero (fun z => h (wm_u_z.mp z))
theorem wm_sx (x : Int32) : x.toInt64.toBitVec.toNat % 4294967296 = wm_u x := by
  rw [Int32.toBitVec_toInt64, BitVec.toNat_signExtend, BitVec.toNat_setWidth]
  have h : x.toBitVec.toNat < 4294967296 := x.toBitVec.isLt
  unfold wm_u
  split <;> omega
theorem wm_low (x : Int32) : x.toInt64 &&& 4294967295 = lN (wm_u x) := by
  apply wb_inj
  rw [Int64.toBitVec_and, wb_tb]
  apply BitVec.eq_of_toNat_eq
  show (x.toInt64.toBitVec &&& 4294967295#64).toNat = _
  have h := wm_u_lt x
  rw [BitVec.toNat_and, show (4294967295#64).toNat = 2 ^ 32 - 1 from by decide, Nat.and_two_pow_sub_one_eq_mod, BitVec.toNat_ofNat, Nat.mod_eq_of_lt (show wm_u x < 2 ^ 64 by omega)]
  exact wm_sx x
theorem wm_lowL {n : Nat} (h : n < 2 ^ 64) : lN n &&& 4294967295 = lN (n % 4294967296) := wb_mask (k := 32) h (by decide)
theorem wm_hi (x : Int32) : x.toInt64 <<< ((nI 32).toInt64 &&& 63) = lN (wm_u x * 4294967296) := by
  obtain ⟨n, hn, e⟩ := wb_of x.toInt64
  have h := wm_sx x
  rw [e, wb_tn hn] at h
  rw [e, wb_shl n (by decide), wb_mod, wb_mod (wm_u x * 4294967296)]
  exact congrArg lN (by omega)
theorem wm_pair (x y : Int32) : lN (wm_u x * 4294967296) ||| lN (wm_u y) = lN (wm_u x * 4294967296 + wm_u y) :=
  g_or (k := 32) (by decide) (wm_u_lt y) (by have := wm_u_lt x; have := wm_u_lt y; omega)
theorem wm_lt0 {n : Nat} (h : n < 2 ^ 64) : lN n < 0 ↔ 2 ^ 63 ≤ n := by
  rw [Int64.lt_iff_toInt_lt, lN_ti h]
  have e : (0 : Int64).toInt = 0 := by decide
  rw [e]
  split <;> omega
theorem wm_lsub {a b : Nat} (h : b ≤ 2 ^ 64) : lN a - lN b = lN (a + (2 ^ 64 - b)) := by
  apply wb_inj
  rw [Int64.toBitVec_sub, wb_tb, wb_tb, wb_tb]
  apply BitVec.eq_of_toNat_eq
  rw [BitVec.toNat_sub, BitVec.toNat_ofNat, BitVec.toNat_ofNat, BitVec.toNat_ofNat]
  omega
theorem wm_lt31 {a b : Nat} (ha : a < 2 ^ 63) (hb : b < 2 ^ 63) : lN a < lN b ↔ a < b := pk_lLT ha hb
/-- an Int32 as nI of its word, below 0 from 2^31 on -/
theorem wm_i0 (x : Int32) : x < 0 ↔ 2147483648 ≤ wm_u x := by
  have e : (0 : Int32).toInt = 0 := by decide
  have h := wm_u_lt x
  have t : x.toInt = if 2 * wm_u x < 2 ^ 32 then (wm_u x : Int) else (wm_u x : Int) - 2 ^ 32 := BitVec.toInt_eq_toNat_cond _
  rw [Int32.lt_iff_toInt_lt, e, t]
  split <;> omega
theorem wm_s_u : ∀ n, n < 32 → (((nI n).toUInt32 &&& Int32.toUInt32 31).toBitVec % 32).toNat = n := by decide +kernel
theorem wm_s_l : ∀ n, n < 32 → ((nI n &&& 31).toBitVec.smod 32).toNat = n := by decide +kernel
end
section
/-! ===== rows of words as numbers ===== -/
/-- the number that the lowest n words of f are -/
def wm_v (f : Nat → Int32) : Nat → Nat
  | 0 => 0
  | n + 1 => wm_v f n + wm_u (f n) * 4294967296 ^ n
theorem wm_v_0 (f : Nat → Int32) : wm_v f 0 = 0 := rfl
theorem wm_v_s (f : Nat → Int32) (n : Nat) : wm_v f (n + 1) = wm_v f n + wm_u (f n) * 4294967296 ^ n := rfl
theorem wm_pp (n : Nat) : 0 < 4294967296 ^ n := Nat.pow_pos (by decide)
theorem wm_v_lt (f : Nat → Int32) (n : Nat) : wm_v f n < 4294967296 ^ n := by
  induction n with
  | zero => rw [wm_v_0]; exact wm_pp 0
  | succ n ih =>
    rw [wm_v_s, Nat.pow_succ]
    have h : (wm_u (f n) + 1) * 4294967296 ^ n ≤ 4294967296 * 4294967296 ^ n := Nat.mul_le_mul_right _ (wm_u_lt _)
    rw [Nat.add_mul, Nat.one_mul] at h
    omega
theorem wm_v_congr {f g : Nat → Int32} {n : Nat} (h : ∀ k, k < n → f k = g k) : wm_v f n = wm_v g n := by
  induction n with
  | zero => rfl
  | succ n ih => rw [wm_v_s, wm_v_s, ih (fun k hk => h k (by omega)), h n (by omega)]
theorem wm_v_app (f : Nat → Int32) (m n : Nat) : wm_v f (m + n) = wm_v f m + 4294967296 ^ m * wm_v (fun k => f (m + k)) n := by
  induction n with
  | zero => rw [wm_v_0, Nat.mul_zero, Nat.add_zero, Nat.add_zero]
  | succ n ih =>
    have e : wm_v f (m + (n + 1)) = wm_v f (m + n) + wm_u (f (m + n)) * 4294967296 ^ (m + n) := rfl
    rw [e, ih, wm_v_s, Nat.mul_add, Nat.pow_add, Nat.mul_left_comm (4294967296 ^ m) (wm_u (f (m + n))), Nat.add_assoc]
theorem wm_v_z {f : Nat → Int32} {m : Nat} (d : Nat) (h : ∀ k, m ≤ k → k < m + d → f k = 0) : wm_v f (m + d) = wm_v f m := by
  induction d with
  | zero => rfl
  | succ d ih =>
    have e : wm_v f (m + (d + 1)) = wm_v f (m + d) + wm_u (f (m + d)) * 4294967296 ^ (m + d) := rfl
    rw [e, ih (fun k h1 h2 => h k h1 (by omega)), h (m + d) (by omega) (by omega), wm_u_0, Nat.zero_mul, Nat.add_zero]
theorem wm_v_z' {f : Nat → Int32} {m n : Nat} (hmn : m ≤ n) (h : ∀ k, m ≤ k → k < n → f k = 0) : wm_v f n = wm_v f m := by
  obtain ⟨d, rfl⟩ : ∃ d, n = m + d := ⟨n - m, by omega⟩
  exact wm_v_z d h
theorem wm_v_upd {f : Nat → Int32} {n k : Nat} {x : Int32} (h : n ≤ k) : wm_v (upd f k x) n = wm_v f n := wm_v_congr (fun j hj => pk_un (by omega))
theorem wm_v_upds {f : Nat → Int32} {n : Nat} {x : Int32} : wm_v (upd f n x) (n + 1) = wm_v f n + wm_u x * 4294967296 ^ n := by
  rw [wm_v_s, wm_v_upd (Nat.le_refl n), pk_us]
theorem wm_v_mono (f : Nat → Int32) {m n : Nat} (h : m ≤ n) : wm_v f m ≤ wm_v f n := by
  obtain ⟨d, rfl⟩ : ∃ d, n = m + d := ⟨n - m, by omega⟩
  rw [wm_v_app]
  exact Nat.le_add_right _ _
/-- one word of a carry chain: what comes in at place P goes on as a word and a carry -/
theorem wm_step (V c d S P : Nat) (h : V + c * P = S) : (V + (c + d) % 4294967296 * P) + (c + d) / 4294967296 * (P * 4294967296) = S + d * P := by
  have e : (c + d) % 4294967296 * P + (c + d) / 4294967296 * (P * 4294967296) = (c + d) * P := by
    rw [Nat.mul_comm P, ← Nat.mul_assoc, ← Nat.add_mul, Nat.mul_comm ((c + d) / 4294967296), Nat.mod_add_div]
  rw [Nat.add_assoc, e, Nat.add_mul, ← h]
  omega
/-! ===== a number in a row ===== -/
/-- the row f holds N in n words: 0 from n on, its highest word isn't 0 -/
def wm_rep (f : Nat → Int32) (n N : Nat) : Prop := n ≤ 2050 ∧ (∀ k, n ≤ k → k < 2050 → f k = 0) ∧ (0 < n → f (n - 1) ≠ 0) ∧ wm_v f n = N
theorem wm_rep_lt {f : Nat → Int32} {n N : Nat} (h : wm_rep f n N) : N < 4294967296 ^ n := by rw [← h.2.2.2]; exact wm_v_lt f n
theorem wm_rep_ge {f : Nat → Int32} {n N : Nat} (h : wm_rep f (n + 1) N) : 4294967296 ^ n ≤ N := by
  obtain ⟨-, -, h3, h4⟩ := h
  rw [← h4, wm_v_s]
  have h5 : 1 ≤ wm_u (f n) := wm_u_nz (h3 (by omega))
  have h6 : 1 * 4294967296 ^ n ≤ wm_u (f n) * 4294967296 ^ n := Nat.mul_le_mul_right _ h5
  omega
theorem wm_rep_le {f : Nat → Int32} {n N k : Nat} (h : wm_rep f n N) (hk : N < 4294967296 ^ k) : n ≤ k := by
  rcases Nat.eq_zero_or_pos n with z | z
  · omega
  · obtain ⟨j, rfl⟩ : ∃ j, n = j + 1 := ⟨n - 1, by omega⟩
    have h1 := wm_rep_ge h
    have h2 : 4294967296 ^ j < 4294967296 ^ k := Nat.lt_of_le_of_lt h1 hk
    have h3 : j < k := (Nat.pow_lt_pow_iff_right (by decide)).mp h2
    omega
theorem wm_rep_0 {f : Nat → Int32} {n N : Nat} (h : wm_rep f n N) : n = 0 ↔ N = 0 := by
  constructor
  · intro z
    subst z
    rw [← h.2.2.2]
    rfl
  · intro z
    subst z
    have := wm_rep_le (k := 0) h (by decide)
    omega
theorem wm_rep_v {f : Nat → Int32} {n N k : Nat} (h : wm_rep f n N) (hk : n ≤ k) (h2 : k ≤ 2050) : wm_v f k = N := by
  rw [wm_v_z' hk (fun j h3 h4 => h.2.1 j h3 (by omega)), h.2.2.2]
theorem wm_rep_uniq {f g : Nat → Int32} {n m N : Nat} (h : wm_rep f n N) (h2 : wm_rep g m N) : n = m := by
  have a := wm_rep_le h (wm_rep_lt h2)
  have b := wm_rep_le h2 (wm_rep_lt h)
  omega
/-- numbers are compared by their highest words that differ -/
theorem wm_v_cmp {f g : Nat → Int32} {i n : Nat} (hi : i < n) (h : ∀ k, i < k → k < n → f k = g k) (hu : wm_u (f i) < wm_u (g i)) : wm_v f n < wm_v g n := by
  obtain ⟨d, rfl⟩ : ∃ d, n = (i + 1) + d := ⟨n - (i + 1), by omega⟩
  rw [wm_v_app f, wm_v_app g, wm_v_congr (f := fun k => f (i + 1 + k)) (g := fun k => g (i + 1 + k)) (fun k hk => h _ (by omega) (by omega)), wm_v_s, wm_v_s]
  have h1 := wm_v_lt f i
  have h2 : (wm_u (f i) + 1) * 4294967296 ^ i ≤ wm_u (g i) * 4294967296 ^ i := Nat.mul_le_mul_right _ hu
  rw [Nat.add_mul, Nat.one_mul] at h2
  omega
theorem wm_rep_cmp {f g : Nat → Int32} {n m N M : Nat} (h : wm_rep f n N) (h2 : wm_rep g m M) (hl : n < m) : N < M := by
  obtain ⟨j, rfl⟩ : ∃ j, m = j + 1 := ⟨m - 1, by omega⟩
  have h3 := wm_rep_lt h
  have h4 := wm_rep_ge h2
  have h5 : 4294967296 ^ n ≤ 4294967296 ^ j := Nat.pow_le_pow_right (by decide) (by omega)
  omega
/-! ===== words as digits ===== -/
theorem wm_dig {f : Nat → Int32} {k n : Nat} (hk : k < n) : wm_v f n / 4294967296 ^ k % 4294967296 = wm_u (f k) := by
  obtain ⟨d, rfl⟩ : ∃ d, n = (k + 1) + d := ⟨n - (k + 1), by omega⟩
  have h1 := wm_v_lt f k
  have h2 := wm_u_lt (f k)
  rw [wm_v_app f (k + 1) d, wm_v_s, Nat.pow_succ, Nat.mul_comm (wm_u (f k)), Nat.mul_assoc, Nat.add_assoc, ← Nat.mul_add, Nat.add_mul_div_left _ _ (wm_pp k), Nat.div_eq_of_lt h1, Nat.zero_add, Nat.add_mul_mod_self_left, Nat.mod_eq_of_lt h2]
theorem wm_of_dig {g : Nat → Int32} {n M : Nat} (h : ∀ k, k < n → wm_u (g k) = M / 4294967296 ^ k % 4294967296) : wm_v g n = M % 4294967296 ^ n := by
  induction n with
  | zero => rw [wm_v_0, Nat.pow_zero, Nat.mod_one]
  | succ n ih => rw [wm_v_s, ih (fun k hk => h k (by omega)), h n (by omega), Nat.mod_pow_succ, Nat.mul_comm (M / 4294967296 ^ n % 4294967296)]
theorem wm_of_dig' {g : Nat → Int32} {n M : Nat} (h : ∀ k, k < n → wm_u (g k) = M / 4294967296 ^ k % 4294967296) (hM : M < 4294967296 ^ n) : wm_v g n = M := by
  rw [wm_of_dig h, Nat.mod_eq_of_lt hM]
theorem wm_rep_dig {f : Nat → Int32} {n N : Nat} (h : wm_rep f n N) {k : Nat} (hk : k < 2050) : wm_u (f k) = N / 4294967296 ^ k % 4294967296 := by
  rw [← wm_rep_v (k := 2050) h h.1 (Nat.le_refl _), wm_dig hk]
/-! ===== settle ===== -/
def wm_clr (g : Nat → Int32) (a b : Nat) : Nat → Int32 := fun k => if a ≤ k ∧ k < b then 0 else g k
def wm_top (g : Nat → Int32) : Nat → Nat
  | 0 => 0
  | n + 1 => if g n = 0 then wm_top g n else n + 1
theorem wm_top_0 (g : Nat → Int32) : wm_top g 0 = 0 := rfl
theorem wm_top_z {g : Nat → Int32} {n : Nat} (h : g n = 0) : wm_top g (n + 1) = wm_top g n := if_pos h
theorem wm_top_n {g : Nat → Int32} {n : Nat} (h : ¬ g n = 0) : wm_top g (n + 1) = n + 1 := if_neg h
theorem wm_top_le (g : Nat → Int32) (n : Nat) : wm_top g n ≤ n := by
  induction n with
  | zero => exact Nat.le_refl _
  | succ n ih =>
    by_cases h : g n = 0
    · rw [wm_top_z h]; omega
    · rw [wm_top_n h]; omega
theorem wm_top_zero (g : Nat → Int32) (n : Nat) : ∀ k, wm_top g n ≤ k → k < n → g k = 0 := by
  induction n with
  | zero => intro k _ h; omega
  | succ n ih =>
    intro k h1 h2
    by_cases h : g n = 0
    · rw [wm_top_z h] at h1
      by_cases e : k = n
      · rw [e, h]
      · exact ih k h1 (by omega)
    · rw [wm_top_n h] at h1
      omega
theorem wm_top_nz (g : Nat → Int32) (n : Nat) : 0 < wm_top g n → g (wm_top g n - 1) ≠ 0 := by
  induction n with
  | zero => intro h; rw [wm_top_0] at h; omega
  | succ n ih =>
    by_cases h : g n = 0
    · rw [wm_top_z h]; exact ih
    · rw [wm_top_n h]; intro _; exact h
theorem wm_top_congr {f g : Nat → Int32} {n : Nat} (h : ∀ k, k < n → f k = g k) : wm_top f n = wm_top g n := by
  induction n with
  | zero => rfl
  | succ n ih =>
    have e := h n (by omega)
    by_cases z : g n = 0
    · rw [wm_top_z z, wm_top_z (e.trans z), ih (fun k hk => h k (by omega))]
    · rw [wm_top_n z, wm_top_n (by rw [e]; exact z)]
theorem wm_clr_lo {g : Nat → Int32} {a b k : Nat} (h : k < a) : wm_clr g a b k = g k := if_neg (by omega)
theorem wm_clr_hi {g : Nat → Int32} {a b k : Nat} (h : b ≤ k) : wm_clr g a b k = g k := if_neg (by omega)
theorem wm_clr_in {g : Nat → Int32} {a b k : Nat} (h : a ≤ k) (h2 : k < b) : wm_clr g a b k = 0 := if_pos ⟨h, h2⟩
theorem wm_clr_s {g : Nat → Int32} {a k : Nat} (h : a ≤ k) : upd (wm_clr g a k) k 0 = wm_clr g a (k + 1) := by
  funext j
  by_cases e : j = k
  · subst e; rw [pk_us, wm_clr_in h (by omega)]
  · rw [pk_un e]
    by_cases z : a ≤ j ∧ j < k
    · rw [wm_clr_in z.1 z.2, wm_clr_in z.1 (by omega)]
    · have z2 : ¬ (a ≤ j ∧ j < k + 1) := by omega
      show (if _ then _ else _) = (if _ then _ else _)
      rw [if_neg z, if_neg z2]
theorem wm_clr_e {g : Nat → Int32} {a b : Nat} (h : b ≤ a) : wm_clr g a b = g := by
  funext j
  exact if_neg (by omega)
theorem wm_settled {g : Nat → Int32} {c n0 : Nat} (hc : c ≤ 2050) (h : ∀ k, c ≤ k → n0 ≤ k → k < 2050 → g k = 0) : wm_rep (wm_clr g c n0) (wm_top g c) (wm_v g c) := by
  have ht := wm_top_le g c
  refine ⟨by omega, fun k h1 h2 => ?_, fun h1 => ?_, ?_⟩
  · by_cases h3 : k < c
    · rw [wm_clr_lo h3]; exact wm_top_zero g c k h1 h3
    · by_cases h4 : k < n0
      · exact wm_clr_in (by omega) h4
      · rw [wm_clr_hi (by omega)]; exact h k (by omega) (by omega) h2
  · rw [wm_clr_lo (by omega)]; exact wm_top_nz g c h1
  · rw [wm_v_z' ht (fun k h1 h2 => wm_top_zero g c k h1 h2)]
    exact wm_v_congr (fun k hk => wm_clr_lo (by omega))
/-! ===== the outcome of a call that puts one number into row i ===== -/
def wm_up (i X : Nat) (ln : Nat → Nat) (wd : Nat → Nat → Int32) (u : (Nat → Nat) × (Nat → Nat → Int32)) : Prop := ∃ (n : Nat) (g : Nat → Int32), u = (va_up ln i n, va_up wd i g) ∧ wm_rep g n X
/-- all rows hold numbers -/
def wm_ok (N : Nat → Nat) (ln : Nat → Nat) (wd : Nat → Nat → Int32) : Prop := ∀ j, j < 19 → wm_rep (wd j) (ln j) (N j)
theorem wm_ok_up {N : Nat → Nat} {ln : Nat → Nat} {wd : Nat → Nat → Int32} {i X : Nat} {u : (Nat → Nat) × (Nat → Nat → Int32)} (h : wm_ok N ln wd) (hu : wm_up i X ln wd u) : wm_ok (va_up N i X) u.1 u.2 := by
  obtain ⟨n, g, rfl, hr⟩ := hu
  intro j hj
  by_cases e : j = i
  · subst e
    show wm_rep (va_up wd j g j) (va_up ln j n j) (va_up N j X j)
    rw [va_up_self, va_up_self, va_up_self]
    exact hr
  · show wm_rep (va_up wd i g j) (va_up ln i n j) (va_up N i X j)
    rw [va_up_ne _ _ e, va_up_ne _ _ e, va_up_ne _ _ e]
    exact h j hj
theorem wm_eta {α : Type} (f : Nat → α) (i : Nat) : va_up f i (f i) = f := by
  funext j
  by_cases e : j = i
  · subst e; exact va_up_self _ _ _
  · exact va_up_ne _ _ e
theorem wm_uu {α : Type} (f : Nat → α) (k : Nat) (v w : α) : va_up (va_up f k v) k w = va_up f k w := bx_uu f k v w
theorem wm_clr_max {g : Nat → Int32} {a b : Nat} : wm_clr g a (max a b) = wm_clr g a b := by
  funext j
  by_cases h : a ≤ j ∧ j < b
  · rw [wm_clr_in h.1 h.2, wm_clr_in h.1 (by omega)]
  · show (if _ then _ else _) = (if _ then _ else _)
    rw [if_neg h, if_neg (by omega)]
/-- 0 from n on -/
def wm_ze (f : Nat → Int32) (n : Nat) : Prop := n ≤ 2050 ∧ ∀ k, n ≤ k → k < 2050 → f k = 0
theorem wm_rep_ze {f : Nat → Int32} {n N : Nat} (h : wm_rep f n N) : wm_ze f n := ⟨h.1, h.2.1⟩
/-- the outcome of settle -/
theorem wm_up_of {i X n0 c : Nat} {ln : Nat → Nat} {wd : Nat → Nat → Int32} {g : Nat → Int32} {u : (Nat → Nat) × (Nat → Nat → Int32)} (hu : u = (va_up ln i (wm_top g c), va_up wd i (wm_clr g c n0))) (hc : c ≤ 2050) (hz : ∀ k, c ≤ k → n0 ≤ k → k < 2050 → g k = 0) (hX : wm_v g c = X) : wm_up i X ln wd u :=
  ⟨_, _, hu, by rw [← hX]; exact wm_settled hc hz⟩
end
section
/-! ===== a word of a quotient, guessed from the highest words ===== -/
/-- the guess: the quotient of the highest words, at most 2^32 - 1 -/
def wm_gs (U V : Nat) : Nat := if U / V < 4294967295 then U / V else 4294967295
theorem wm_gs_lt (U V : Nat) : wm_gs U V < 4294967296 := by
  unfold wm_gs
  split <;> omega
theorem wm_gs_mul {U V : Nat} : wm_gs U V * V ≤ U := by
  have h : wm_gs U V ≤ U / V := by
    unfold wm_gs
    split <;> omega
  exact Nat.le_trans (Nat.mul_le_mul_right V h) (Nat.div_mul_le_self U V)
theorem wm_gs_hi {U V : Nat} (hV : 0 < V) : U < (wm_gs U V + 1) * V ∨ wm_gs U V = 4294967295 := by
  unfold wm_gs
  split
  · exact Or.inl (by rw [← Nat.div_lt_iff_lt_mul hV]; omega)
  · exact Or.inr rfl
/-- what the guess is, from what the loop leaves behind -/
theorem wm_gs_of {U V w : Nat} (hV : 0 < V) (h1 : w * V ≤ U) (h2 : wm_gs U V ≤ w) (h3 : w < 4294967296) : w = wm_gs U V := by
  have h4 : w ≤ U / V := (Nat.le_div_iff_mul_le hV).mpr h1
  unfold wm_gs at h2 ⊢
  split at h2
  · rw [if_pos (by assumption)]; omega
  · rw [if_neg (by assumption)]; omega
/-- the guess is not much too great -/
theorem wm_knuth1 {u v U V S u' v' q : Nat} (hu : u = U * S + u') (hv : v = V * S + v') (hv' : v' < S) (hV : 4294967296 ≤ V) (hq : q < 4294967296) (h1 : q * V ≤ U) : q * v < u + v := by
  have a1 : q * v = q * V * S + q * v' := by rw [hv, Nat.mul_add, Nat.mul_assoc]
  have a2 : q * V * S ≤ U * S := Nat.mul_le_mul_right _ h1
  have a3 : q * v' ≤ q * S := Nat.mul_le_mul_left _ (Nat.le_of_lt hv')
  have a4 : q * S ≤ 4294967295 * S := Nat.mul_le_mul_right _ (by omega)
  have a5 : 4294967296 * S ≤ V * S := Nat.mul_le_mul_right _ hV
  omega
/-- nor too small -/
theorem wm_knuth2 {u v U V S u' v' q : Nat} (hu : u = U * S + u') (hu' : u' < S) (hv : v = V * S + v') (h2 : U < (q + 1) * V) : u < (q + 1) * v := by
  have a1 : (U + 1) * S ≤ (q + 1) * V * S := Nat.mul_le_mul_right _ h2
  have a2 : (q + 1) * V * S ≤ (q + 1) * v := by
    rw [Nat.mul_assoc]
    exact Nat.mul_le_mul_left _ (by omega)
  rw [Nat.add_mul, Nat.one_mul] at a1
  omega
/-! ===== how many bits a number has ===== -/
def wm_bl (n : Nat) : Nat := if n = 0 then 0 else n.log2 + 1
theorem wm_bl_0 : wm_bl 0 = 0 := rfl
theorem wm_bl_le {n k : Nat} : wm_bl n ≤ k ↔ n < 2 ^ k := by
  unfold wm_bl
  by_cases h : n = 0
  · rw [if_pos h, h]
    exact ⟨fun _ => Nat.pow_pos (by decide), fun _ => Nat.zero_le _⟩
  · rw [if_neg h, ← Nat.log2_lt h]
    exact Iff.rfl
theorem wm_bl_lt (n : Nat) : n < 2 ^ wm_bl n := wm_bl_le.mp (Nat.le_refl _)
theorem wm_bl_of {n b : Nat} (h1 : n < 2 ^ b) (h2 : b = 0 ∨ 2 ^ (b - 1) ≤ n) : wm_bl n = b := by
  have a : wm_bl n ≤ b := wm_bl_le.mpr h1
  rcases h2 with h2 | h2
  · omega
  · have c : ¬ wm_bl n ≤ b - 1 := fun z => Nat.not_lt.mpr h2 (wm_bl_le.mp z)
    omega
theorem wm_bl_ge {n : Nat} (h : 0 < n) : 2 ^ (wm_bl n - 1) ≤ n := by
  have hn : n ≠ 0 := by omega
  have e : wm_bl n = n.log2 + 1 := if_neg hn
  rw [e, Nat.add_sub_cancel]
  exact Nat.log2_self_le hn
theorem wm_bl_pos {n : Nat} (h : 0 < n) : 0 < wm_bl n := by
  have e : wm_bl n = n.log2 + 1 := if_neg (by omega)
  omega
/-- shifted left -/
theorem wm_bl_shl {n r k : Nat} (hn : 0 < n) (hr : r < 2 ^ k) : wm_bl (n * 2 ^ k + r) = wm_bl n + k := by
  have h1 := wm_bl_lt n
  have h2 := wm_bl_ge hn
  have h3 := wm_bl_pos hn
  apply wm_bl_of
  · rw [Nat.pow_add]
    have : (n + 1) * 2 ^ k ≤ 2 ^ wm_bl n * 2 ^ k := Nat.mul_le_mul_right _ h1
    rw [Nat.add_mul, Nat.one_mul] at this
    omega
  · refine Or.inr ?_
    have e : 2 ^ (wm_bl n + k - 1) = 2 ^ (wm_bl n - 1) * 2 ^ k := by
      rw [← Nat.pow_add]
      congr 1
      omega
    rw [e]
    have := Nat.mul_le_mul_right (2 ^ k) h2
    omega
theorem wm_bl_div {n k : Nat} (h : 2 ^ k ≤ n) : wm_bl n = wm_bl (n / 2 ^ k) + k := by
  have hp : 0 < 2 ^ k := Nat.pow_pos (by decide)
  have h0 : 0 < n / 2 ^ k := Nat.div_pos h hp
  have e := wm_bl_shl (k := k) h0 (Nat.mod_lt n hp)
  rw [Nat.mul_comm, Nat.add_comm, Nat.mod_add_div] at e
  exact e
theorem wm_p32 (k : Nat) : 4294967296 ^ k = 2 ^ (32 * k) := by rw [Nat.pow_mul]
theorem wm_bl_rep {f : Nat → Int32} {k N : Nat} (h : wm_rep f (k + 1) N) : wm_bl N = 32 * k + wm_bl (wm_u (f k)) := by
  obtain ⟨-, -, h3, h4⟩ := h
  have h5 : 0 < wm_u (f k) := wm_u_nz (h3 (by omega))
  have h6 := wm_v_lt f k
  rw [← h4, wm_v_s, wm_p32, Nat.add_comm, wm_bl_shl h5 (by rw [← wm_p32]; exact h6), Nat.add_comm]
/-! ===== the guess, step by step ===== -/
theorem wm_gu_le {w b o pair sec lo : Nat} (h : w * b + o = pair) : w * (b * 4294967296 + sec) ≤ pair * 4294967296 + lo ↔ w * sec ≤ o * 4294967296 + lo := by
  have e : w * (b * 4294967296 + sec) = w * b * 4294967296 + w * sec := by rw [Nat.mul_add, Nat.mul_assoc]
  rw [e, ← h, Nat.add_mul]
  omega
theorem wm_gu_big {w b o pair sec lo : Nat} (h : w * b + o = pair) (ho : 4294967296 ≤ o) (hw : w < 4294967296) (hs : sec < 4294967296) : w * (b * 4294967296 + sec) ≤ pair * 4294967296 + lo := by
  rw [wm_gu_le h]
  have h1 : w * sec ≤ 4294967295 * 4294967295 := Nat.mul_le_mul (by omega) (by omega)
  omega
theorem wm_gu_0 {b pair sec lo : Nat} (hb : 0 < b) (hl : lo < 4294967296) : wm_gs (pair * 4294967296 + lo) (b * 4294967296 + sec) ≤ pair / b := by
  rw [Nat.le_div_iff_mul_le hb]
  have h1 := wm_gs_mul (U := pair * 4294967296 + lo) (V := b * 4294967296 + sec)
  generalize wm_gs (pair * 4294967296 + lo) (b * 4294967296 + sec) = g at h1
  rw [Nat.mul_add, ← Nat.mul_assoc] at h1
  omega
theorem wm_gu_dec {U V w : Nat} (h : ¬ w * V ≤ U) : wm_gs U V + 1 ≤ w := by
  have h1 := wm_gs_mul (U := U) (V := V)
  rcases Nat.lt_or_ge (wm_gs U V) w with z | z
  · exact z
  · exact absurd (Nat.le_trans (Nat.mul_le_mul_right V z) h1) h
theorem wm_half {p b : Nat} (hb : 0 < b) : p / 2 / b * 2 * b ≤ p ∧ p - p / 2 / b * 2 * b < 2 * b ∧ p / b = p / 2 / b * 2 + (if b ≤ p - p / 2 / b * 2 * b then 1 else 0) := by
  have hb2 : 0 < 2 * b := by omega
  have e0 : p / 2 / b = p / (2 * b) := by rw [Nat.div_div_eq_div_mul]
  have e1 := Nat.mod_add_div p (2 * b)
  have e2 := Nat.mod_lt p hb2
  rw [e0]
  generalize p / (2 * b) = x at e1
  generalize p % (2 * b) = y at e1 e2
  have e3 : x * 2 * b = 2 * b * x := by rw [Nat.mul_comm (2 * b), Nat.mul_assoc]
  rw [e3]
  subst e1
  refine ⟨by omega, by omega, ?_⟩
  rw [Nat.add_sub_cancel]
  have e4 : (y + 2 * b * x) / b = y / b + x * 2 := by
    rw [Nat.mul_comm 2 b, Nat.mul_assoc, Nat.add_mul_div_left _ _ hb, Nat.mul_comm 2 x]
  rw [e4, Nat.add_comm]
  congr 1
  split
  · exact Nat.div_eq_of_lt_le (by omega) (by omega)
  · exact Nat.div_eq_of_lt (by omega)
/-! ===== long division, a step ===== -/
theorem wm_dv_step {L T v P q r : Nat} (hT : T = L * P + r) (hr : r < P) (hq : q * v ≤ L) (hq2 : L < (q + 1) * v) : T = q * v * P + ((L - q * v) * P + r) ∧ (L - q * v) * P + r < v * P := by
  obtain ⟨d, rfl⟩ : ∃ d, L = q * v + d := ⟨L - q * v, by omega⟩
  rw [Nat.add_sub_cancel_left]
  rw [Nat.add_mul, Nat.one_mul] at hq2
  have h1 : (d + 1) * P ≤ v * P := Nat.mul_le_mul_right _ (by omega)
  rw [Nat.add_mul, Nat.one_mul] at h1
  refine ⟨?_, by omega⟩
  rw [hT, Nat.add_mul]
  omega
theorem wm_nlz_fin {v w k : Nat} (hb : wm_bl v = wm_bl w + k) (h1 : 1 ≤ w) (h4 : w < 4) : 31 - k - w / 2 ^ 1 = 32 - wm_bl v := by
  have h : wm_bl w = 1 + w / 2 ^ 1 := by
    rcases (show w = 1 ∨ w = 2 ∨ w = 3 by omega) with z | z | z <;> subst z <;> decide
  omega
end
section
/-! ===== longs with a sign ===== -/
def lz_i (z : Int) : Int64 := Int64.ofInt z
theorem lz_n (n : Nat) : lN n = lz_i (n : Int) := (Int64.ofInt_eq_ofNat).symm
theorem lz_sub (x y : Int) : lz_i x - lz_i y = lz_i (x - y) := (Int64.ofInt_sub _ _).symm
theorem lz_add (x y : Int) : lz_i x + lz_i y = lz_i (x + y) := (Int64.ofInt_add _ _).symm
theorem lz_toInt {z : Int} (h1 : -9223372036854775808 ≤ z) (h2 : z < 9223372036854775808) : (lz_i z).toInt = z := by
  exact Int64.toInt_ofInt_of_le (by omega) (by omega)
theorem lz_lt0 {z : Int} (h1 : -9223372036854775808 ≤ z) (h2 : z < 9223372036854775808) : lz_i z < 0 ↔ z < 0 := by
  have e : (0 : Int64).toInt = 0 := by decide
  rw [Int64.lt_iff_toInt_lt, e, lz_toInt h1 h2]
theorem lz_32 (z : Int) : (lz_i z).toInt32 = Int32.ofInt z := Int64.toInt32_ofInt
theorem lz_u (z : Int) : wm_u (Int32.ofInt z) = (z % 4294967296).toNat := by
  show (BitVec.ofInt 32 z).toNat = _
  rw [BitVec.toNat_ofInt]
  rfl
/-- a long as a number below 2^64 -/
theorem lz_nn (z : Int) : lz_i z = lN (z % 18446744073709551616).toNat := by
  apply wb_inj
  rw [wb_tb]
  apply BitVec.eq_of_toNat_eq
  show (BitVec.ofInt 64 z).toNat = _
  rw [BitVec.toNat_ofInt, BitVec.toNat_ofNat]
  have h1 : 0 ≤ z % 18446744073709551616 := Int.emod_nonneg _ (by decide)
  have h2 : z % 18446744073709551616 < 18446744073709551616 := Int.emod_lt_of_pos _ (by decide)
  show (z % 18446744073709551616).toNat = _
  omega
/-- the sign's bit -/
theorem lz_63 {z : Int} (h1 : -9223372036854775808 ≤ z) (h2 : z < 9223372036854775808) : ((lz_i z).toUInt64 >>> ((nI 63).toInt64.toUInt64 &&& Int64.toUInt64 63)).toInt64 = lN (if z < 0 then 1 else 0) := by
  rw [lz_nn, wb_shr (by omega) (by decide)]
  congr 1
  split <;> omega
/-! ===== chains of carries and borrows ===== -/
theorem wm_chain {f : Nat → Int32} {k c d S : Nat} (h : wm_v f k + c * 4294967296 ^ k = S) : wm_v (upd f k (nI (c + d))) (k + 1) + (c + d) / 4294967296 * 4294967296 ^ (k + 1) = S + d * 4294967296 ^ k := by
  rw [wm_v_upds, wm_un, Nat.pow_succ]
  exact wm_step _ _ _ _ _ h
theorem wm_bstep {V X Y c w d t c' P : Nat} (h : V + X = Y + c * P) (e : w + d + c = t + c' * 4294967296) : (V + w * P) + (X + d * P) = (Y + t * P) + c' * (P * 4294967296) := by
  have e2 : (w + d + c) * P = (t + c' * 4294967296) * P := by rw [e]
  rw [Nat.add_mul, Nat.add_mul, Nat.add_mul, Nat.mul_assoc, Nat.mul_comm 4294967296 P] at e2
  omega
theorem wm_bword {ua ub c : Nat} (h1 : ua < 4294967296) (h2 : ub < 4294967296) (h3 : c ≤ 1) : ((((ua : Int) - (ub : Int) - (c : Int)) % 4294967296).toNat) + ub + c = ua + (if (ua : Int) - (ub : Int) - (c : Int) < 0 then 1 else 0) * 4294967296 := by
  split <;> omega
theorem wm_tword {t b : Nat} (h1 : t < 4294967296) : ((((t : Int) - ((b % 4294967296 : Nat) : Int)) % 4294967296).toNat) + b = t + (b / 4294967296 + (if (t : Int) - ((b % 4294967296 : Nat) : Int) < 0 then 1 else 0)) * 4294967296 := by
  split <;> omega
/-- a row from a place on -/
def wm_off (f : Nat → Int32) (a : Nat) : Nat → Int32 := fun k => f (a + k)
theorem wm_off_upd (f : Nat → Int32) (a k : Nat) (x : Int32) : wm_off (upd f (a + k) x) a = upd (wm_off f a) k x := by
  funext j
  by_cases e : j = k
  · subst e
    show upd f (a + j) x (a + j) = _
    rw [pk_us, pk_us]
  · show upd f (a + k) x (a + j) = _
    rw [pk_un (by omega), pk_un e]
    rfl
theorem wm_off_0 (f : Nat → Int32) : wm_off f 0 = f := by
  funext j
  show f (0 + j) = f j
  rw [Nat.zero_add]
theorem wm_v_off (f : Nat → Int32) (m n : Nat) : wm_v f (m + n) = wm_v f m + 4294967296 ^ m * wm_v (wm_off f m) n := wm_v_app f m n
end
section
/-! ===== ones of a word ===== -/
/-- how many of the lowest k bits of N are 1 -/
def wm_on (N : Nat) : Nat → Nat
  | 0 => 0
  | k + 1 => wm_on N k + N / 2 ^ k % 2
theorem wm_on_s (N k : Nat) : wm_on N (k + 1) = wm_on N k + N / 2 ^ k % 2 := rfl
theorem wm_on_add (N m k : Nat) : wm_on N (m + k) = wm_on N m + wm_on (N / 2 ^ m) k := by
  induction k with
  | zero => rfl
  | succ k ih =>
    have e : wm_on N (m + (k + 1)) = wm_on N (m + k) + N / 2 ^ (m + k) % 2 := rfl
    rw [e, ih, wm_on_s, Nat.pow_add, Nat.div_div_eq_div_mul, Nat.add_assoc]
theorem wm_on_mod (N k : Nat) : wm_on (N % 2 ^ k) k = wm_on N k := by
  have h : ∀ j, j ≤ k → wm_on (N % 2 ^ k) j = wm_on N j := by
    intro j
    induction j with
    | zero => intro _; rfl
    | succ j ih =>
      intro hj
      rw [wm_on_s, wm_on_s, ih (by omega)]
      congr 1
      obtain ⟨d, rfl⟩ : ∃ d, k = j + 1 + d := ⟨k - (j + 1), by omega⟩
      rw [Nat.pow_add, Nat.pow_succ, Nat.mul_assoc, Nat.mod_mul_right_div_self, Nat.mod_mod_of_dvd _ ⟨2 ^ d, rfl⟩]
  exact h k (Nat.le_refl _)
theorem wm_on_0 (k : Nat) : wm_on 0 k = 0 := by
  induction k with
  | zero => rfl
  | succ k ih => rw [wm_on_s, ih, Nat.zero_div]
theorem wm_on_big {N m : Nat} (h : N < 2 ^ m) (k : Nat) : wm_on N (m + k) = wm_on N m := by
  rw [wm_on_add, Nat.div_eq_of_lt h, wm_on_0, Nat.add_zero]
theorem wm_on_le (N k : Nat) : wm_on N k ≤ k := by
  induction k with
  | zero => exact Nat.le_refl _
  | succ k ih =>
    rw [wm_on_s]
    have : N / 2 ^ k % 2 < 2 := Nat.mod_lt _ (by decide)
    omega
/-- ones of a number are the ones of its words -/
def wm_ons (f : Nat → Int32) : Nat → Nat
  | 0 => 0
  | n + 1 => wm_ons f n + wm_on (wm_u (f n)) 32
theorem wm_ons_v (f : Nat → Int32) (n : Nat) : wm_ons f n = wm_on (wm_v f n) (32 * n) := by
  induction n with
  | zero => rfl
  | succ n ih =>
    have e : wm_ons f (n + 1) = wm_ons f n + wm_on (wm_u (f n)) 32 := rfl
    have hp := wm_pp n
    have h1 := wm_v_lt f n
    rw [e, ih, show 32 * (n + 1) = 32 * n + 32 by omega, wm_on_add, ← wm_p32, wm_v_s, ← wm_on_mod (wm_v f n + _), ← wm_p32, Nat.mul_comm (wm_u (f n)), Nat.add_mul_mod_self_left, Nat.mod_eq_of_lt h1, Nat.add_mul_div_left _ _ hp, Nat.div_eq_of_lt h1, Nat.zero_add]
/-! ===== Integer.bitCount, over numbers ===== -/
theorem wm_and8 {a b : Nat} : a &&& b = (a % 256 &&& b % 256) + 256 * (a / 256 &&& b / 256) := by
  have h1 : (a &&& b) % 2 ^ 8 = (a % 2 ^ 8) &&& (b % 2 ^ 8) := Nat.and_mod_two_pow
  have h2 : (a &&& b) / 2 ^ 8 = a / 2 ^ 8 &&& b / 2 ^ 8 := Nat.and_div_two_pow
  have h3 := Nat.mod_add_div (a &&& b) 256
  rw [show (2 : Nat) ^ 8 = 256 by decide] at h1 h2
  rw [h1, h2] at h3
  exact h3.symm
/-- a mask that is the same in all bytes -/
theorem wm_mask4 {b0 b1 b2 b3 k : Nat} (h0 : b0 < 256) (h1 : b1 < 256) (h2 : b2 < 256) (h3 : b3 < 256) (hk : k < 256) : (b0 + 256 * (b1 + 256 * (b2 + 256 * b3))) &&& (k + 256 * (k + 256 * (k + 256 * k))) = (b0 &&& k) + 256 * ((b1 &&& k) + 256 * ((b2 &&& k) + 256 * (b3 &&& k))) := by
  have m : ∀ x y : Nat, x < 256 → (x + 256 * y) % 256 = x := fun x y h => by omega
  have d : ∀ x y : Nat, x < 256 → (x + 256 * y) / 256 = y := fun x y h => by omega
  rw [wm_and8, m _ _ h0, d _ _ h0, m _ _ hk, d _ _ hk, wm_and8 (a := b1 + _), m _ _ h1, d _ _ h1, m _ _ hk, d _ _ hk, wm_and8 (a := b2 + _), m _ _ h2, d _ _ h2, m _ _ hk, d _ _ hk]
def wm_bc1 (b : Nat) : Nat := b - (b / 2 &&& 85)
def wm_bc2 (b : Nat) : Nat := (wm_bc1 b &&& 51) + (wm_bc1 b / 4 &&& 51)
def wm_bc3 (b : Nat) : Nat := (wm_bc2 b + wm_bc2 b / 16) &&& 15
theorem wm_bc_1 : ∀ b, b < 256 → ∀ x, x < 2 → ((b / 2 + 128 * x) &&& 85) = (b / 2 &&& 85) ∧ (b / 2 &&& 85) ≤ b := by decide +kernel
theorem wm_bc_2 : ∀ b, b < 256 → ∀ x, x < 4 → ((wm_bc1 b / 4 + 64 * x) &&& 51) = (wm_bc1 b / 4 &&& 51) ∧ wm_bc1 b < 256 ∧ wm_bc2 b < 256 := by decide +kernel
theorem wm_bc_3 : ∀ b, b < 256 → ∀ x, x < 16 → ((wm_bc2 b + wm_bc2 b / 16 + 16 * x) &&& 15) = wm_bc3 b ∧ wm_bc2 b + wm_bc2 b / 16 + 16 * x < 512 ∧ wm_bc2 b ≤ 68 := by decide +kernel
theorem wm_bc_4 : ∀ b, b < 256 → wm_bc3 b = wm_on b 8 := by decide +kernel
end
section
/-! ===== a word of a square root ===== -/
/-- the guess w (times the doubled root) may be 2 too great at most -/
theorem wm_rt_2 {s T g b : Nat} (hs : b ≤ 2 * s) (hg : g + 2 < b) (h : (g + 2) * (s * b) < T / 2 + s * b) : g * (2 * s * b + g) ≤ T := by
  generalize hD : s * b = D at h
  have h2 : g * g ≤ b * b := Nat.mul_le_mul (by omega) (by omega)
  have h3 : b * b ≤ 2 * s * b := Nat.mul_le_mul_right _ hs
  have h5 : 2 * s * b = 2 * D := by rw [Nat.mul_assoc, hD]
  have e1 : (g + 2) * D = g * D + 2 * D := Nat.add_mul _ _ _
  have e2 : g * (2 * s * b + g) = 2 * (g * D) + g * g := by
    rw [h5, Nat.mul_add, Nat.mul_left_comm]
  rw [e2]
  rw [e1] at h
  omega
theorem wm_sq (a b : Nat) : (a + b) * (a + b) = a * a + 2 * (a * b) + b * b := by
  rw [Nat.mul_add, Nat.add_mul, Nat.add_mul, Nat.mul_comm b a]
  omega
/-- what the step does: R is what is left of s, T = R with the next two words, w the next word of the root -/
theorem wm_rt_ok {s R q w T b : Nat} (hT : T = R * b * b + q) (h1 : w * (2 * s * b + w) ≤ T) (h2 : T < (w + 1) * (2 * s * b + (w + 1))) :
    (s * b + w) * (s * b + w) + (T - w * (2 * s * b + w)) = (s * s + R) * b * b + q ∧ T - w * (2 * s * b + w) ≤ 2 * (s * b + w) := by
  generalize hD : s * b = D
  have h5 : 2 * s * b = 2 * D := by rw [Nat.mul_assoc, hD]
  have e0 : w * (2 * s * b + w) = 2 * (D * w) + w * w := by
    rw [h5, Nat.mul_add, Nat.mul_left_comm, Nat.mul_comm w D]
  have e1 : (D + w) * (D + w) = D * D + 2 * (D * w) + w * w := wm_sq D w
  have e4 : D * D = s * s * b * b := by
    rw [← hD, Nat.mul_assoc (s * s), Nat.mul_mul_mul_comm]
  have e2 : (s * s + R) * b * b = s * s * b * b + R * b * b := by
    rw [Nat.add_mul, Nat.add_mul]
  have e3 : (w + 1) * (2 * s * b + (w + 1)) = 2 * (D * w) + w * w + 2 * D + 2 * w + 1 := by
    rw [h5, Nat.add_mul, Nat.one_mul, Nat.mul_add, Nat.mul_left_comm, Nat.mul_comm w D, Nat.mul_add, Nat.mul_one]
    omega
  rw [e0] at h1 ⊢
  rw [e3] at h2
  constructor
  · rw [e1, e2, e4]
    generalize s * s * b * b = X at *
    generalize R * b * b = Y at *
    omega
  · omega
/-- the shift back: S the root of A * 4^h, R what is left, S = s * 2^h + t -/
theorem wm_rt_back {A S R s t p : Nat} (hA : S * S + R = A * (p * p)) (hR : R ≤ 2 * S) (hS : S = s * p + t) (ht : t < p) : s * s ≤ A ∧ A - s * s ≤ 2 * s ∧ (R + t * (2 * S)) / (p * p) = A - s * s := by
  have hp : 0 < p := by omega
  have hpp : 0 < p * p := Nat.mul_pos hp hp
  generalize hD : s * p = D at hS
  have e0 : D * D = s * s * (p * p) := by rw [← hD, Nat.mul_mul_mul_comm]
  have e1 : S * S = s * s * (p * p) + 2 * (D * t) + t * t := by rw [hS, wm_sq, e0]
  have e2 : t * (2 * S) = 2 * (D * t) + 2 * (t * t) := by
    rw [Nat.mul_left_comm, hS, Nat.mul_add, Nat.mul_comm t D]
    omega
  have htt : t * t < p * p := by
    rcases Nat.eq_zero_or_pos t with z | z
    · subst z; rw [Nat.zero_mul]; exact hpp
    · exact Nat.mul_lt_mul_of_lt_of_le ht (Nat.le_of_lt ht) hp
  have h1 : s * s ≤ A := by
    have h : s * s * (p * p) ≤ A * (p * p) := by omega
    exact Nat.le_of_mul_le_mul_right h hpp
  obtain ⟨r, rfl⟩ : ∃ r, A = s * s + r := ⟨A - s * s, by omega⟩
  have e3 : (s * s + r) * (p * p) = s * s * (p * p) + r * (p * p) := Nat.add_mul _ _ _
  have e4 : R + t * (2 * S) = t * t + p * p * r := by
    rw [Nat.mul_comm (p * p) r]
    omega
  refine ⟨h1, ?_, ?_⟩
  · rw [Nat.add_sub_cancel_left]
    have h2 : R + t * (2 * S) < t * t + (2 * s + 1) * (p * p) := by
      have a2 : 2 * S * (t + 1) ≤ 2 * S * p := Nat.mul_le_mul_left _ ht
      have a3 : 2 * S * p = 2 * (s * (p * p)) + 2 * (t * p) := by
        rw [Nat.mul_assoc, hS, Nat.add_mul, Nat.mul_add, ← hD, Nat.mul_assoc s]
      have a4 : 2 * S * (t + 1) = t * (2 * S) + 2 * S := by
        rw [Nat.mul_add, Nat.mul_one, Nat.mul_comm t]
      have a5 : (2 * s + 1) * (p * p) = 2 * (s * (p * p)) + p * p := by
        rw [Nat.add_mul, Nat.one_mul, Nat.mul_assoc]
      have a6 : 2 * (t * p) < t * t + p * p := by
        obtain ⟨d, hd⟩ : ∃ d, p = t + d := ⟨p - t, by omega⟩
        have hdd : 0 < d * d := Nat.mul_pos (by omega) (by omega)
        have b1 : t * p = t * t + t * d := by rw [hd, Nat.mul_add]
        have b2 : p * p = t * t + 2 * (t * d) + d * d := by rw [hd, wm_sq]
        omega
      omega
    rw [e4] at h2
    have h3 : r * (p * p) < (2 * s + 1) * (p * p) := by
      rw [Nat.mul_comm r]
      omega
    have := Nat.lt_of_mul_lt_mul_right h3
    omega
  · rw [e4, Nat.add_mul_div_left _ _ hpp, Nat.div_eq_of_lt htt, Nat.zero_add, Nat.add_sub_cancel_left]
end
section
-- ===== PART A: goes FIRST, ahead of the names: the tables' words, and 'selects' of the private methods out of them =====
/-- a private method of a class that the tables say can be made, by its rows of tables_1 -/
def lw_okq (q : MethodName × Nat) : Prop := (q.1.cls ≠ "java/lang/invoke/MethodHandle" ∧ q.1.cls ≠ "java/lang/invoke/VarHandle") ∧ Cond.instantiable q.1.cls q.2 ∈ tables_1 ∧ Cond.privateMethod q.1 ∈ tables_1 ∧ Cond.instanceMethod q.1 ∈ tables_1
theorem lw_p0 : lw_okq (⟨"WholeMill", "keepResult", "(I)Z"⟩, 4) := ⟨⟨by decide +kernel, by decide +kernel⟩, List.mem_of_getElem? (i := 11) (by decide +kernel), List.mem_of_getElem? (i := 89) (by decide +kernel), List.mem_of_getElem? (i := 90) (by decide +kernel)⟩
theorem lw_p1 : lw_okq (⟨"WholeMillModel", "loadX", "(I)V"⟩, 8) := ⟨⟨by decide +kernel, by decide +kernel⟩, List.mem_of_getElem? (i := 288) (by decide +kernel), List.mem_of_getElem? (i := 327) (by decide +kernel), List.mem_of_getElem? (i := 328) (by decide +kernel)⟩
theorem lw_p2 : lw_okq (⟨"WholeMillModel", "clearZ", "()V"⟩, 8) := ⟨⟨by decide +kernel, by decide +kernel⟩, List.mem_of_getElem? (i := 288) (by decide +kernel), List.mem_of_getElem? (i := 331) (by decide +kernel), List.mem_of_getElem? (i := 332) (by decide +kernel)⟩
theorem lw_p3 : lw_okq (⟨"WholeMillModel", "put", "(I[II)Z"⟩, 8) := ⟨⟨by decide +kernel, by decide +kernel⟩, List.mem_of_getElem? (i := 288) (by decide +kernel), List.mem_of_getElem? (i := 336) (by decide +kernel), List.mem_of_getElem? (i := 337) (by decide +kernel)⟩
theorem lw_p4 : lw_okq (⟨"WholeMillModel", "loadY", "(I)V"⟩, 8) := ⟨⟨by decide +kernel, by decide +kernel⟩, List.mem_of_getElem? (i := 288) (by decide +kernel), List.mem_of_getElem? (i := 355) (by decide +kernel), List.mem_of_getElem? (i := 356) (by decide +kernel)⟩
theorem lw_p5 : lw_okq (⟨"WholeMillModel", "halve", "()V"⟩, 8) := ⟨⟨by decide +kernel, by decide +kernel⟩, List.mem_of_getElem? (i := 288) (by decide +kernel), List.mem_of_getElem? (i := 388) (by decide +kernel), List.mem_of_getElem? (i := 389) (by decide +kernel)⟩
theorem lw_p6 : lw_okq (⟨"WholeMillModel", "moved", "(IIJJJ)Z"⟩, 8) := ⟨⟨by decide +kernel, by decide +kernel⟩, List.mem_of_getElem? (i := 288) (by decide +kernel), List.mem_of_getElem? (i := 398) (by decide +kernel), List.mem_of_getElem? (i := 399) (by decide +kernel)⟩
theorem lw_p7 : lw_okq (⟨"WholeMillModel", "bitsOf", "(I)I"⟩, 8) := ⟨⟨by decide +kernel, by decide +kernel⟩, List.mem_of_getElem? (i := 288) (by decide +kernel), List.mem_of_getElem? (i := 403) (by decide +kernel), List.mem_of_getElem? (i := 404) (by decide +kernel)⟩
def lw_privs_1 : List (MethodName × Nat) := [(⟨"WholeMill", "keepResult", "(I)Z"⟩, 4), (⟨"WholeMillModel", "loadX", "(I)V"⟩, 8), (⟨"WholeMillModel", "clearZ", "()V"⟩, 8), (⟨"WholeMillModel", "put", "(I[II)Z"⟩, 8), (⟨"WholeMillModel", "loadY", "(I)V"⟩, 8), (⟨"WholeMillModel", "halve", "()V"⟩, 8), (⟨"WholeMillModel", "moved", "(IIJJJ)Z"⟩, 8), (⟨"WholeMillModel", "bitsOf", "(I)I"⟩, 8)]
theorem lw_r1 : ∀ q ∈ lw_privs_1, lw_okq q := List.forall_mem_cons.mpr ⟨lw_p0, List.forall_mem_cons.mpr ⟨lw_p1, List.forall_mem_cons.mpr ⟨lw_p2, List.forall_mem_cons.mpr ⟨lw_p3, List.forall_mem_cons.mpr ⟨lw_p4, List.forall_mem_cons.mpr ⟨lw_p5, List.forall_mem_cons.mpr ⟨lw_p6, List.forall_mem_cons.mpr ⟨lw_p7, fun _ h => absurd h List.not_mem_nil⟩⟩⟩⟩⟩⟩⟩⟩
def lw_privs : List (MethodName × Nat) := lw_privs_1
def lw_tbl : List Cond := k2_sels lw_privs ++ tables_1
theorem lw_privs_ok : ∀ q ∈ lw_privs, lw_okq q := lw_r1
end
section
-- names: classes, methods, their code
/-- the words of the tables that a callee may have too -/
def lw_T : List Cond := lw_tbl.filter goodWord
theorem lw_T_of {w : Cond} (h : w ∈ lw_tbl) (hg : goodWord w = true) : w ∈ lw_T := List.mem_filter.mpr ⟨h, hg⟩
def R_Mill : String := "WholeMill"
def R_Whole : String := "WholeMill$Whole"
def R_Rows : String := "WholeMill$Rows"
def R_Div : String := "WholeMill$Division"
def R_Root : String := "WholeMill$SquareRoot"
def R_Mod : String := "WholeMillModel"
def R_Int : String := "java/lang/Integer"
def R_Math : String := "java/lang/Math"
def R_Sys : String := "java/lang/System"
def F_Mill : u_T := fun k => match k with
  | 0 => ("WholeMill", "registers", "[LWholeMill$Whole;", true)
  | 1 => ("WholeMill", "result", "LWholeMill$Whole;", true)
  | 2 => ("WholeMill", "left", "LWholeMill$Whole;", true)
  | _ => ("WholeMill", "helper", "LWholeMill$Whole;", true)
def t_Mill : Nat → FieldType := fun k => match k with
  | 0 => .array (.object "WholeMill$Whole")
  | _ => .object "WholeMill$Whole"
def F_Whole : u_T := fun k => match k with
  | 0 => ("WholeMill$Whole", "words", "[I", true)
  | _ => ("WholeMill$Whole", "length", "I", false)
def t_Whole : Nat → FieldType := fun k => match k with
  | 0 => .array .int
  | _ => .int
def F_Mod : u_T := fun k => match k with
  | 0 => ("WholeMillModel", "digits", "[I", true)
  | 1 => ("WholeMillModel", "sizes", "[I", true)
  | 2 => ("WholeMillModel", "x", "[I", true)
  | 3 => ("WholeMillModel", "y", "[I", true)
  | 4 => ("WholeMillModel", "z", "[I", true)
  | 5 => ("WholeMillModel", "xs", "I", false)
  | 6 => ("WholeMillModel", "ys", "I", false)
  | _ => ("WholeMillModel", "zs", "I", false)
def t_Mod : Nat → FieldType := fun k => match k with
  | 5 => .int
  | 6 => .int
  | 7 => .int
  | k => if k < 5 then .array .int else .int
theorem n_Mill : ∀ a, a < 4 → ∀ b, b < 4 → a ≠ b → (F_Mill a).2.1 ≠ (F_Mill b).2.1 := by decide +kernel
theorem t_Mill_ok : ∀ k, k < 4 → parseFieldDescriptor (F_Mill k).2.2.1 = some (t_Mill k) := by decide +kernel
theorem n_Whole : ∀ a, a < 2 → ∀ b, b < 2 → a ≠ b → (F_Whole a).2.1 ≠ (F_Whole b).2.1 := by decide +kernel
theorem t_Whole_ok : ∀ k, k < 2 → parseFieldDescriptor (F_Whole k).2.2.1 = some (t_Whole k) := by decide +kernel
theorem n_Mod : ∀ a, a < 8 → ∀ b, b < 8 → a ≠ b → (F_Mod a).2.1 ≠ (F_Mod b).2.1 := by decide +kernel
theorem t_Mod_ok : ∀ k, k < 8 → parseFieldDescriptor (F_Mod k).2.2.1 = some (t_Mod k) := by decide +kernel
theorem i_Mill : ∀ w ∈ u_ws R_Mill F_Mill 4, w ∈ lw_T := by decide +kernel
theorem i_Whole : ∀ w ∈ u_ws R_Whole F_Whole 2, w ∈ lw_T := by decide +kernel
theorem i_Mod : ∀ w ∈ u_ws R_Mod F_Mod 8, w ∈ lw_T := by decide +kernel
abbrev classes : List vw_C := [(R_Mill, F_Mill, 4), (R_Whole, F_Whole, 2), (R_Mod, F_Mod, 8)]
abbrev b_Mill_init : ByteArray := prog_1_method_1_code
def y_Mill_init : MethodName := ⟨R_Mill, "<init>", "()V"⟩
theorem kd_Mill_init : y_Mill_init.cls ≠ "java/lang/invoke/MethodHandle" ∧ y_Mill_init.cls ≠ "java/lang/invoke/VarHandle" ∧ (parseMethodDescriptor y_Mill_init.desc).map (fun d => d.parameters.length) = some 0 := by decide +kernel
abbrev b_Whole_init : ByteArray := prog_5_method_1_code
def y_Whole_init : MethodName := ⟨R_Whole, "<init>", "()V"⟩
theorem kd_Whole_init : y_Whole_init.cls ≠ "java/lang/invoke/MethodHandle" ∧ y_Whole_init.cls ≠ "java/lang/invoke/VarHandle" ∧ (parseMethodDescriptor y_Whole_init.desc).map (fun d => d.parameters.length) = some 0 := by decide +kernel
abbrev b_Mill_push : ByteArray := prog_1_method_2_code
def y_Mill_push : MethodName := ⟨R_Mill, "push", "(IJ)Z"⟩
theorem kd_Mill_push : y_Mill_push.cls ≠ "java/lang/invoke/MethodHandle" ∧ y_Mill_push.cls ≠ "java/lang/invoke/VarHandle" ∧ (parseMethodDescriptor y_Mill_push.desc).map (fun d => d.parameters.length) = some 2 := by decide +kernel
abbrev b_Mill_isRegister : ByteArray := prog_1_method_18_code
def y_Mill_isRegister : MethodName := ⟨R_Mill, "isRegister", "(I)Z"⟩
theorem kd_Mill_isRegister : y_Mill_isRegister.cls ≠ "java/lang/invoke/MethodHandle" ∧ y_Mill_isRegister.cls ≠ "java/lang/invoke/VarHandle" ∧ (parseMethodDescriptor y_Mill_isRegister.desc).map (fun d => d.parameters.length) = some 1 := by decide +kernel
abbrev b_Whole_size : ByteArray := prog_5_method_14_code
def y_Whole_size : MethodName := ⟨R_Whole, "size", "()I"⟩
theorem kd_Whole_size : y_Whole_size.cls ≠ "java/lang/invoke/MethodHandle" ∧ y_Whole_size.cls ≠ "java/lang/invoke/VarHandle" ∧ (parseMethodDescriptor y_Whole_size.desc).map (fun d => d.parameters.length) = some 0 := by decide +kernel
abbrev b_Int_numberOfLeadingZeros : ByteArray := prog_8_method_47_code
def y_Int_numberOfLeadingZeros : MethodName := ⟨R_Int, "numberOfLeadingZeros", "(I)I"⟩
theorem kd_Int_numberOfLeadingZeros : y_Int_numberOfLeadingZeros.cls ≠ "java/lang/invoke/MethodHandle" ∧ y_Int_numberOfLeadingZeros.cls ≠ "java/lang/invoke/VarHandle" ∧ (parseMethodDescriptor y_Int_numberOfLeadingZeros.desc).map (fun d => d.parameters.length) = some 1 := by decide +kernel
abbrev b_Whole_becomeShiftedLeft : ByteArray := prog_5_method_10_code
def y_Whole_becomeShiftedLeft : MethodName := ⟨R_Whole, "becomeShiftedLeft", "(LWholeMill$Whole;I)V"⟩
theorem kd_Whole_becomeShiftedLeft : y_Whole_becomeShiftedLeft.cls ≠ "java/lang/invoke/MethodHandle" ∧ y_Whole_becomeShiftedLeft.cls ≠ "java/lang/invoke/VarHandle" ∧ (parseMethodDescriptor y_Whole_becomeShiftedLeft.desc).map (fun d => d.parameters.length) = some 2 := by decide +kernel
abbrev b_Whole_clear : ByteArray := prog_5_method_3_code
def y_Whole_clear : MethodName := ⟨R_Whole, "clear", "()V"⟩
theorem kd_Whole_clear : y_Whole_clear.cls ≠ "java/lang/invoke/MethodHandle" ∧ y_Whole_clear.cls ≠ "java/lang/invoke/VarHandle" ∧ (parseMethodDescriptor y_Whole_clear.desc).map (fun d => d.parameters.length) = some 0 := by decide +kernel
abbrev b_Whole_settle : ByteArray := prog_5_method_2_code
def y_Whole_settle : MethodName := ⟨R_Whole, "settle", "(I)V"⟩
theorem kd_Whole_settle : y_Whole_settle.cls ≠ "java/lang/invoke/MethodHandle" ∧ y_Whole_settle.cls ≠ "java/lang/invoke/VarHandle" ∧ (parseMethodDescriptor y_Whole_settle.desc).map (fun d => d.parameters.length) = some 1 := by decide +kernel
abbrev b_Whole_fillLowestPair : ByteArray := prog_5_method_6_code
def y_Whole_fillLowestPair : MethodName := ⟨R_Whole, "fillLowestPair", "(J)V"⟩
theorem kd_Whole_fillLowestPair : y_Whole_fillLowestPair.cls ≠ "java/lang/invoke/MethodHandle" ∧ y_Whole_fillLowestPair.cls ≠ "java/lang/invoke/VarHandle" ∧ (parseMethodDescriptor y_Whole_fillLowestPair.desc).map (fun d => d.parameters.length) = some 1 := by decide +kernel
abbrev b_Math_max : ByteArray := prog_9_method_65_code
def y_Math_max : MethodName := ⟨R_Math, "max", "(II)I"⟩
theorem kd_Math_max : y_Math_max.cls ≠ "java/lang/invoke/MethodHandle" ∧ y_Math_max.cls ≠ "java/lang/invoke/VarHandle" ∧ (parseMethodDescriptor y_Math_max.desc).map (fun d => d.parameters.length) = some 2 := by decide +kernel
abbrev b_Mill_keepResult : ByteArray := prog_1_method_19_code
def y_Mill_keepResult : MethodName := ⟨R_Mill, "keepResult", "(I)Z"⟩
theorem kd_Mill_keepResult : y_Mill_keepResult.cls ≠ "java/lang/invoke/MethodHandle" ∧ y_Mill_keepResult.cls ≠ "java/lang/invoke/VarHandle" ∧ (parseMethodDescriptor y_Mill_keepResult.desc).map (fun d => d.parameters.length) = some 1 := by decide +kernel
abbrev b_Whole_become : ByteArray := prog_5_method_4_code
def y_Whole_become : MethodName := ⟨R_Whole, "become", "(LWholeMill$Whole;)V"⟩
theorem kd_Whole_become : y_Whole_become.cls ≠ "java/lang/invoke/MethodHandle" ∧ y_Whole_become.cls ≠ "java/lang/invoke/VarHandle" ∧ (parseMethodDescriptor y_Whole_become.desc).map (fun d => d.parameters.length) = some 1 := by decide +kernel
abbrev b_Mill_spread : ByteArray := prog_1_method_3_code
def y_Mill_spread : MethodName := ⟨R_Mill, "spread", "(IJI)Z"⟩
theorem kd_Mill_spread : y_Mill_spread.cls ≠ "java/lang/invoke/MethodHandle" ∧ y_Mill_spread.cls ≠ "java/lang/invoke/VarHandle" ∧ (parseMethodDescriptor y_Mill_spread.desc).map (fun d => d.parameters.length) = some 3 := by decide +kernel
abbrev b_Whole_becomePairs : ByteArray := prog_5_method_5_code
def y_Whole_becomePairs : MethodName := ⟨R_Whole, "becomePairs", "(JI)V"⟩
theorem kd_Whole_becomePairs : y_Whole_becomePairs.cls ≠ "java/lang/invoke/MethodHandle" ∧ y_Whole_becomePairs.cls ≠ "java/lang/invoke/VarHandle" ∧ (parseMethodDescriptor y_Whole_becomePairs.desc).map (fun d => d.parameters.length) = some 2 := by decide +kernel
abbrev b_Mill_copy : ByteArray := prog_1_method_4_code
def y_Mill_copy : MethodName := ⟨R_Mill, "copy", "(II)Z"⟩
theorem kd_Mill_copy : y_Mill_copy.cls ≠ "java/lang/invoke/MethodHandle" ∧ y_Mill_copy.cls ≠ "java/lang/invoke/VarHandle" ∧ (parseMethodDescriptor y_Mill_copy.desc).map (fun d => d.parameters.length) = some 2 := by decide +kernel
abbrev b_Mill_add : ByteArray := prog_1_method_5_code
def y_Mill_add : MethodName := ⟨R_Mill, "add", "(III)Z"⟩
theorem kd_Mill_add : y_Mill_add.cls ≠ "java/lang/invoke/MethodHandle" ∧ y_Mill_add.cls ≠ "java/lang/invoke/VarHandle" ∧ (parseMethodDescriptor y_Mill_add.desc).map (fun d => d.parameters.length) = some 3 := by decide +kernel
abbrev b_Whole_becomeSum : ByteArray := prog_5_method_7_code
def y_Whole_becomeSum : MethodName := ⟨R_Whole, "becomeSum", "(LWholeMill$Whole;LWholeMill$Whole;)V"⟩
theorem kd_Whole_becomeSum : y_Whole_becomeSum.cls ≠ "java/lang/invoke/MethodHandle" ∧ y_Whole_becomeSum.cls ≠ "java/lang/invoke/VarHandle" ∧ (parseMethodDescriptor y_Whole_becomeSum.desc).map (fun d => d.parameters.length) = some 2 := by decide +kernel
abbrev b_Mill_take : ByteArray := prog_1_method_6_code
def y_Mill_take : MethodName := ⟨R_Mill, "take", "(III)Z"⟩
theorem kd_Mill_take : y_Mill_take.cls ≠ "java/lang/invoke/MethodHandle" ∧ y_Mill_take.cls ≠ "java/lang/invoke/VarHandle" ∧ (parseMethodDescriptor y_Mill_take.desc).map (fun d => d.parameters.length) = some 3 := by decide +kernel
abbrev b_Whole_order : ByteArray := prog_5_method_13_code
def y_Whole_order : MethodName := ⟨R_Whole, "order", "(LWholeMill$Whole;)I"⟩
theorem kd_Whole_order : y_Whole_order.cls ≠ "java/lang/invoke/MethodHandle" ∧ y_Whole_order.cls ≠ "java/lang/invoke/VarHandle" ∧ (parseMethodDescriptor y_Whole_order.desc).map (fun d => d.parameters.length) = some 1 := by decide +kernel
abbrev b_Whole_becomeDifference : ByteArray := prog_5_method_8_code
def y_Whole_becomeDifference : MethodName := ⟨R_Whole, "becomeDifference", "(LWholeMill$Whole;LWholeMill$Whole;)V"⟩
theorem kd_Whole_becomeDifference : y_Whole_becomeDifference.cls ≠ "java/lang/invoke/MethodHandle" ∧ y_Whole_becomeDifference.cls ≠ "java/lang/invoke/VarHandle" ∧ (parseMethodDescriptor y_Whole_becomeDifference.desc).map (fun d => d.parameters.length) = some 2 := by decide +kernel
abbrev b_Mill_times : ByteArray := prog_1_method_7_code
def y_Mill_times : MethodName := ⟨R_Mill, "times", "(III)Z"⟩
theorem kd_Mill_times : y_Mill_times.cls ≠ "java/lang/invoke/MethodHandle" ∧ y_Mill_times.cls ≠ "java/lang/invoke/VarHandle" ∧ (parseMethodDescriptor y_Mill_times.desc).map (fun d => d.parameters.length) = some 3 := by decide +kernel
abbrev b_Whole_becomeProduct : ByteArray := prog_5_method_9_code
def y_Whole_becomeProduct : MethodName := ⟨R_Whole, "becomeProduct", "(LWholeMill$Whole;LWholeMill$Whole;)V"⟩
theorem kd_Whole_becomeProduct : y_Whole_becomeProduct.cls ≠ "java/lang/invoke/MethodHandle" ∧ y_Whole_becomeProduct.cls ≠ "java/lang/invoke/VarHandle" ∧ (parseMethodDescriptor y_Whole_becomeProduct.desc).map (fun d => d.parameters.length) = some 2 := by decide +kernel
abbrev b_Rows_addMultiple : ByteArray := prog_3_method_2_code
def y_Rows_addMultiple : MethodName := ⟨R_Rows, "addMultiple", "([II[IIJ)J"⟩
theorem kd_Rows_addMultiple : y_Rows_addMultiple.cls ≠ "java/lang/invoke/MethodHandle" ∧ y_Rows_addMultiple.cls ≠ "java/lang/invoke/VarHandle" ∧ (parseMethodDescriptor y_Rows_addMultiple.desc).map (fun d => d.parameters.length) = some 5 := by decide +kernel
abbrev b_Mill_divide : ByteArray := prog_1_method_8_code
def y_Mill_divide : MethodName := ⟨R_Mill, "divide", "(IIII)Z"⟩
theorem kd_Mill_divide : y_Mill_divide.cls ≠ "java/lang/invoke/MethodHandle" ∧ y_Mill_divide.cls ≠ "java/lang/invoke/VarHandle" ∧ (parseMethodDescriptor y_Mill_divide.desc).map (fun d => d.parameters.length) = some 4 := by decide +kernel
abbrev b_Div_find : ByteArray := prog_2_method_2_code
def y_Div_find : MethodName := ⟨R_Div, "find", "(LWholeMill$Whole;LWholeMill$Whole;LWholeMill$Whole;LWholeMill$Whole;LWholeMill$Whole;)V"⟩
theorem kd_Div_find : y_Div_find.cls ≠ "java/lang/invoke/MethodHandle" ∧ y_Div_find.cls ≠ "java/lang/invoke/VarHandle" ∧ (parseMethodDescriptor y_Div_find.desc).map (fun d => d.parameters.length) = some 5 := by decide +kernel
abbrev b_Div_nextWord : ByteArray := prog_2_method_3_code
def y_Div_nextWord : MethodName := ⟨R_Div, "nextWord", "([I[III)I"⟩
theorem kd_Div_nextWord : y_Div_nextWord.cls ≠ "java/lang/invoke/MethodHandle" ∧ y_Div_nextWord.cls ≠ "java/lang/invoke/VarHandle" ∧ (parseMethodDescriptor y_Div_nextWord.desc).map (fun d => d.parameters.length) = some 4 := by decide +kernel
abbrev b_Rows_guess : ByteArray := prog_3_method_5_code
def y_Rows_guess : MethodName := ⟨R_Rows, "guess", "(IIIII)J"⟩
theorem kd_Rows_guess : y_Rows_guess.cls ≠ "java/lang/invoke/MethodHandle" ∧ y_Rows_guess.cls ≠ "java/lang/invoke/VarHandle" ∧ (parseMethodDescriptor y_Rows_guess.desc).map (fun d => d.parameters.length) = some 5 := by decide +kernel
abbrev b_Math_minL : ByteArray := prog_9_method_70_code
def y_Math_minL : MethodName := ⟨R_Math, "min", "(JJ)J"⟩
theorem kd_Math_minL : y_Math_minL.cls ≠ "java/lang/invoke/MethodHandle" ∧ y_Math_minL.cls ≠ "java/lang/invoke/VarHandle" ∧ (parseMethodDescriptor y_Math_minL.desc).map (fun d => d.parameters.length) = some 2 := by decide +kernel
abbrev b_Rows_isAbove : ByteArray := prog_3_method_6_code
def y_Rows_isAbove : MethodName := ⟨R_Rows, "isAbove", "(JJ)Z"⟩
theorem kd_Rows_isAbove : y_Rows_isAbove.cls ≠ "java/lang/invoke/MethodHandle" ∧ y_Rows_isAbove.cls ≠ "java/lang/invoke/VarHandle" ∧ (parseMethodDescriptor y_Rows_isAbove.desc).map (fun d => d.parameters.length) = some 2 := by decide +kernel
abbrev b_Rows_takeMultiple : ByteArray := prog_3_method_3_code
def y_Rows_takeMultiple : MethodName := ⟨R_Rows, "takeMultiple", "([II[IIIJ)J"⟩
theorem kd_Rows_takeMultiple : y_Rows_takeMultiple.cls ≠ "java/lang/invoke/MethodHandle" ∧ y_Rows_takeMultiple.cls ≠ "java/lang/invoke/VarHandle" ∧ (parseMethodDescriptor y_Rows_takeMultiple.desc).map (fun d => d.parameters.length) = some 6 := by decide +kernel
abbrev b_Rows_addStretch : ByteArray := prog_3_method_4_code
def y_Rows_addStretch : MethodName := ⟨R_Rows, "addStretch", "([II[IIIJ)J"⟩
theorem kd_Rows_addStretch : y_Rows_addStretch.cls ≠ "java/lang/invoke/MethodHandle" ∧ y_Rows_addStretch.cls ≠ "java/lang/invoke/VarHandle" ∧ (parseMethodDescriptor y_Rows_addStretch.desc).map (fun d => d.parameters.length) = some 6 := by decide +kernel
abbrev b_Whole_becomeShiftedRight : ByteArray := prog_5_method_11_code
def y_Whole_becomeShiftedRight : MethodName := ⟨R_Whole, "becomeShiftedRight", "(LWholeMill$Whole;I)V"⟩
theorem kd_Whole_becomeShiftedRight : y_Whole_becomeShiftedRight.cls ≠ "java/lang/invoke/MethodHandle" ∧ y_Whole_becomeShiftedRight.cls ≠ "java/lang/invoke/VarHandle" ∧ (parseMethodDescriptor y_Whole_becomeShiftedRight.desc).map (fun d => d.parameters.length) = some 2 := by decide +kernel
abbrev b_Mill_root : ByteArray := prog_1_method_9_code
def y_Mill_root : MethodName := ⟨R_Mill, "root", "(III)Z"⟩
theorem kd_Mill_root : y_Mill_root.cls ≠ "java/lang/invoke/MethodHandle" ∧ y_Mill_root.cls ≠ "java/lang/invoke/VarHandle" ∧ (parseMethodDescriptor y_Mill_root.desc).map (fun d => d.parameters.length) = some 3 := by decide +kernel
abbrev b_Root_find : ByteArray := prog_4_method_2_code
def y_Root_find : MethodName := ⟨R_Root, "find", "(LWholeMill$Whole;LWholeMill$Whole;LWholeMill$Whole;LWholeMill$Whole;)V"⟩
theorem kd_Root_find : y_Root_find.cls ≠ "java/lang/invoke/MethodHandle" ∧ y_Root_find.cls ≠ "java/lang/invoke/VarHandle" ∧ (parseMethodDescriptor y_Root_find.desc).map (fun d => d.parameters.length) = some 4 := by decide +kernel
abbrev b_Root_firstWord : ByteArray := prog_4_method_3_code
def y_Root_firstWord : MethodName := ⟨R_Root, "firstWord", "([I[II)V"⟩
theorem kd_Root_firstWord : y_Root_firstWord.cls ≠ "java/lang/invoke/MethodHandle" ∧ y_Root_firstWord.cls ≠ "java/lang/invoke/VarHandle" ∧ (parseMethodDescriptor y_Root_firstWord.desc).map (fun d => d.parameters.length) = some 3 := by decide +kernel
abbrev b_Root_rootOfPair : ByteArray := prog_4_method_4_code
def y_Root_rootOfPair : MethodName := ⟨R_Root, "rootOfPair", "(J)J"⟩
theorem kd_Root_rootOfPair : y_Root_rootOfPair.cls ≠ "java/lang/invoke/MethodHandle" ∧ y_Root_rootOfPair.cls ≠ "java/lang/invoke/VarHandle" ∧ (parseMethodDescriptor y_Root_rootOfPair.desc).map (fun d => d.parameters.length) = some 1 := by decide +kernel
abbrev b_Root_putWord : ByteArray := prog_4_method_7_code
def y_Root_putWord : MethodName := ⟨R_Root, "putWord", "([IIJ)V"⟩
theorem kd_Root_putWord : y_Root_putWord.cls ≠ "java/lang/invoke/MethodHandle" ∧ y_Root_putWord.cls ≠ "java/lang/invoke/VarHandle" ∧ (parseMethodDescriptor y_Root_putWord.desc).map (fun d => d.parameters.length) = some 3 := by decide +kernel
abbrev b_Root_nextWord : ByteArray := prog_4_method_5_code
def y_Root_nextWord : MethodName := ⟨R_Root, "nextWord", "([I[III)V"⟩
theorem kd_Root_nextWord : y_Root_nextWord.cls ≠ "java/lang/invoke/MethodHandle" ∧ y_Root_nextWord.cls ≠ "java/lang/invoke/VarHandle" ∧ (parseMethodDescriptor y_Root_nextWord.desc).map (fun d => d.parameters.length) = some 4 := by decide +kernel
abbrev b_Root_guessWord : ByteArray := prog_4_method_6_code
def y_Root_guessWord : MethodName := ⟨R_Root, "guessWord", "([I[III)J"⟩
theorem kd_Root_guessWord : y_Root_guessWord.cls ≠ "java/lang/invoke/MethodHandle" ∧ y_Root_guessWord.cls ≠ "java/lang/invoke/VarHandle" ∧ (parseMethodDescriptor y_Root_guessWord.desc).map (fun d => d.parameters.length) = some 4 := by decide +kernel
abbrev b_Rows_halved : ByteArray := prog_3_method_7_code
def y_Rows_halved : MethodName := ⟨R_Rows, "halved", "(II)I"⟩
theorem kd_Rows_halved : y_Rows_halved.cls ≠ "java/lang/invoke/MethodHandle" ∧ y_Rows_halved.cls ≠ "java/lang/invoke/VarHandle" ∧ (parseMethodDescriptor y_Rows_halved.desc).map (fun d => d.parameters.length) = some 2 := by decide +kernel
abbrev b_Root_shiftBack : ByteArray := prog_4_method_8_code
def y_Root_shiftBack : MethodName := ⟨R_Root, "shiftBack", "(LWholeMill$Whole;LWholeMill$Whole;LWholeMill$Whole;II)V"⟩
theorem kd_Root_shiftBack : y_Root_shiftBack.cls ≠ "java/lang/invoke/MethodHandle" ∧ y_Root_shiftBack.cls ≠ "java/lang/invoke/VarHandle" ∧ (parseMethodDescriptor y_Root_shiftBack.desc).map (fun d => d.parameters.length) = some 5 := by decide +kernel
abbrev b_Mill_shift : ByteArray := prog_1_method_10_code
def y_Mill_shift : MethodName := ⟨R_Mill, "shift", "(III)Z"⟩
theorem kd_Mill_shift : y_Mill_shift.cls ≠ "java/lang/invoke/MethodHandle" ∧ y_Mill_shift.cls ≠ "java/lang/invoke/VarHandle" ∧ (parseMethodDescriptor y_Mill_shift.desc).map (fun d => d.parameters.length) = some 3 := by decide +kernel
abbrev b_Math_abs : ByteArray := prog_9_method_59_code
def y_Math_abs : MethodName := ⟨R_Math, "abs", "(I)I"⟩
theorem kd_Math_abs : y_Math_abs.cls ≠ "java/lang/invoke/MethodHandle" ∧ y_Math_abs.cls ≠ "java/lang/invoke/VarHandle" ∧ (parseMethodDescriptor y_Math_abs.desc).map (fun d => d.parameters.length) = some 1 := by decide +kernel
abbrev b_Mill_part : ByteArray := prog_1_method_11_code
def y_Mill_part : MethodName := ⟨R_Mill, "part", "(IIII)Z"⟩
theorem kd_Mill_part : y_Mill_part.cls ≠ "java/lang/invoke/MethodHandle" ∧ y_Mill_part.cls ≠ "java/lang/invoke/VarHandle" ∧ (parseMethodDescriptor y_Mill_part.desc).map (fun d => d.parameters.length) = some 4 := by decide +kernel
abbrev b_Math_min : ByteArray := prog_9_method_69_code
def y_Math_min : MethodName := ⟨R_Math, "min", "(II)I"⟩
theorem kd_Math_min : y_Math_min.cls ≠ "java/lang/invoke/MethodHandle" ∧ y_Math_min.cls ≠ "java/lang/invoke/VarHandle" ∧ (parseMethodDescriptor y_Math_min.desc).map (fun d => d.parameters.length) = some 2 := by decide +kernel
abbrev b_Whole_keepLowest : ByteArray := prog_5_method_12_code
def y_Whole_keepLowest : MethodName := ⟨R_Whole, "keepLowest", "(I)V"⟩
theorem kd_Whole_keepLowest : y_Whole_keepLowest.cls ≠ "java/lang/invoke/MethodHandle" ∧ y_Whole_keepLowest.cls ≠ "java/lang/invoke/VarHandle" ∧ (parseMethodDescriptor y_Whole_keepLowest.desc).map (fun d => d.parameters.length) = some 1 := by decide +kernel
abbrev b_Mill_compare : ByteArray := prog_1_method_12_code
def y_Mill_compare : MethodName := ⟨R_Mill, "compare", "(II)I"⟩
theorem kd_Mill_compare : y_Mill_compare.cls ≠ "java/lang/invoke/MethodHandle" ∧ y_Mill_compare.cls ≠ "java/lang/invoke/VarHandle" ∧ (parseMethodDescriptor y_Mill_compare.desc).map (fun d => d.parameters.length) = some 2 := by decide +kernel
abbrev b_Mill_bits : ByteArray := prog_1_method_13_code
def y_Mill_bits : MethodName := ⟨R_Mill, "bits", "(I)I"⟩
theorem kd_Mill_bits : y_Mill_bits.cls ≠ "java/lang/invoke/MethodHandle" ∧ y_Mill_bits.cls ≠ "java/lang/invoke/VarHandle" ∧ (parseMethodDescriptor y_Mill_bits.desc).map (fun d => d.parameters.length) = some 1 := by decide +kernel
abbrev b_Mill_word : ByteArray := prog_1_method_14_code
def y_Mill_word : MethodName := ⟨R_Mill, "word", "(II)I"⟩
theorem kd_Mill_word : y_Mill_word.cls ≠ "java/lang/invoke/MethodHandle" ∧ y_Mill_word.cls ≠ "java/lang/invoke/VarHandle" ∧ (parseMethodDescriptor y_Mill_word.desc).map (fun d => d.parameters.length) = some 2 := by decide +kernel
abbrev b_Mill_ones : ByteArray := prog_1_method_15_code
def y_Mill_ones : MethodName := ⟨R_Mill, "ones", "(I)I"⟩
theorem kd_Mill_ones : y_Mill_ones.cls ≠ "java/lang/invoke/MethodHandle" ∧ y_Mill_ones.cls ≠ "java/lang/invoke/VarHandle" ∧ (parseMethodDescriptor y_Mill_ones.desc).map (fun d => d.parameters.length) = some 1 := by decide +kernel
abbrev b_Whole_countOnes : ByteArray := prog_5_method_15_code
def y_Whole_countOnes : MethodName := ⟨R_Whole, "countOnes", "()I"⟩
theorem kd_Whole_countOnes : y_Whole_countOnes.cls ≠ "java/lang/invoke/MethodHandle" ∧ y_Whole_countOnes.cls ≠ "java/lang/invoke/VarHandle" ∧ (parseMethodDescriptor y_Whole_countOnes.desc).map (fun d => d.parameters.length) = some 0 := by decide +kernel
abbrev b_Int_bitCount : ByteArray := prog_8_method_49_code
def y_Int_bitCount : MethodName := ⟨R_Int, "bitCount", "(I)I"⟩
theorem kd_Int_bitCount : y_Int_bitCount.cls ≠ "java/lang/invoke/MethodHandle" ∧ y_Int_bitCount.cls ≠ "java/lang/invoke/VarHandle" ∧ (parseMethodDescriptor y_Int_bitCount.desc).map (fun d => d.parameters.length) = some 1 := by decide +kernel
abbrev b_Mill_lowest : ByteArray := prog_1_method_16_code
def y_Mill_lowest : MethodName := ⟨R_Mill, "lowest", "(I)I"⟩
theorem kd_Mill_lowest : y_Mill_lowest.cls ≠ "java/lang/invoke/MethodHandle" ∧ y_Mill_lowest.cls ≠ "java/lang/invoke/VarHandle" ∧ (parseMethodDescriptor y_Mill_lowest.desc).map (fun d => d.parameters.length) = some 1 := by decide +kernel
abbrev b_Whole_lowestOne : ByteArray := prog_5_method_16_code
def y_Whole_lowestOne : MethodName := ⟨R_Whole, "lowestOne", "()I"⟩
theorem kd_Whole_lowestOne : y_Whole_lowestOne.cls ≠ "java/lang/invoke/MethodHandle" ∧ y_Whole_lowestOne.cls ≠ "java/lang/invoke/VarHandle" ∧ (parseMethodDescriptor y_Whole_lowestOne.desc).map (fun d => d.parameters.length) = some 0 := by decide +kernel
abbrev b_Int_numberOfTrailingZeros : ByteArray := prog_8_method_48_code
def y_Int_numberOfTrailingZeros : MethodName := ⟨R_Int, "numberOfTrailingZeros", "(I)I"⟩
theorem kd_Int_numberOfTrailingZeros : y_Int_numberOfTrailingZeros.cls ≠ "java/lang/invoke/MethodHandle" ∧ y_Int_numberOfTrailingZeros.cls ≠ "java/lang/invoke/VarHandle" ∧ (parseMethodDescriptor y_Int_numberOfTrailingZeros.desc).map (fun d => d.parameters.length) = some 1 := by decide +kernel
abbrev b_Mill_rest : ByteArray := prog_1_method_17_code
def y_Mill_rest : MethodName := ⟨R_Mill, "rest", "(II)I"⟩
theorem kd_Mill_rest : y_Mill_rest.cls ≠ "java/lang/invoke/MethodHandle" ∧ y_Mill_rest.cls ≠ "java/lang/invoke/VarHandle" ∧ (parseMethodDescriptor y_Mill_rest.desc).map (fun d => d.parameters.length) = some 2 := by decide +kernel
abbrev b_Whole_remainder : ByteArray := prog_5_method_17_code
def y_Whole_remainder : MethodName := ⟨R_Whole, "remainder", "(I)I"⟩
theorem kd_Whole_remainder : y_Whole_remainder.cls ≠ "java/lang/invoke/MethodHandle" ∧ y_Whole_remainder.cls ≠ "java/lang/invoke/VarHandle" ∧ (parseMethodDescriptor y_Whole_remainder.desc).map (fun d => d.parameters.length) = some 1 := by decide +kernel
abbrev b_Mod_init : ByteArray := prog_7_method_1_code
def y_Mod_init : MethodName := ⟨R_Mod, "<init>", "()V"⟩
theorem kd_Mod_init : y_Mod_init.cls ≠ "java/lang/invoke/MethodHandle" ∧ y_Mod_init.cls ≠ "java/lang/invoke/VarHandle" ∧ (parseMethodDescriptor y_Mod_init.desc).map (fun d => d.parameters.length) = some 0 := by decide +kernel
abbrev b_Mod_push : ByteArray := prog_7_method_12_code
def y_Mod_push : MethodName := ⟨R_Mod, "push", "(IJ)Z"⟩
theorem kd_Mod_push : y_Mod_push.cls ≠ "java/lang/invoke/MethodHandle" ∧ y_Mod_push.cls ≠ "java/lang/invoke/VarHandle" ∧ (parseMethodDescriptor y_Mod_push.desc).map (fun d => d.parameters.length) = some 2 := by decide +kernel
abbrev b_Mod_isRegister : ByteArray := prog_7_method_2_code
def y_Mod_isRegister : MethodName := ⟨R_Mod, "isRegister", "(I)Z"⟩
theorem kd_Mod_isRegister : y_Mod_isRegister.cls ≠ "java/lang/invoke/MethodHandle" ∧ y_Mod_isRegister.cls ≠ "java/lang/invoke/VarHandle" ∧ (parseMethodDescriptor y_Mod_isRegister.desc).map (fun d => d.parameters.length) = some 1 := by decide +kernel
abbrev b_Mod_loadX : ByteArray := prog_7_method_4_code
def y_Mod_loadX : MethodName := ⟨R_Mod, "loadX", "(I)V"⟩
theorem kd_Mod_loadX : y_Mod_loadX.cls ≠ "java/lang/invoke/MethodHandle" ∧ y_Mod_loadX.cls ≠ "java/lang/invoke/VarHandle" ∧ (parseMethodDescriptor y_Mod_loadX.desc).map (fun d => d.parameters.length) = some 1 := by decide +kernel
abbrev b_Mod_clearZ : ByteArray := prog_7_method_6_code
def y_Mod_clearZ : MethodName := ⟨R_Mod, "clearZ", "()V"⟩
theorem kd_Mod_clearZ : y_Mod_clearZ.cls ≠ "java/lang/invoke/MethodHandle" ∧ y_Mod_clearZ.cls ≠ "java/lang/invoke/VarHandle" ∧ (parseMethodDescriptor y_Mod_clearZ.desc).map (fun d => d.parameters.length) = some 0 := by decide +kernel
abbrev b_Mod_put : ByteArray := prog_7_method_7_code
def y_Mod_put : MethodName := ⟨R_Mod, "put", "(I[II)Z"⟩
theorem kd_Mod_put : y_Mod_put.cls ≠ "java/lang/invoke/MethodHandle" ∧ y_Mod_put.cls ≠ "java/lang/invoke/VarHandle" ∧ (parseMethodDescriptor y_Mod_put.desc).map (fun d => d.parameters.length) = some 3 := by decide +kernel
abbrev b_Mod_trim : ByteArray := prog_7_method_3_code
def y_Mod_trim : MethodName := ⟨R_Mod, "trim", "([II)I"⟩
theorem kd_Mod_trim : y_Mod_trim.cls ≠ "java/lang/invoke/MethodHandle" ∧ y_Mod_trim.cls ≠ "java/lang/invoke/VarHandle" ∧ (parseMethodDescriptor y_Mod_trim.desc).map (fun d => d.parameters.length) = some 2 := by decide +kernel
abbrev b_Mod_spread : ByteArray := prog_7_method_13_code
def y_Mod_spread : MethodName := ⟨R_Mod, "spread", "(IJI)Z"⟩
theorem kd_Mod_spread : y_Mod_spread.cls ≠ "java/lang/invoke/MethodHandle" ∧ y_Mod_spread.cls ≠ "java/lang/invoke/VarHandle" ∧ (parseMethodDescriptor y_Mod_spread.desc).map (fun d => d.parameters.length) = some 3 := by decide +kernel
abbrev b_Mod_copy : ByteArray := prog_7_method_14_code
def y_Mod_copy : MethodName := ⟨R_Mod, "copy", "(II)Z"⟩
theorem kd_Mod_copy : y_Mod_copy.cls ≠ "java/lang/invoke/MethodHandle" ∧ y_Mod_copy.cls ≠ "java/lang/invoke/VarHandle" ∧ (parseMethodDescriptor y_Mod_copy.desc).map (fun d => d.parameters.length) = some 2 := by decide +kernel
abbrev b_Mod_add : ByteArray := prog_7_method_15_code
def y_Mod_add : MethodName := ⟨R_Mod, "add", "(III)Z"⟩
theorem kd_Mod_add : y_Mod_add.cls ≠ "java/lang/invoke/MethodHandle" ∧ y_Mod_add.cls ≠ "java/lang/invoke/VarHandle" ∧ (parseMethodDescriptor y_Mod_add.desc).map (fun d => d.parameters.length) = some 3 := by decide +kernel
abbrev b_Mod_loadY : ByteArray := prog_7_method_5_code
def y_Mod_loadY : MethodName := ⟨R_Mod, "loadY", "(I)V"⟩
theorem kd_Mod_loadY : y_Mod_loadY.cls ≠ "java/lang/invoke/MethodHandle" ∧ y_Mod_loadY.cls ≠ "java/lang/invoke/VarHandle" ∧ (parseMethodDescriptor y_Mod_loadY.desc).map (fun d => d.parameters.length) = some 1 := by decide +kernel
abbrev b_Mod_take : ByteArray := prog_7_method_16_code
def y_Mod_take : MethodName := ⟨R_Mod, "take", "(III)Z"⟩
theorem kd_Mod_take : y_Mod_take.cls ≠ "java/lang/invoke/MethodHandle" ∧ y_Mod_take.cls ≠ "java/lang/invoke/VarHandle" ∧ (parseMethodDescriptor y_Mod_take.desc).map (fun d => d.parameters.length) = some 3 := by decide +kernel
abbrev b_Mod_compareRows : ByteArray := prog_7_method_8_code
def y_Mod_compareRows : MethodName := ⟨R_Mod, "compareRows", "([II[II)I"⟩
theorem kd_Mod_compareRows : y_Mod_compareRows.cls ≠ "java/lang/invoke/MethodHandle" ∧ y_Mod_compareRows.cls ≠ "java/lang/invoke/VarHandle" ∧ (parseMethodDescriptor y_Mod_compareRows.desc).map (fun d => d.parameters.length) = some 4 := by decide +kernel
abbrev b_Mod_lessen : ByteArray := prog_7_method_9_code
def y_Mod_lessen : MethodName := ⟨R_Mod, "lessen", "([II[II)I"⟩
theorem kd_Mod_lessen : y_Mod_lessen.cls ≠ "java/lang/invoke/MethodHandle" ∧ y_Mod_lessen.cls ≠ "java/lang/invoke/VarHandle" ∧ (parseMethodDescriptor y_Mod_lessen.desc).map (fun d => d.parameters.length) = some 4 := by decide +kernel
abbrev b_Mod_times : ByteArray := prog_7_method_17_code
def y_Mod_times : MethodName := ⟨R_Mod, "times", "(III)Z"⟩
theorem kd_Mod_times : y_Mod_times.cls ≠ "java/lang/invoke/MethodHandle" ∧ y_Mod_times.cls ≠ "java/lang/invoke/VarHandle" ∧ (parseMethodDescriptor y_Mod_times.desc).map (fun d => d.parameters.length) = some 3 := by decide +kernel
abbrev b_Mod_divide : ByteArray := prog_7_method_18_code
def y_Mod_divide : MethodName := ⟨R_Mod, "divide", "(IIII)Z"⟩
theorem kd_Mod_divide : y_Mod_divide.cls ≠ "java/lang/invoke/MethodHandle" ∧ y_Mod_divide.cls ≠ "java/lang/invoke/VarHandle" ∧ (parseMethodDescriptor y_Mod_divide.desc).map (fun d => d.parameters.length) = some 4 := by decide +kernel
abbrev b_Mod_bitOf : ByteArray := prog_7_method_11_code
def y_Mod_bitOf : MethodName := ⟨R_Mod, "bitOf", "([II)I"⟩
theorem kd_Mod_bitOf : y_Mod_bitOf.cls ≠ "java/lang/invoke/MethodHandle" ∧ y_Mod_bitOf.cls ≠ "java/lang/invoke/VarHandle" ∧ (parseMethodDescriptor y_Mod_bitOf.desc).map (fun d => d.parameters.length) = some 2 := by decide +kernel
abbrev b_Mod_twice : ByteArray := prog_7_method_10_code
def y_Mod_twice : MethodName := ⟨R_Mod, "twice", "([III)I"⟩
theorem kd_Mod_twice : y_Mod_twice.cls ≠ "java/lang/invoke/MethodHandle" ∧ y_Mod_twice.cls ≠ "java/lang/invoke/VarHandle" ∧ (parseMethodDescriptor y_Mod_twice.desc).map (fun d => d.parameters.length) = some 3 := by decide +kernel
abbrev b_Mod_root : ByteArray := prog_7_method_19_code
def y_Mod_root : MethodName := ⟨R_Mod, "root", "(III)Z"⟩
theorem kd_Mod_root : y_Mod_root.cls ≠ "java/lang/invoke/MethodHandle" ∧ y_Mod_root.cls ≠ "java/lang/invoke/VarHandle" ∧ (parseMethodDescriptor y_Mod_root.desc).map (fun d => d.parameters.length) = some 3 := by decide +kernel
abbrev b_Mod_halve : ByteArray := prog_7_method_20_code
def y_Mod_halve : MethodName := ⟨R_Mod, "halve", "()V"⟩
theorem kd_Mod_halve : y_Mod_halve.cls ≠ "java/lang/invoke/MethodHandle" ∧ y_Mod_halve.cls ≠ "java/lang/invoke/VarHandle" ∧ (parseMethodDescriptor y_Mod_halve.desc).map (fun d => d.parameters.length) = some 0 := by decide +kernel
abbrev b_Mod_shift : ByteArray := prog_7_method_23_code
def y_Mod_shift : MethodName := ⟨R_Mod, "shift", "(III)Z"⟩
theorem kd_Mod_shift : y_Mod_shift.cls ≠ "java/lang/invoke/MethodHandle" ∧ y_Mod_shift.cls ≠ "java/lang/invoke/VarHandle" ∧ (parseMethodDescriptor y_Mod_shift.desc).map (fun d => d.parameters.length) = some 3 := by decide +kernel
abbrev b_Mod_moved : ByteArray := prog_7_method_22_code
def y_Mod_moved : MethodName := ⟨R_Mod, "moved", "(IIJJJ)Z"⟩
theorem kd_Mod_moved : y_Mod_moved.cls ≠ "java/lang/invoke/MethodHandle" ∧ y_Mod_moved.cls ≠ "java/lang/invoke/VarHandle" ∧ (parseMethodDescriptor y_Mod_moved.desc).map (fun d => d.parameters.length) = some 5 := by decide +kernel
abbrev b_Mod_bitsOf : ByteArray := prog_7_method_21_code
def y_Mod_bitsOf : MethodName := ⟨R_Mod, "bitsOf", "(I)I"⟩
theorem kd_Mod_bitsOf : y_Mod_bitsOf.cls ≠ "java/lang/invoke/MethodHandle" ∧ y_Mod_bitsOf.cls ≠ "java/lang/invoke/VarHandle" ∧ (parseMethodDescriptor y_Mod_bitsOf.desc).map (fun d => d.parameters.length) = some 1 := by decide +kernel
abbrev b_Mod_part : ByteArray := prog_7_method_24_code
def y_Mod_part : MethodName := ⟨R_Mod, "part", "(IIII)Z"⟩
theorem kd_Mod_part : y_Mod_part.cls ≠ "java/lang/invoke/MethodHandle" ∧ y_Mod_part.cls ≠ "java/lang/invoke/VarHandle" ∧ (parseMethodDescriptor y_Mod_part.desc).map (fun d => d.parameters.length) = some 4 := by decide +kernel
abbrev b_Mod_compare : ByteArray := prog_7_method_25_code
def y_Mod_compare : MethodName := ⟨R_Mod, "compare", "(II)I"⟩
theorem kd_Mod_compare : y_Mod_compare.cls ≠ "java/lang/invoke/MethodHandle" ∧ y_Mod_compare.cls ≠ "java/lang/invoke/VarHandle" ∧ (parseMethodDescriptor y_Mod_compare.desc).map (fun d => d.parameters.length) = some 2 := by decide +kernel
abbrev b_Mod_bits : ByteArray := prog_7_method_26_code
def y_Mod_bits : MethodName := ⟨R_Mod, "bits", "(I)I"⟩
theorem kd_Mod_bits : y_Mod_bits.cls ≠ "java/lang/invoke/MethodHandle" ∧ y_Mod_bits.cls ≠ "java/lang/invoke/VarHandle" ∧ (parseMethodDescriptor y_Mod_bits.desc).map (fun d => d.parameters.length) = some 1 := by decide +kernel
abbrev b_Mod_word : ByteArray := prog_7_method_27_code
def y_Mod_word : MethodName := ⟨R_Mod, "word", "(II)I"⟩
theorem kd_Mod_word : y_Mod_word.cls ≠ "java/lang/invoke/MethodHandle" ∧ y_Mod_word.cls ≠ "java/lang/invoke/VarHandle" ∧ (parseMethodDescriptor y_Mod_word.desc).map (fun d => d.parameters.length) = some 2 := by decide +kernel
abbrev b_Mod_ones : ByteArray := prog_7_method_28_code
def y_Mod_ones : MethodName := ⟨R_Mod, "ones", "(I)I"⟩
theorem kd_Mod_ones : y_Mod_ones.cls ≠ "java/lang/invoke/MethodHandle" ∧ y_Mod_ones.cls ≠ "java/lang/invoke/VarHandle" ∧ (parseMethodDescriptor y_Mod_ones.desc).map (fun d => d.parameters.length) = some 1 := by decide +kernel
abbrev b_Mod_lowest : ByteArray := prog_7_method_29_code
def y_Mod_lowest : MethodName := ⟨R_Mod, "lowest", "(I)I"⟩
theorem kd_Mod_lowest : y_Mod_lowest.cls ≠ "java/lang/invoke/MethodHandle" ∧ y_Mod_lowest.cls ≠ "java/lang/invoke/VarHandle" ∧ (parseMethodDescriptor y_Mod_lowest.desc).map (fun d => d.parameters.length) = some 1 := by decide +kernel
abbrev b_Mod_rest : ByteArray := prog_7_method_30_code
def y_Mod_rest : MethodName := ⟨R_Mod, "rest", "(II)I"⟩
theorem kd_Mod_rest : y_Mod_rest.cls ≠ "java/lang/invoke/MethodHandle" ∧ y_Mod_rest.cls ≠ "java/lang/invoke/VarHandle" ∧ (parseMethodDescriptor y_Mod_rest.desc).map (fun d => d.parameters.length) = some 2 := by decide +kernel
end
section
theorem ki_Div : Cond.initialized R_Div ∈ lw_T := lw_T_of (List.mem_append_right _ (List.mem_of_getElem? (i := 8) (by decide +kernel))) rfl
theorem kc_Div_find : Cond.code y_Div_find b_Div_find 9 none ∈ lw_T := lw_T_of (List.mem_append_right _ (List.mem_of_getElem? (i := 151) (by decide +kernel))) rfl
theorem ks_Div_find : Cond.static y_Div_find ∈ lw_T := lw_T_of (List.mem_append_right _ (List.mem_of_getElem? (i := 150) (by decide +kernel))) rfl
theorem kf_Div_9 : Cond.fieldLink R_Div 9 "WholeMill$Whole" "length" "I" ∈ lw_T := lw_T_of (List.mem_append_right _ (List.mem_of_getElem? (i := 30) (by decide +kernel))) rfl
theorem km_Div_15 : Cond.methodLink R_Div 15 y_Math_max ∈ lw_T := lw_T_of (List.mem_append_right _ (List.mem_of_getElem? (i := 152) (by decide +kernel))) rfl
theorem km_Div_21 : Cond.methodLink R_Div 21 y_Whole_size ∈ lw_T := lw_T_of (List.mem_append_right _ (List.mem_of_getElem? (i := 153) (by decide +kernel))) rfl
theorem km_Div_25 : Cond.methodLink R_Div 25 y_Whole_becomeShiftedLeft ∈ lw_T := lw_T_of (List.mem_append_right _ (List.mem_of_getElem? (i := 154) (by decide +kernel))) rfl
theorem km_Div_29 : Cond.methodLink R_Div 29 y_Whole_clear ∈ lw_T := lw_T_of (List.mem_append_right _ (List.mem_of_getElem? (i := 155) (by decide +kernel))) rfl
theorem kf_Div_32 : Cond.fieldLink R_Div 32 "WholeMill$Whole" "words" "[I" ∈ lw_T := lw_T_of (List.mem_append_right _ (List.mem_of_getElem? (i := 27) (by decide +kernel))) rfl
theorem km_Div_36 : Cond.methodLink R_Div 36 y_Div_nextWord ∈ lw_T := lw_T_of (List.mem_append_right _ (List.mem_of_getElem? (i := 156) (by decide +kernel))) rfl
theorem km_Div_42 : Cond.methodLink R_Div 42 y_Whole_settle ∈ lw_T := lw_T_of (List.mem_append_right _ (List.mem_of_getElem? (i := 176) (by decide +kernel))) rfl
theorem km_Div_46 : Cond.methodLink R_Div 46 y_Whole_becomeShiftedRight ∈ lw_T := lw_T_of (List.mem_append_right _ (List.mem_of_getElem? (i := 177) (by decide +kernel))) rfl
theorem kc_Div_nextWord : Cond.code y_Div_nextWord b_Div_nextWord 11 (some .int) ∈ lw_T := lw_T_of (List.mem_append_right _ (List.mem_of_getElem? (i := 158) (by decide +kernel))) rfl
theorem ks_Div_nextWord : Cond.static y_Div_nextWord ∈ lw_T := lw_T_of (List.mem_append_right _ (List.mem_of_getElem? (i := 157) (by decide +kernel))) rfl
theorem km_Div_49 : Cond.methodLink R_Div 49 y_Rows_guess ∈ lw_T := lw_T_of (List.mem_append_right _ (List.mem_of_getElem? (i := 159) (by decide +kernel))) rfl
theorem kl_Div_55 : Cond.constantLong R_Div 55 (4294967295) ∈ lw_T := lw_T_of (List.mem_append_right _ (List.mem_of_getElem? (i := 169) (by decide +kernel))) rfl
theorem km_Div_57 : Cond.methodLink R_Div 57 y_Rows_takeMultiple ∈ lw_T := lw_T_of (List.mem_append_right _ (List.mem_of_getElem? (i := 170) (by decide +kernel))) rfl
theorem km_Div_61 : Cond.methodLink R_Div 61 y_Rows_addStretch ∈ lw_T := lw_T_of (List.mem_append_right _ (List.mem_of_getElem? (i := 173) (by decide +kernel))) rfl
theorem ki_Int : Cond.initialized R_Int ∈ lw_T := lw_T_of (List.mem_append_right _ (List.mem_of_getElem? (i := 4) (by decide +kernel))) rfl
theorem kc_Int_bitCount : Cond.code y_Int_bitCount b_Int_bitCount 1 (some .int) ∈ lw_T := lw_T_of (List.mem_append_right _ (List.mem_of_getElem? (i := 264) (by decide +kernel))) rfl
theorem ks_Int_bitCount : Cond.static y_Int_bitCount ∈ lw_T := lw_T_of (List.mem_append_right _ (List.mem_of_getElem? (i := 263) (by decide +kernel))) rfl
theorem kk_Int_265 : Cond.constant R_Int 265 (1431655765) ∈ lw_T := lw_T_of (List.mem_append_right _ (List.mem_of_getElem? (i := 265) (by decide +kernel))) rfl
theorem kk_Int_266 : Cond.constant R_Int 266 (858993459) ∈ lw_T := lw_T_of (List.mem_append_right _ (List.mem_of_getElem? (i := 266) (by decide +kernel))) rfl
theorem kk_Int_267 : Cond.constant R_Int 267 (252645135) ∈ lw_T := lw_T_of (List.mem_append_right _ (List.mem_of_getElem? (i := 267) (by decide +kernel))) rfl
theorem kc_Int_numberOfLeadingZeros : Cond.code y_Int_numberOfLeadingZeros b_Int_numberOfLeadingZeros 2 (some .int) ∈ lw_T := lw_T_of (List.mem_append_right _ (List.mem_of_getElem? (i := 65) (by decide +kernel))) rfl
theorem ks_Int_numberOfLeadingZeros : Cond.static y_Int_numberOfLeadingZeros ∈ lw_T := lw_T_of (List.mem_append_right _ (List.mem_of_getElem? (i := 64) (by decide +kernel))) rfl
theorem kk_Int_264 : Cond.constant R_Int 264 (65536) ∈ lw_T := lw_T_of (List.mem_append_right _ (List.mem_of_getElem? (i := 66) (by decide +kernel))) rfl
theorem kc_Int_numberOfTrailingZeros : Cond.code y_Int_numberOfTrailingZeros b_Int_numberOfTrailingZeros 2 (some .int) ∈ lw_T := lw_T_of (List.mem_append_right _ (List.mem_of_getElem? (i := 278) (by decide +kernel))) rfl
theorem ks_Int_numberOfTrailingZeros : Cond.static y_Int_numberOfTrailingZeros ∈ lw_T := lw_T_of (List.mem_append_right _ (List.mem_of_getElem? (i := 277) (by decide +kernel))) rfl
theorem ki_Math : Cond.initialized R_Math ∈ lw_T := lw_T_of (List.mem_append_right _ (List.mem_of_getElem? (i := 5) (by decide +kernel))) rfl
theorem kc_Math_abs : Cond.code y_Math_abs b_Math_abs 1 (some .int) ∈ lw_T := lw_T_of (List.mem_append_right _ (List.mem_of_getElem? (i := 228) (by decide +kernel))) rfl
theorem ks_Math_abs : Cond.static y_Math_abs ∈ lw_T := lw_T_of (List.mem_append_right _ (List.mem_of_getElem? (i := 227) (by decide +kernel))) rfl
theorem kc_Math_max : Cond.code y_Math_max b_Math_max 2 (some .int) ∈ lw_T := lw_T_of (List.mem_append_right _ (List.mem_of_getElem? (i := 87) (by decide +kernel))) rfl
theorem ks_Math_max : Cond.static y_Math_max ∈ lw_T := lw_T_of (List.mem_append_right _ (List.mem_of_getElem? (i := 86) (by decide +kernel))) rfl
theorem kc_Math_min : Cond.code y_Math_min b_Math_min 2 (some .int) ∈ lw_T := lw_T_of (List.mem_append_right _ (List.mem_of_getElem? (i := 236) (by decide +kernel))) rfl
theorem ks_Math_min : Cond.static y_Math_min ∈ lw_T := lw_T_of (List.mem_append_right _ (List.mem_of_getElem? (i := 235) (by decide +kernel))) rfl
theorem kc_Math_minL : Cond.code y_Math_minL b_Math_minL 4 (some .long) ∈ lw_T := lw_T_of (List.mem_append_right _ (List.mem_of_getElem? (i := 164) (by decide +kernel))) rfl
theorem ks_Math_minL : Cond.static y_Math_minL ∈ lw_T := lw_T_of (List.mem_append_right _ (List.mem_of_getElem? (i := 163) (by decide +kernel))) rfl
theorem ki_Mill : Cond.initialized R_Mill ∈ lw_T := lw_T_of (List.mem_append_right _ (List.mem_of_getElem? (i := 1) (by decide +kernel))) rfl
theorem kc_Mill_add : Cond.code y_Mill_add b_Mill_add 4 (some .boolean) ∈ lw_T := lw_T_of (List.mem_append_right _ (List.mem_of_getElem? (i := 115) (by decide +kernel))) rfl
theorem kn_Mill_add : Cond.instanceMethod y_Mill_add ∈ lw_T := lw_T_of (List.mem_append_right _ (List.mem_of_getElem? (i := 113) (by decide +kernel))) rfl
theorem ke_Mill_add : Cond.selects y_Mill_add.cls y_Mill_add y_Mill_add ∈ lw_T := lw_T_of (List.mem_append_right _ (List.mem_of_getElem? (i := 114) (by decide +kernel))) rfl
theorem km_Mill_26 : Cond.methodLink R_Mill 26 y_Mill_isRegister ∈ lw_T := lw_T_of (List.mem_append_right _ (List.mem_of_getElem? (i := 56) (by decide +kernel))) rfl
theorem kf_Mill_16 : Cond.fieldLink R_Mill 16 "WholeMill" "result" "LWholeMill$Whole;" ∈ lw_T := lw_T_of (List.mem_append_right _ (List.mem_of_getElem? (i := 40) (by decide +kernel))) rfl
theorem kf_Mill_11 : Cond.fieldLink R_Mill 11 "WholeMill" "registers" "[LWholeMill$Whole;" ∈ lw_T := lw_T_of (List.mem_append_right _ (List.mem_of_getElem? (i := 39) (by decide +kernel))) rfl
theorem km_Mill_54 : Cond.methodLink R_Mill 54 y_Whole_becomeSum ∈ lw_T := lw_T_of (List.mem_append_right _ (List.mem_of_getElem? (i := 116) (by decide +kernel))) rfl
theorem km_Mill_43 : Cond.methodLink R_Mill 43 y_Mill_keepResult ∈ lw_T := lw_T_of (List.mem_append_right _ (List.mem_of_getElem? (i := 88) (by decide +kernel))) rfl
theorem kc_Mill_bits : Cond.code y_Mill_bits b_Mill_bits 2 (some .int) ∈ lw_T := lw_T_of (List.mem_append_right _ (List.mem_of_getElem? (i := 249) (by decide +kernel))) rfl
theorem kn_Mill_bits : Cond.instanceMethod y_Mill_bits ∈ lw_T := lw_T_of (List.mem_append_right _ (List.mem_of_getElem? (i := 247) (by decide +kernel))) rfl
theorem ke_Mill_bits : Cond.selects y_Mill_bits.cls y_Mill_bits y_Mill_bits ∈ lw_T := lw_T_of (List.mem_append_right _ (List.mem_of_getElem? (i := 248) (by decide +kernel))) rfl
theorem km_Mill_30 : Cond.methodLink R_Mill 30 y_Whole_size ∈ lw_T := lw_T_of (List.mem_append_right _ (List.mem_of_getElem? (i := 59) (by decide +kernel))) rfl
theorem kc_Mill_compare : Cond.code y_Mill_compare b_Mill_compare 3 (some .int) ∈ lw_T := lw_T_of (List.mem_append_right _ (List.mem_of_getElem? (i := 245) (by decide +kernel))) rfl
theorem kn_Mill_compare : Cond.instanceMethod y_Mill_compare ∈ lw_T := lw_T_of (List.mem_append_right _ (List.mem_of_getElem? (i := 243) (by decide +kernel))) rfl
theorem ke_Mill_compare : Cond.selects y_Mill_compare.cls y_Mill_compare y_Mill_compare ∈ lw_T := lw_T_of (List.mem_append_right _ (List.mem_of_getElem? (i := 244) (by decide +kernel))) rfl
theorem km_Mill_58 : Cond.methodLink R_Mill 58 y_Whole_order ∈ lw_T := lw_T_of (List.mem_append_right _ (List.mem_of_getElem? (i := 124) (by decide +kernel))) rfl
theorem kc_Mill_copy : Cond.code y_Mill_copy b_Mill_copy 3 (some .boolean) ∈ lw_T := lw_T_of (List.mem_append_right _ (List.mem_of_getElem? (i := 111) (by decide +kernel))) rfl
theorem kn_Mill_copy : Cond.instanceMethod y_Mill_copy ∈ lw_T := lw_T_of (List.mem_append_right _ (List.mem_of_getElem? (i := 109) (by decide +kernel))) rfl
theorem ke_Mill_copy : Cond.selects y_Mill_copy.cls y_Mill_copy y_Mill_copy ∈ lw_T := lw_T_of (List.mem_append_right _ (List.mem_of_getElem? (i := 110) (by decide +kernel))) rfl
theorem km_Mill_50 : Cond.methodLink R_Mill 50 y_Whole_become ∈ lw_T := lw_T_of (List.mem_append_right _ (List.mem_of_getElem? (i := 93) (by decide +kernel))) rfl
theorem kc_Mill_divide : Cond.code y_Mill_divide b_Mill_divide 5 (some .boolean) ∈ lw_T := lw_T_of (List.mem_append_right _ (List.mem_of_getElem? (i := 148) (by decide +kernel))) rfl
theorem kn_Mill_divide : Cond.instanceMethod y_Mill_divide ∈ lw_T := lw_T_of (List.mem_append_right _ (List.mem_of_getElem? (i := 146) (by decide +kernel))) rfl
theorem ke_Mill_divide : Cond.selects y_Mill_divide.cls y_Mill_divide y_Mill_divide ∈ lw_T := lw_T_of (List.mem_append_right _ (List.mem_of_getElem? (i := 147) (by decide +kernel))) rfl
theorem kf_Mill_69 : Cond.fieldLink R_Mill 69 "WholeMill$Whole" "length" "I" ∈ lw_T := lw_T_of (List.mem_append_right _ (List.mem_of_getElem? (i := 32) (by decide +kernel))) rfl
theorem kf_Mill_20 : Cond.fieldLink R_Mill 20 "WholeMill" "left" "LWholeMill$Whole;" ∈ lw_T := lw_T_of (List.mem_append_right _ (List.mem_of_getElem? (i := 41) (by decide +kernel))) rfl
theorem kf_Mill_23 : Cond.fieldLink R_Mill 23 "WholeMill" "helper" "LWholeMill$Whole;" ∈ lw_T := lw_T_of (List.mem_append_right _ (List.mem_of_getElem? (i := 42) (by decide +kernel))) rfl
theorem km_Mill_73 : Cond.methodLink R_Mill 73 y_Div_find ∈ lw_T := lw_T_of (List.mem_append_right _ (List.mem_of_getElem? (i := 149) (by decide +kernel))) rfl
theorem kc_Mill_init : Cond.code y_Mill_init b_Mill_init 2 none ∈ lw_T := lw_T_of (List.mem_append_right _ (List.mem_of_getElem? (i := 14) (by decide +kernel))) rfl
theorem kn_Mill_init : Cond.instanceMethod y_Mill_init ∈ lw_T := lw_T_of (List.mem_append_right _ (List.mem_of_getElem? (i := 13) (by decide +kernel))) rfl
theorem km_Mill_1 : Cond.methodLink R_Mill 1 objectInit ∈ lw_T := lw_T_of (List.mem_append_right _ (List.mem_of_getElem? (i := 15) (by decide +kernel))) rfl
theorem kg_Mill_9 : Cond.classLink R_Mill 9 R_Whole ∈ lw_T := lw_T_of (List.mem_append_right _ (List.mem_of_getElem? (i := 18) (by decide +kernel))) rfl
theorem km_Mill_15 : Cond.methodLink R_Mill 15 y_Whole_init ∈ lw_T := lw_T_of (List.mem_append_right _ (List.mem_of_getElem? (i := 21) (by decide +kernel))) rfl
theorem kc_Mill_isRegister : Cond.code y_Mill_isRegister b_Mill_isRegister 1 (some .boolean) ∈ lw_T := lw_T_of (List.mem_append_right _ (List.mem_of_getElem? (i := 58) (by decide +kernel))) rfl
theorem ks_Mill_isRegister : Cond.static y_Mill_isRegister ∈ lw_T := lw_T_of (List.mem_append_right _ (List.mem_of_getElem? (i := 57) (by decide +kernel))) rfl
theorem kc_Mill_keepResult : Cond.code y_Mill_keepResult b_Mill_keepResult 2 (some .boolean) ∈ lw_T := lw_T_of (List.mem_append_right _ (List.mem_of_getElem? (i := 91) (by decide +kernel))) rfl
theorem kn_Mill_keepResult : Cond.instanceMethod y_Mill_keepResult ∈ lw_T := lw_T_of (List.mem_append_right _ (List.mem_of_getElem? (i := 90) (by decide +kernel))) rfl
theorem ke_Mill_keepResult : Cond.selects y_Mill_keepResult.cls y_Mill_keepResult y_Mill_keepResult ∈ lw_T := lw_T_of (List.mem_append_left _ (by decide +kernel)) rfl
theorem kk_Mill_85 : Cond.constant R_Mill 85 (65536) ∈ lw_T := lw_T_of (List.mem_append_right _ (List.mem_of_getElem? (i := 92) (by decide +kernel))) rfl
theorem kc_Mill_lowest : Cond.code y_Mill_lowest b_Mill_lowest 2 (some .int) ∈ lw_T := lw_T_of (List.mem_append_right _ (List.mem_of_getElem? (i := 271) (by decide +kernel))) rfl
theorem kn_Mill_lowest : Cond.instanceMethod y_Mill_lowest ∈ lw_T := lw_T_of (List.mem_append_right _ (List.mem_of_getElem? (i := 269) (by decide +kernel))) rfl
theorem ke_Mill_lowest : Cond.selects y_Mill_lowest.cls y_Mill_lowest y_Mill_lowest ∈ lw_T := lw_T_of (List.mem_append_right _ (List.mem_of_getElem? (i := 270) (by decide +kernel))) rfl
theorem km_Mill_110 : Cond.methodLink R_Mill 110 y_Whole_lowestOne ∈ lw_T := lw_T_of (List.mem_append_right _ (List.mem_of_getElem? (i := 272) (by decide +kernel))) rfl
theorem kc_Mill_ones : Cond.code y_Mill_ones b_Mill_ones 2 (some .int) ∈ lw_T := lw_T_of (List.mem_append_right _ (List.mem_of_getElem? (i := 257) (by decide +kernel))) rfl
theorem kn_Mill_ones : Cond.instanceMethod y_Mill_ones ∈ lw_T := lw_T_of (List.mem_append_right _ (List.mem_of_getElem? (i := 255) (by decide +kernel))) rfl
theorem ke_Mill_ones : Cond.selects y_Mill_ones.cls y_Mill_ones y_Mill_ones ∈ lw_T := lw_T_of (List.mem_append_right _ (List.mem_of_getElem? (i := 256) (by decide +kernel))) rfl
theorem km_Mill_107 : Cond.methodLink R_Mill 107 y_Whole_countOnes ∈ lw_T := lw_T_of (List.mem_append_right _ (List.mem_of_getElem? (i := 258) (by decide +kernel))) rfl
theorem kc_Mill_part : Cond.code y_Mill_part b_Mill_part 5 (some .boolean) ∈ lw_T := lw_T_of (List.mem_append_right _ (List.mem_of_getElem? (i := 233) (by decide +kernel))) rfl
theorem kn_Mill_part : Cond.instanceMethod y_Mill_part ∈ lw_T := lw_T_of (List.mem_append_right _ (List.mem_of_getElem? (i := 231) (by decide +kernel))) rfl
theorem ke_Mill_part : Cond.selects y_Mill_part.cls y_Mill_part y_Mill_part ∈ lw_T := lw_T_of (List.mem_append_right _ (List.mem_of_getElem? (i := 232) (by decide +kernel))) rfl
theorem km_Mill_95 : Cond.methodLink R_Mill 95 y_Math_min ∈ lw_T := lw_T_of (List.mem_append_right _ (List.mem_of_getElem? (i := 234) (by decide +kernel))) rfl
theorem km_Mill_92 : Cond.methodLink R_Mill 92 y_Whole_becomeShiftedRight ∈ lw_T := lw_T_of (List.mem_append_right _ (List.mem_of_getElem? (i := 229) (by decide +kernel))) rfl
theorem km_Mill_99 : Cond.methodLink R_Mill 99 y_Whole_keepLowest ∈ lw_T := lw_T_of (List.mem_append_right _ (List.mem_of_getElem? (i := 237) (by decide +kernel))) rfl
theorem kc_Mill_push : Cond.code y_Mill_push b_Mill_push 4 (some .boolean) ∈ lw_T := lw_T_of (List.mem_append_right _ (List.mem_of_getElem? (i := 55) (by decide +kernel))) rfl
theorem kn_Mill_push : Cond.instanceMethod y_Mill_push ∈ lw_T := lw_T_of (List.mem_append_right _ (List.mem_of_getElem? (i := 53) (by decide +kernel))) rfl
theorem ke_Mill_push : Cond.selects y_Mill_push.cls y_Mill_push y_Mill_push ∈ lw_T := lw_T_of (List.mem_append_right _ (List.mem_of_getElem? (i := 54) (by decide +kernel))) rfl
theorem kk_Mill_34 : Cond.constant R_Mill 34 (65472) ∈ lw_T := lw_T_of (List.mem_append_right _ (List.mem_of_getElem? (i := 67) (by decide +kernel))) rfl
theorem km_Mill_35 : Cond.methodLink R_Mill 35 y_Whole_becomeShiftedLeft ∈ lw_T := lw_T_of (List.mem_append_right _ (List.mem_of_getElem? (i := 68) (by decide +kernel))) rfl
theorem km_Mill_39 : Cond.methodLink R_Mill 39 y_Whole_fillLowestPair ∈ lw_T := lw_T_of (List.mem_append_right _ (List.mem_of_getElem? (i := 81) (by decide +kernel))) rfl
theorem kc_Mill_rest : Cond.code y_Mill_rest b_Mill_rest 3 (some .int) ∈ lw_T := lw_T_of (List.mem_append_right _ (List.mem_of_getElem? (i := 282) (by decide +kernel))) rfl
theorem kn_Mill_rest : Cond.instanceMethod y_Mill_rest ∈ lw_T := lw_T_of (List.mem_append_right _ (List.mem_of_getElem? (i := 280) (by decide +kernel))) rfl
theorem ke_Mill_rest : Cond.selects y_Mill_rest.cls y_Mill_rest y_Mill_rest ∈ lw_T := lw_T_of (List.mem_append_right _ (List.mem_of_getElem? (i := 281) (by decide +kernel))) rfl
theorem km_Mill_113 : Cond.methodLink R_Mill 113 y_Whole_remainder ∈ lw_T := lw_T_of (List.mem_append_right _ (List.mem_of_getElem? (i := 283) (by decide +kernel))) rfl
theorem kc_Mill_root : Cond.code y_Mill_root b_Mill_root 4 (some .boolean) ∈ lw_T := lw_T_of (List.mem_append_right _ (List.mem_of_getElem? (i := 184) (by decide +kernel))) rfl
theorem kn_Mill_root : Cond.instanceMethod y_Mill_root ∈ lw_T := lw_T_of (List.mem_append_right _ (List.mem_of_getElem? (i := 182) (by decide +kernel))) rfl
theorem ke_Mill_root : Cond.selects y_Mill_root.cls y_Mill_root y_Mill_root ∈ lw_T := lw_T_of (List.mem_append_right _ (List.mem_of_getElem? (i := 183) (by decide +kernel))) rfl
theorem km_Mill_79 : Cond.methodLink R_Mill 79 y_Root_find ∈ lw_T := lw_T_of (List.mem_append_right _ (List.mem_of_getElem? (i := 185) (by decide +kernel))) rfl
theorem kc_Mill_shift : Cond.code y_Mill_shift b_Mill_shift 4 (some .boolean) ∈ lw_T := lw_T_of (List.mem_append_right _ (List.mem_of_getElem? (i := 224) (by decide +kernel))) rfl
theorem kn_Mill_shift : Cond.instanceMethod y_Mill_shift ∈ lw_T := lw_T_of (List.mem_append_right _ (List.mem_of_getElem? (i := 222) (by decide +kernel))) rfl
theorem ke_Mill_shift : Cond.selects y_Mill_shift.cls y_Mill_shift y_Mill_shift ∈ lw_T := lw_T_of (List.mem_append_right _ (List.mem_of_getElem? (i := 223) (by decide +kernel))) rfl
theorem kk_Mill_84 : Cond.constant R_Mill 84 (-65536) ∈ lw_T := lw_T_of (List.mem_append_right _ (List.mem_of_getElem? (i := 225) (by decide +kernel))) rfl
theorem km_Mill_86 : Cond.methodLink R_Mill 86 y_Math_abs ∈ lw_T := lw_T_of (List.mem_append_right _ (List.mem_of_getElem? (i := 226) (by decide +kernel))) rfl
theorem kc_Mill_spread : Cond.code y_Mill_spread b_Mill_spread 5 (some .boolean) ∈ lw_T := lw_T_of (List.mem_append_right _ (List.mem_of_getElem? (i := 103) (by decide +kernel))) rfl
theorem kn_Mill_spread : Cond.instanceMethod y_Mill_spread ∈ lw_T := lw_T_of (List.mem_append_right _ (List.mem_of_getElem? (i := 101) (by decide +kernel))) rfl
theorem ke_Mill_spread : Cond.selects y_Mill_spread.cls y_Mill_spread y_Mill_spread ∈ lw_T := lw_T_of (List.mem_append_right _ (List.mem_of_getElem? (i := 102) (by decide +kernel))) rfl
theorem km_Mill_46 : Cond.methodLink R_Mill 46 y_Whole_becomePairs ∈ lw_T := lw_T_of (List.mem_append_right _ (List.mem_of_getElem? (i := 104) (by decide +kernel))) rfl
theorem kc_Mill_take : Cond.code y_Mill_take b_Mill_take 4 (some .boolean) ∈ lw_T := lw_T_of (List.mem_append_right _ (List.mem_of_getElem? (i := 123) (by decide +kernel))) rfl
theorem kn_Mill_take : Cond.instanceMethod y_Mill_take ∈ lw_T := lw_T_of (List.mem_append_right _ (List.mem_of_getElem? (i := 121) (by decide +kernel))) rfl
theorem ke_Mill_take : Cond.selects y_Mill_take.cls y_Mill_take y_Mill_take ∈ lw_T := lw_T_of (List.mem_append_right _ (List.mem_of_getElem? (i := 122) (by decide +kernel))) rfl
theorem km_Mill_62 : Cond.methodLink R_Mill 62 y_Whole_becomeDifference ∈ lw_T := lw_T_of (List.mem_append_right _ (List.mem_of_getElem? (i := 128) (by decide +kernel))) rfl
theorem kc_Mill_times : Cond.code y_Mill_times b_Mill_times 4 (some .boolean) ∈ lw_T := lw_T_of (List.mem_append_right _ (List.mem_of_getElem? (i := 135) (by decide +kernel))) rfl
theorem kn_Mill_times : Cond.instanceMethod y_Mill_times ∈ lw_T := lw_T_of (List.mem_append_right _ (List.mem_of_getElem? (i := 133) (by decide +kernel))) rfl
theorem ke_Mill_times : Cond.selects y_Mill_times.cls y_Mill_times y_Mill_times ∈ lw_T := lw_T_of (List.mem_append_right _ (List.mem_of_getElem? (i := 134) (by decide +kernel))) rfl
theorem kk_Mill_65 : Cond.constant R_Mill 65 (65537) ∈ lw_T := lw_T_of (List.mem_append_right _ (List.mem_of_getElem? (i := 136) (by decide +kernel))) rfl
theorem km_Mill_66 : Cond.methodLink R_Mill 66 y_Whole_becomeProduct ∈ lw_T := lw_T_of (List.mem_append_right _ (List.mem_of_getElem? (i := 137) (by decide +kernel))) rfl
theorem kc_Mill_word : Cond.code y_Mill_word b_Mill_word 3 (some .int) ∈ lw_T := lw_T_of (List.mem_append_right _ (List.mem_of_getElem? (i := 253) (by decide +kernel))) rfl
theorem kn_Mill_word : Cond.instanceMethod y_Mill_word ∈ lw_T := lw_T_of (List.mem_append_right _ (List.mem_of_getElem? (i := 251) (by decide +kernel))) rfl
theorem ke_Mill_word : Cond.selects y_Mill_word.cls y_Mill_word y_Mill_word ∈ lw_T := lw_T_of (List.mem_append_right _ (List.mem_of_getElem? (i := 252) (by decide +kernel))) rfl
theorem kf_Mill_103 : Cond.fieldLink R_Mill 103 "WholeMill$Whole" "words" "[I" ∈ lw_T := lw_T_of (List.mem_append_right _ (List.mem_of_getElem? (i := 28) (by decide +kernel))) rfl
theorem ki_Mod : Cond.initialized R_Mod ∈ lw_T := lw_T_of (List.mem_append_right _ (List.mem_of_getElem? (i := 3) (by decide +kernel))) rfl
theorem kc_Mod_add : Cond.code y_Mod_add b_Mod_add 7 (some .boolean) ∈ lw_T := lw_T_of (List.mem_append_right _ (List.mem_of_getElem? (i := 353) (by decide +kernel))) rfl
theorem kn_Mod_add : Cond.instanceMethod y_Mod_add ∈ lw_T := lw_T_of (List.mem_append_right _ (List.mem_of_getElem? (i := 351) (by decide +kernel))) rfl
theorem ke_Mod_add : Cond.selects y_Mod_add.cls y_Mod_add y_Mod_add ∈ lw_T := lw_T_of (List.mem_append_right _ (List.mem_of_getElem? (i := 352) (by decide +kernel))) rfl
theorem km_Mod_41 : Cond.methodLink R_Mod 41 y_Mod_isRegister ∈ lw_T := lw_T_of (List.mem_append_right _ (List.mem_of_getElem? (i := 323) (by decide +kernel))) rfl
theorem km_Mod_45 : Cond.methodLink R_Mod 45 y_Mod_loadX ∈ lw_T := lw_T_of (List.mem_append_right _ (List.mem_of_getElem? (i := 326) (by decide +kernel))) rfl
theorem km_Mod_58 : Cond.methodLink R_Mod 58 y_Mod_loadY ∈ lw_T := lw_T_of (List.mem_append_right _ (List.mem_of_getElem? (i := 354) (by decide +kernel))) rfl
theorem km_Mod_49 : Cond.methodLink R_Mod 49 y_Mod_clearZ ∈ lw_T := lw_T_of (List.mem_append_right _ (List.mem_of_getElem? (i := 330) (by decide +kernel))) rfl
theorem kf_Mod_17 : Cond.fieldLink R_Mod 17 "WholeMillModel" "x" "[I" ∈ lw_T := lw_T_of (List.mem_append_right _ (List.mem_of_getElem? (i := 296) (by decide +kernel))) rfl
theorem kf_Mod_20 : Cond.fieldLink R_Mod 20 "WholeMillModel" "y" "[I" ∈ lw_T := lw_T_of (List.mem_append_right _ (List.mem_of_getElem? (i := 297) (by decide +kernel))) rfl
theorem kf_Mod_23 : Cond.fieldLink R_Mod 23 "WholeMillModel" "z" "[I" ∈ lw_T := lw_T_of (List.mem_append_right _ (List.mem_of_getElem? (i := 298) (by decide +kernel))) rfl
theorem kk_Mod_40 : Cond.constant R_Mod 40 (65535) ∈ lw_T := lw_T_of (List.mem_append_right _ (List.mem_of_getElem? (i := 358) (by decide +kernel))) rfl
theorem km_Mod_54 : Cond.methodLink R_Mod 54 y_Mod_put ∈ lw_T := lw_T_of (List.mem_append_right _ (List.mem_of_getElem? (i := 335) (by decide +kernel))) rfl
theorem kc_Mod_bitOf : Cond.code y_Mod_bitOf b_Mod_bitOf 2 (some .int) ∈ lw_T := lw_T_of (List.mem_append_right _ (List.mem_of_getElem? (i := 379) (by decide +kernel))) rfl
theorem ks_Mod_bitOf : Cond.static y_Mod_bitOf ∈ lw_T := lw_T_of (List.mem_append_right _ (List.mem_of_getElem? (i := 378) (by decide +kernel))) rfl
theorem kc_Mod_bits : Cond.code y_Mod_bits b_Mod_bits 2 (some .int) ∈ lw_T := lw_T_of (List.mem_append_right _ (List.mem_of_getElem? (i := 417) (by decide +kernel))) rfl
theorem kn_Mod_bits : Cond.instanceMethod y_Mod_bits ∈ lw_T := lw_T_of (List.mem_append_right _ (List.mem_of_getElem? (i := 415) (by decide +kernel))) rfl
theorem ke_Mod_bits : Cond.selects y_Mod_bits.cls y_Mod_bits y_Mod_bits ∈ lw_T := lw_T_of (List.mem_append_right _ (List.mem_of_getElem? (i := 416) (by decide +kernel))) rfl
theorem km_Mod_87 : Cond.methodLink R_Mod 87 y_Mod_bitsOf ∈ lw_T := lw_T_of (List.mem_append_right _ (List.mem_of_getElem? (i := 402) (by decide +kernel))) rfl
theorem kc_Mod_bitsOf : Cond.code y_Mod_bitsOf b_Mod_bitsOf 4 (some .int) ∈ lw_T := lw_T_of (List.mem_append_right _ (List.mem_of_getElem? (i := 405) (by decide +kernel))) rfl
theorem kn_Mod_bitsOf : Cond.instanceMethod y_Mod_bitsOf ∈ lw_T := lw_T_of (List.mem_append_right _ (List.mem_of_getElem? (i := 404) (by decide +kernel))) rfl
theorem ke_Mod_bitsOf : Cond.selects y_Mod_bitsOf.cls y_Mod_bitsOf y_Mod_bitsOf ∈ lw_T := lw_T_of (List.mem_append_left _ (by decide +kernel)) rfl
theorem kf_Mod_14 : Cond.fieldLink R_Mod 14 "WholeMillModel" "sizes" "[I" ∈ lw_T := lw_T_of (List.mem_append_right _ (List.mem_of_getElem? (i := 295) (by decide +kernel))) rfl
theorem kf_Mod_8 : Cond.fieldLink R_Mod 8 "WholeMillModel" "digits" "[I" ∈ lw_T := lw_T_of (List.mem_append_right _ (List.mem_of_getElem? (i := 294) (by decide +kernel))) rfl
theorem kc_Mod_clearZ : Cond.code y_Mod_clearZ b_Mod_clearZ 2 none ∈ lw_T := lw_T_of (List.mem_append_right _ (List.mem_of_getElem? (i := 333) (by decide +kernel))) rfl
theorem kn_Mod_clearZ : Cond.instanceMethod y_Mod_clearZ ∈ lw_T := lw_T_of (List.mem_append_right _ (List.mem_of_getElem? (i := 332) (by decide +kernel))) rfl
theorem ke_Mod_clearZ : Cond.selects y_Mod_clearZ.cls y_Mod_clearZ y_Mod_clearZ ∈ lw_T := lw_T_of (List.mem_append_left _ (by decide +kernel)) rfl
theorem kf_Mod_33 : Cond.fieldLink R_Mod 33 "WholeMillModel" "zs" "I" ∈ lw_T := lw_T_of (List.mem_append_right _ (List.mem_of_getElem? (i := 301) (by decide +kernel))) rfl
theorem kc_Mod_compare : Cond.code y_Mod_compare b_Mod_compare 3 (some .int) ∈ lw_T := lw_T_of (List.mem_append_right _ (List.mem_of_getElem? (i := 413) (by decide +kernel))) rfl
theorem kn_Mod_compare : Cond.instanceMethod y_Mod_compare ∈ lw_T := lw_T_of (List.mem_append_right _ (List.mem_of_getElem? (i := 411) (by decide +kernel))) rfl
theorem ke_Mod_compare : Cond.selects y_Mod_compare.cls y_Mod_compare y_Mod_compare ∈ lw_T := lw_T_of (List.mem_append_right _ (List.mem_of_getElem? (i := 412) (by decide +kernel))) rfl
theorem kf_Mod_26 : Cond.fieldLink R_Mod 26 "WholeMillModel" "xs" "I" ∈ lw_T := lw_T_of (List.mem_append_right _ (List.mem_of_getElem? (i := 299) (by decide +kernel))) rfl
theorem kf_Mod_30 : Cond.fieldLink R_Mod 30 "WholeMillModel" "ys" "I" ∈ lw_T := lw_T_of (List.mem_append_right _ (List.mem_of_getElem? (i := 300) (by decide +kernel))) rfl
theorem km_Mod_61 : Cond.methodLink R_Mod 61 y_Mod_compareRows ∈ lw_T := lw_T_of (List.mem_append_right _ (List.mem_of_getElem? (i := 363) (by decide +kernel))) rfl
theorem kc_Mod_compareRows : Cond.code y_Mod_compareRows b_Mod_compareRows 5 (some .int) ∈ lw_T := lw_T_of (List.mem_append_right _ (List.mem_of_getElem? (i := 365) (by decide +kernel))) rfl
theorem ks_Mod_compareRows : Cond.static y_Mod_compareRows ∈ lw_T := lw_T_of (List.mem_append_right _ (List.mem_of_getElem? (i := 364) (by decide +kernel))) rfl
theorem kc_Mod_copy : Cond.code y_Mod_copy b_Mod_copy 3 (some .boolean) ∈ lw_T := lw_T_of (List.mem_append_right _ (List.mem_of_getElem? (i := 349) (by decide +kernel))) rfl
theorem kn_Mod_copy : Cond.instanceMethod y_Mod_copy ∈ lw_T := lw_T_of (List.mem_append_right _ (List.mem_of_getElem? (i := 347) (by decide +kernel))) rfl
theorem ke_Mod_copy : Cond.selects y_Mod_copy.cls y_Mod_copy y_Mod_copy ∈ lw_T := lw_T_of (List.mem_append_right _ (List.mem_of_getElem? (i := 348) (by decide +kernel))) rfl
theorem kc_Mod_divide : Cond.code y_Mod_divide b_Mod_divide 8 (some .boolean) ∈ lw_T := lw_T_of (List.mem_append_right _ (List.mem_of_getElem? (i := 376) (by decide +kernel))) rfl
theorem kn_Mod_divide : Cond.instanceMethod y_Mod_divide ∈ lw_T := lw_T_of (List.mem_append_right _ (List.mem_of_getElem? (i := 374) (by decide +kernel))) rfl
theorem ke_Mod_divide : Cond.selects y_Mod_divide.cls y_Mod_divide y_Mod_divide ∈ lw_T := lw_T_of (List.mem_append_right _ (List.mem_of_getElem? (i := 375) (by decide +kernel))) rfl
theorem km_Mod_68 : Cond.methodLink R_Mod 68 y_Mod_bitOf ∈ lw_T := lw_T_of (List.mem_append_right _ (List.mem_of_getElem? (i := 377) (by decide +kernel))) rfl
theorem km_Mod_71 : Cond.methodLink R_Mod 71 y_Mod_twice ∈ lw_T := lw_T_of (List.mem_append_right _ (List.mem_of_getElem? (i := 380) (by decide +kernel))) rfl
theorem km_Mod_65 : Cond.methodLink R_Mod 65 y_Mod_lessen ∈ lw_T := lw_T_of (List.mem_append_right _ (List.mem_of_getElem? (i := 366) (by decide +kernel))) rfl
theorem kc_Mod_halve : Cond.code y_Mod_halve b_Mod_halve 2 none ∈ lw_T := lw_T_of (List.mem_append_right _ (List.mem_of_getElem? (i := 390) (by decide +kernel))) rfl
theorem kn_Mod_halve : Cond.instanceMethod y_Mod_halve ∈ lw_T := lw_T_of (List.mem_append_right _ (List.mem_of_getElem? (i := 389) (by decide +kernel))) rfl
theorem ke_Mod_halve : Cond.selects y_Mod_halve.cls y_Mod_halve y_Mod_halve ∈ lw_T := lw_T_of (List.mem_append_left _ (by decide +kernel)) rfl
theorem km_Mod_36 : Cond.methodLink R_Mod 36 y_Mod_trim ∈ lw_T := lw_T_of (List.mem_append_right _ (List.mem_of_getElem? (i := 339) (by decide +kernel))) rfl
theorem kc_Mod_init : Cond.code y_Mod_init b_Mod_init 1 none ∈ lw_T := lw_T_of (List.mem_append_right _ (List.mem_of_getElem? (i := 291) (by decide +kernel))) rfl
theorem kn_Mod_init : Cond.instanceMethod y_Mod_init ∈ lw_T := lw_T_of (List.mem_append_right _ (List.mem_of_getElem? (i := 290) (by decide +kernel))) rfl
theorem km_Mod_1 : Cond.methodLink R_Mod 1 objectInit ∈ lw_T := lw_T_of (List.mem_append_right _ (List.mem_of_getElem? (i := 292) (by decide +kernel))) rfl
theorem kk_Mod_7 : Cond.constant R_Mod 7 (65536) ∈ lw_T := lw_T_of (List.mem_append_right _ (List.mem_of_getElem? (i := 293) (by decide +kernel))) rfl
theorem kc_Mod_isRegister : Cond.code y_Mod_isRegister b_Mod_isRegister 1 (some .boolean) ∈ lw_T := lw_T_of (List.mem_append_right _ (List.mem_of_getElem? (i := 325) (by decide +kernel))) rfl
theorem ks_Mod_isRegister : Cond.static y_Mod_isRegister ∈ lw_T := lw_T_of (List.mem_append_right _ (List.mem_of_getElem? (i := 324) (by decide +kernel))) rfl
theorem kc_Mod_lessen : Cond.code y_Mod_lessen b_Mod_lessen 7 (some .int) ∈ lw_T := lw_T_of (List.mem_append_right _ (List.mem_of_getElem? (i := 368) (by decide +kernel))) rfl
theorem ks_Mod_lessen : Cond.static y_Mod_lessen ∈ lw_T := lw_T_of (List.mem_append_right _ (List.mem_of_getElem? (i := 367) (by decide +kernel))) rfl
theorem kc_Mod_loadX : Cond.code y_Mod_loadX b_Mod_loadX 3 none ∈ lw_T := lw_T_of (List.mem_append_right _ (List.mem_of_getElem? (i := 329) (by decide +kernel))) rfl
theorem kn_Mod_loadX : Cond.instanceMethod y_Mod_loadX ∈ lw_T := lw_T_of (List.mem_append_right _ (List.mem_of_getElem? (i := 328) (by decide +kernel))) rfl
theorem ke_Mod_loadX : Cond.selects y_Mod_loadX.cls y_Mod_loadX y_Mod_loadX ∈ lw_T := lw_T_of (List.mem_append_left _ (by decide +kernel)) rfl
theorem kc_Mod_loadY : Cond.code y_Mod_loadY b_Mod_loadY 3 none ∈ lw_T := lw_T_of (List.mem_append_right _ (List.mem_of_getElem? (i := 357) (by decide +kernel))) rfl
theorem kn_Mod_loadY : Cond.instanceMethod y_Mod_loadY ∈ lw_T := lw_T_of (List.mem_append_right _ (List.mem_of_getElem? (i := 356) (by decide +kernel))) rfl
theorem ke_Mod_loadY : Cond.selects y_Mod_loadY.cls y_Mod_loadY y_Mod_loadY ∈ lw_T := lw_T_of (List.mem_append_left _ (by decide +kernel)) rfl
theorem kc_Mod_lowest : Cond.code y_Mod_lowest b_Mod_lowest 3 (some .int) ∈ lw_T := lw_T_of (List.mem_append_right _ (List.mem_of_getElem? (i := 429) (by decide +kernel))) rfl
theorem kn_Mod_lowest : Cond.instanceMethod y_Mod_lowest ∈ lw_T := lw_T_of (List.mem_append_right _ (List.mem_of_getElem? (i := 427) (by decide +kernel))) rfl
theorem ke_Mod_lowest : Cond.selects y_Mod_lowest.cls y_Mod_lowest y_Mod_lowest ∈ lw_T := lw_T_of (List.mem_append_right _ (List.mem_of_getElem? (i := 428) (by decide +kernel))) rfl
theorem kc_Mod_moved : Cond.code y_Mod_moved b_Mod_moved 16 (some .boolean) ∈ lw_T := lw_T_of (List.mem_append_right _ (List.mem_of_getElem? (i := 400) (by decide +kernel))) rfl
theorem kn_Mod_moved : Cond.instanceMethod y_Mod_moved ∈ lw_T := lw_T_of (List.mem_append_right _ (List.mem_of_getElem? (i := 399) (by decide +kernel))) rfl
theorem ke_Mod_moved : Cond.selects y_Mod_moved.cls y_Mod_moved y_Mod_moved ∈ lw_T := lw_T_of (List.mem_append_left _ (by decide +kernel)) rfl
theorem kl_Mod_79 : Cond.constantLong R_Mod 79 (16) ∈ lw_T := lw_T_of (List.mem_append_right _ (List.mem_of_getElem? (i := 401) (by decide +kernel))) rfl
theorem kc_Mod_ones : Cond.code y_Mod_ones b_Mod_ones 5 (some .int) ∈ lw_T := lw_T_of (List.mem_append_right _ (List.mem_of_getElem? (i := 425) (by decide +kernel))) rfl
theorem kn_Mod_ones : Cond.instanceMethod y_Mod_ones ∈ lw_T := lw_T_of (List.mem_append_right _ (List.mem_of_getElem? (i := 423) (by decide +kernel))) rfl
theorem ke_Mod_ones : Cond.selects y_Mod_ones.cls y_Mod_ones y_Mod_ones ∈ lw_T := lw_T_of (List.mem_append_right _ (List.mem_of_getElem? (i := 424) (by decide +kernel))) rfl
theorem kc_Mod_part : Cond.code y_Mod_part b_Mod_part 5 (some .boolean) ∈ lw_T := lw_T_of (List.mem_append_right _ (List.mem_of_getElem? (i := 409) (by decide +kernel))) rfl
theorem kn_Mod_part : Cond.instanceMethod y_Mod_part ∈ lw_T := lw_T_of (List.mem_append_right _ (List.mem_of_getElem? (i := 407) (by decide +kernel))) rfl
theorem ke_Mod_part : Cond.selects y_Mod_part.cls y_Mod_part y_Mod_part ∈ lw_T := lw_T_of (List.mem_append_right _ (List.mem_of_getElem? (i := 408) (by decide +kernel))) rfl
theorem km_Mod_83 : Cond.methodLink R_Mod 83 y_Mod_moved ∈ lw_T := lw_T_of (List.mem_append_right _ (List.mem_of_getElem? (i := 397) (by decide +kernel))) rfl
theorem kc_Mod_push : Cond.code y_Mod_push b_Mod_push 5 (some .boolean) ∈ lw_T := lw_T_of (List.mem_append_right _ (List.mem_of_getElem? (i := 322) (by decide +kernel))) rfl
theorem kn_Mod_push : Cond.instanceMethod y_Mod_push ∈ lw_T := lw_T_of (List.mem_append_right _ (List.mem_of_getElem? (i := 320) (by decide +kernel))) rfl
theorem ke_Mod_push : Cond.selects y_Mod_push.cls y_Mod_push y_Mod_push ∈ lw_T := lw_T_of (List.mem_append_right _ (List.mem_of_getElem? (i := 321) (by decide +kernel))) rfl
theorem kl_Mod_52 : Cond.constantLong R_Mod 52 (65535) ∈ lw_T := lw_T_of (List.mem_append_right _ (List.mem_of_getElem? (i := 334) (by decide +kernel))) rfl
theorem kc_Mod_put : Cond.code y_Mod_put b_Mod_put 6 (some .boolean) ∈ lw_T := lw_T_of (List.mem_append_right _ (List.mem_of_getElem? (i := 338) (by decide +kernel))) rfl
theorem kn_Mod_put : Cond.instanceMethod y_Mod_put ∈ lw_T := lw_T_of (List.mem_append_right _ (List.mem_of_getElem? (i := 337) (by decide +kernel))) rfl
theorem ke_Mod_put : Cond.selects y_Mod_put.cls y_Mod_put y_Mod_put ∈ lw_T := lw_T_of (List.mem_append_left _ (by decide +kernel)) rfl
theorem kc_Mod_rest : Cond.code y_Mod_rest b_Mod_rest 6 (some .int) ∈ lw_T := lw_T_of (List.mem_append_right _ (List.mem_of_getElem? (i := 433) (by decide +kernel))) rfl
theorem kn_Mod_rest : Cond.instanceMethod y_Mod_rest ∈ lw_T := lw_T_of (List.mem_append_right _ (List.mem_of_getElem? (i := 431) (by decide +kernel))) rfl
theorem ke_Mod_rest : Cond.selects y_Mod_rest.cls y_Mod_rest y_Mod_rest ∈ lw_T := lw_T_of (List.mem_append_right _ (List.mem_of_getElem? (i := 432) (by decide +kernel))) rfl
theorem kl_Mod_81 : Cond.constantLong R_Mod 81 (65536) ∈ lw_T := lw_T_of (List.mem_append_right _ (List.mem_of_getElem? (i := 396) (by decide +kernel))) rfl
theorem kc_Mod_root : Cond.code y_Mod_root b_Mod_root 6 (some .boolean) ∈ lw_T := lw_T_of (List.mem_append_right _ (List.mem_of_getElem? (i := 386) (by decide +kernel))) rfl
theorem kn_Mod_root : Cond.instanceMethod y_Mod_root ∈ lw_T := lw_T_of (List.mem_append_right _ (List.mem_of_getElem? (i := 384) (by decide +kernel))) rfl
theorem ke_Mod_root : Cond.selects y_Mod_root.cls y_Mod_root y_Mod_root ∈ lw_T := lw_T_of (List.mem_append_right _ (List.mem_of_getElem? (i := 385) (by decide +kernel))) rfl
theorem km_Mod_75 : Cond.methodLink R_Mod 75 y_Mod_halve ∈ lw_T := lw_T_of (List.mem_append_right _ (List.mem_of_getElem? (i := 387) (by decide +kernel))) rfl
theorem kk_Mod_78 : Cond.constant R_Mod 78 (65534) ∈ lw_T := lw_T_of (List.mem_append_right _ (List.mem_of_getElem? (i := 391) (by decide +kernel))) rfl
theorem kc_Mod_shift : Cond.code y_Mod_shift b_Mod_shift 6 (some .boolean) ∈ lw_T := lw_T_of (List.mem_append_right _ (List.mem_of_getElem? (i := 395) (by decide +kernel))) rfl
theorem kn_Mod_shift : Cond.instanceMethod y_Mod_shift ∈ lw_T := lw_T_of (List.mem_append_right _ (List.mem_of_getElem? (i := 393) (by decide +kernel))) rfl
theorem ke_Mod_shift : Cond.selects y_Mod_shift.cls y_Mod_shift y_Mod_shift ∈ lw_T := lw_T_of (List.mem_append_right _ (List.mem_of_getElem? (i := 394) (by decide +kernel))) rfl
theorem kc_Mod_spread : Cond.code y_Mod_spread b_Mod_spread 6 (some .boolean) ∈ lw_T := lw_T_of (List.mem_append_right _ (List.mem_of_getElem? (i := 345) (by decide +kernel))) rfl
theorem kn_Mod_spread : Cond.instanceMethod y_Mod_spread ∈ lw_T := lw_T_of (List.mem_append_right _ (List.mem_of_getElem? (i := 343) (by decide +kernel))) rfl
theorem ke_Mod_spread : Cond.selects y_Mod_spread.cls y_Mod_spread y_Mod_spread ∈ lw_T := lw_T_of (List.mem_append_right _ (List.mem_of_getElem? (i := 344) (by decide +kernel))) rfl
theorem kc_Mod_take : Cond.code y_Mod_take b_Mod_take 4 (some .boolean) ∈ lw_T := lw_T_of (List.mem_append_right _ (List.mem_of_getElem? (i := 362) (by decide +kernel))) rfl
theorem kn_Mod_take : Cond.instanceMethod y_Mod_take ∈ lw_T := lw_T_of (List.mem_append_right _ (List.mem_of_getElem? (i := 360) (by decide +kernel))) rfl
theorem ke_Mod_take : Cond.selects y_Mod_take.cls y_Mod_take y_Mod_take ∈ lw_T := lw_T_of (List.mem_append_right _ (List.mem_of_getElem? (i := 361) (by decide +kernel))) rfl
theorem kc_Mod_times : Cond.code y_Mod_times b_Mod_times 10 (some .boolean) ∈ lw_T := lw_T_of (List.mem_append_right _ (List.mem_of_getElem? (i := 372) (by decide +kernel))) rfl
theorem kn_Mod_times : Cond.instanceMethod y_Mod_times ∈ lw_T := lw_T_of (List.mem_append_right _ (List.mem_of_getElem? (i := 370) (by decide +kernel))) rfl
theorem ke_Mod_times : Cond.selects y_Mod_times.cls y_Mod_times y_Mod_times ∈ lw_T := lw_T_of (List.mem_append_right _ (List.mem_of_getElem? (i := 371) (by decide +kernel))) rfl
theorem kc_Mod_trim : Cond.code y_Mod_trim b_Mod_trim 3 (some .int) ∈ lw_T := lw_T_of (List.mem_append_right _ (List.mem_of_getElem? (i := 341) (by decide +kernel))) rfl
theorem ks_Mod_trim : Cond.static y_Mod_trim ∈ lw_T := lw_T_of (List.mem_append_right _ (List.mem_of_getElem? (i := 340) (by decide +kernel))) rfl
theorem kc_Mod_twice : Cond.code y_Mod_twice b_Mod_twice 6 (some .int) ∈ lw_T := lw_T_of (List.mem_append_right _ (List.mem_of_getElem? (i := 382) (by decide +kernel))) rfl
theorem ks_Mod_twice : Cond.static y_Mod_twice ∈ lw_T := lw_T_of (List.mem_append_right _ (List.mem_of_getElem? (i := 381) (by decide +kernel))) rfl
theorem kc_Mod_word : Cond.code y_Mod_word b_Mod_word 3 (some .int) ∈ lw_T := lw_T_of (List.mem_append_right _ (List.mem_of_getElem? (i := 421) (by decide +kernel))) rfl
theorem kn_Mod_word : Cond.instanceMethod y_Mod_word ∈ lw_T := lw_T_of (List.mem_append_right _ (List.mem_of_getElem? (i := 419) (by decide +kernel))) rfl
theorem ke_Mod_word : Cond.selects y_Mod_word.cls y_Mod_word y_Mod_word ∈ lw_T := lw_T_of (List.mem_append_right _ (List.mem_of_getElem? (i := 420) (by decide +kernel))) rfl
theorem ki_Root : Cond.initialized R_Root ∈ lw_T := lw_T_of (List.mem_append_right _ (List.mem_of_getElem? (i := 9) (by decide +kernel))) rfl
theorem kc_Root_find : Cond.code y_Root_find b_Root_find 7 none ∈ lw_T := lw_T_of (List.mem_append_right _ (List.mem_of_getElem? (i := 187) (by decide +kernel))) rfl
theorem ks_Root_find : Cond.static y_Root_find ∈ lw_T := lw_T_of (List.mem_append_right _ (List.mem_of_getElem? (i := 186) (by decide +kernel))) rfl
theorem kf_Root_9 : Cond.fieldLink R_Root 9 "WholeMill$Whole" "length" "I" ∈ lw_T := lw_T_of (List.mem_append_right _ (List.mem_of_getElem? (i := 31) (by decide +kernel))) rfl
theorem km_Root_15 : Cond.methodLink R_Root 15 y_Whole_clear ∈ lw_T := lw_T_of (List.mem_append_right _ (List.mem_of_getElem? (i := 188) (by decide +kernel))) rfl
theorem km_Root_18 : Cond.methodLink R_Root 18 y_Whole_size ∈ lw_T := lw_T_of (List.mem_append_right _ (List.mem_of_getElem? (i := 189) (by decide +kernel))) rfl
theorem km_Root_22 : Cond.methodLink R_Root 22 y_Whole_becomeShiftedLeft ∈ lw_T := lw_T_of (List.mem_append_right _ (List.mem_of_getElem? (i := 190) (by decide +kernel))) rfl
theorem kf_Root_26 : Cond.fieldLink R_Root 26 "WholeMill$Whole" "words" "[I" ∈ lw_T := lw_T_of (List.mem_append_right _ (List.mem_of_getElem? (i := 26) (by decide +kernel))) rfl
theorem km_Root_30 : Cond.methodLink R_Root 30 y_Root_firstWord ∈ lw_T := lw_T_of (List.mem_append_right _ (List.mem_of_getElem? (i := 191) (by decide +kernel))) rfl
theorem km_Root_36 : Cond.methodLink R_Root 36 y_Root_nextWord ∈ lw_T := lw_T_of (List.mem_append_right _ (List.mem_of_getElem? (i := 202) (by decide +kernel))) rfl
theorem km_Root_40 : Cond.methodLink R_Root 40 y_Root_shiftBack ∈ lw_T := lw_T_of (List.mem_append_right _ (List.mem_of_getElem? (i := 215) (by decide +kernel))) rfl
theorem kc_Root_firstWord : Cond.code y_Root_firstWord b_Root_firstWord 10 none ∈ lw_T := lw_T_of (List.mem_append_right _ (List.mem_of_getElem? (i := 193) (by decide +kernel))) rfl
theorem ks_Root_firstWord : Cond.static y_Root_firstWord ∈ lw_T := lw_T_of (List.mem_append_right _ (List.mem_of_getElem? (i := 192) (by decide +kernel))) rfl
theorem kl_Root_44 : Cond.constantLong R_Root 44 (4294967295) ∈ lw_T := lw_T_of (List.mem_append_right _ (List.mem_of_getElem? (i := 194) (by decide +kernel))) rfl
theorem km_Root_46 : Cond.methodLink R_Root 46 y_Root_rootOfPair ∈ lw_T := lw_T_of (List.mem_append_right _ (List.mem_of_getElem? (i := 195) (by decide +kernel))) rfl
theorem km_Root_50 : Cond.methodLink R_Root 50 y_Root_putWord ∈ lw_T := lw_T_of (List.mem_append_right _ (List.mem_of_getElem? (i := 199) (by decide +kernel))) rfl
theorem kc_Root_guessWord : Cond.code y_Root_guessWord b_Root_guessWord 9 (some .long) ∈ lw_T := lw_T_of (List.mem_append_right _ (List.mem_of_getElem? (i := 207) (by decide +kernel))) rfl
theorem ks_Root_guessWord : Cond.static y_Root_guessWord ∈ lw_T := lw_T_of (List.mem_append_right _ (List.mem_of_getElem? (i := 206) (by decide +kernel))) rfl
theorem km_Root_73 : Cond.methodLink R_Root 73 y_Rows_halved ∈ lw_T := lw_T_of (List.mem_append_right _ (List.mem_of_getElem? (i := 208) (by decide +kernel))) rfl
theorem km_Root_77 : Cond.methodLink R_Root 77 y_Rows_guess ∈ lw_T := lw_T_of (List.mem_append_right _ (List.mem_of_getElem? (i := 211) (by decide +kernel))) rfl
theorem kc_Root_nextWord : Cond.code y_Root_nextWord b_Root_nextWord 11 none ∈ lw_T := lw_T_of (List.mem_append_right _ (List.mem_of_getElem? (i := 204) (by decide +kernel))) rfl
theorem ks_Root_nextWord : Cond.static y_Root_nextWord ∈ lw_T := lw_T_of (List.mem_append_right _ (List.mem_of_getElem? (i := 203) (by decide +kernel))) rfl
theorem km_Root_60 : Cond.methodLink R_Root 60 y_Root_guessWord ∈ lw_T := lw_T_of (List.mem_append_right _ (List.mem_of_getElem? (i := 205) (by decide +kernel))) rfl
theorem km_Root_64 : Cond.methodLink R_Root 64 y_Rows_takeMultiple ∈ lw_T := lw_T_of (List.mem_append_right _ (List.mem_of_getElem? (i := 212) (by decide +kernel))) rfl
theorem kl_Root_68 : Cond.constantLong R_Root 68 (2) ∈ lw_T := lw_T_of (List.mem_append_right _ (List.mem_of_getElem? (i := 213) (by decide +kernel))) rfl
theorem km_Root_70 : Cond.methodLink R_Root 70 y_Rows_addStretch ∈ lw_T := lw_T_of (List.mem_append_right _ (List.mem_of_getElem? (i := 214) (by decide +kernel))) rfl
theorem kc_Root_putWord : Cond.code y_Root_putWord b_Root_putWord 4 none ∈ lw_T := lw_T_of (List.mem_append_right _ (List.mem_of_getElem? (i := 201) (by decide +kernel))) rfl
theorem ks_Root_putWord : Cond.static y_Root_putWord ∈ lw_T := lw_T_of (List.mem_append_right _ (List.mem_of_getElem? (i := 200) (by decide +kernel))) rfl
theorem kc_Root_rootOfPair : Cond.code y_Root_rootOfPair b_Root_rootOfPair 7 (some .long) ∈ lw_T := lw_T_of (List.mem_append_right _ (List.mem_of_getElem? (i := 197) (by decide +kernel))) rfl
theorem ks_Root_rootOfPair : Cond.static y_Root_rootOfPair ∈ lw_T := lw_T_of (List.mem_append_right _ (List.mem_of_getElem? (i := 196) (by decide +kernel))) rfl
theorem km_Root_54 : Cond.methodLink R_Root 54 y_Rows_isAbove ∈ lw_T := lw_T_of (List.mem_append_right _ (List.mem_of_getElem? (i := 198) (by decide +kernel))) rfl
theorem kc_Root_shiftBack : Cond.code y_Root_shiftBack b_Root_shiftBack 6 none ∈ lw_T := lw_T_of (List.mem_append_right _ (List.mem_of_getElem? (i := 217) (by decide +kernel))) rfl
theorem ks_Root_shiftBack : Cond.static y_Root_shiftBack ∈ lw_T := lw_T_of (List.mem_append_right _ (List.mem_of_getElem? (i := 216) (by decide +kernel))) rfl
theorem km_Root_81 : Cond.methodLink R_Root 81 y_Rows_addMultiple ∈ lw_T := lw_T_of (List.mem_append_right _ (List.mem_of_getElem? (i := 218) (by decide +kernel))) rfl
theorem km_Root_85 : Cond.methodLink R_Root 85 y_Whole_settle ∈ lw_T := lw_T_of (List.mem_append_right _ (List.mem_of_getElem? (i := 219) (by decide +kernel))) rfl
theorem km_Root_89 : Cond.methodLink R_Root 89 y_Whole_becomeShiftedRight ∈ lw_T := lw_T_of (List.mem_append_right _ (List.mem_of_getElem? (i := 220) (by decide +kernel))) rfl
theorem ki_Rows : Cond.initialized R_Rows ∈ lw_T := lw_T_of (List.mem_append_right _ (List.mem_of_getElem? (i := 7) (by decide +kernel))) rfl
theorem kc_Rows_addMultiple : Cond.code y_Rows_addMultiple b_Rows_addMultiple 9 (some .long) ∈ lw_T := lw_T_of (List.mem_append_right _ (List.mem_of_getElem? (i := 143) (by decide +kernel))) rfl
theorem ks_Rows_addMultiple : Cond.static y_Rows_addMultiple ∈ lw_T := lw_T_of (List.mem_append_right _ (List.mem_of_getElem? (i := 142) (by decide +kernel))) rfl
theorem kl_Rows_9 : Cond.constantLong R_Rows 9 (4294967295) ∈ lw_T := lw_T_of (List.mem_append_right _ (List.mem_of_getElem? (i := 144) (by decide +kernel))) rfl
theorem kc_Rows_addStretch : Cond.code y_Rows_addStretch b_Rows_addStretch 10 (some .long) ∈ lw_T := lw_T_of (List.mem_append_right _ (List.mem_of_getElem? (i := 175) (by decide +kernel))) rfl
theorem ks_Rows_addStretch : Cond.static y_Rows_addStretch ∈ lw_T := lw_T_of (List.mem_append_right _ (List.mem_of_getElem? (i := 174) (by decide +kernel))) rfl
theorem kc_Rows_guess : Cond.code y_Rows_guess b_Rows_guess 14 (some .long) ∈ lw_T := lw_T_of (List.mem_append_right _ (List.mem_of_getElem? (i := 161) (by decide +kernel))) rfl
theorem ks_Rows_guess : Cond.static y_Rows_guess ∈ lw_T := lw_T_of (List.mem_append_right _ (List.mem_of_getElem? (i := 160) (by decide +kernel))) rfl
theorem km_Rows_11 : Cond.methodLink R_Rows 11 y_Math_minL ∈ lw_T := lw_T_of (List.mem_append_right _ (List.mem_of_getElem? (i := 162) (by decide +kernel))) rfl
theorem km_Rows_17 : Cond.methodLink R_Rows 17 y_Rows_isAbove ∈ lw_T := lw_T_of (List.mem_append_right _ (List.mem_of_getElem? (i := 165) (by decide +kernel))) rfl
theorem kc_Rows_halved : Cond.code y_Rows_halved b_Rows_halved 2 (some .int) ∈ lw_T := lw_T_of (List.mem_append_right _ (List.mem_of_getElem? (i := 210) (by decide +kernel))) rfl
theorem ks_Rows_halved : Cond.static y_Rows_halved ∈ lw_T := lw_T_of (List.mem_append_right _ (List.mem_of_getElem? (i := 209) (by decide +kernel))) rfl
theorem kc_Rows_isAbove : Cond.code y_Rows_isAbove b_Rows_isAbove 4 (some .boolean) ∈ lw_T := lw_T_of (List.mem_append_right _ (List.mem_of_getElem? (i := 167) (by decide +kernel))) rfl
theorem ks_Rows_isAbove : Cond.static y_Rows_isAbove ∈ lw_T := lw_T_of (List.mem_append_right _ (List.mem_of_getElem? (i := 166) (by decide +kernel))) rfl
theorem kl_Rows_23 : Cond.constantLong R_Rows 23 (-9223372036854775808) ∈ lw_T := lw_T_of (List.mem_append_right _ (List.mem_of_getElem? (i := 168) (by decide +kernel))) rfl
theorem kc_Rows_takeMultiple : Cond.code y_Rows_takeMultiple b_Rows_takeMultiple 12 (some .long) ∈ lw_T := lw_T_of (List.mem_append_right _ (List.mem_of_getElem? (i := 172) (by decide +kernel))) rfl
theorem ks_Rows_takeMultiple : Cond.static y_Rows_takeMultiple ∈ lw_T := lw_T_of (List.mem_append_right _ (List.mem_of_getElem? (i := 171) (by decide +kernel))) rfl
theorem ki_Whole : Cond.initialized R_Whole ∈ lw_T := lw_T_of (List.mem_append_right _ (List.mem_of_getElem? (i := 2) (by decide +kernel))) rfl
theorem kc_Whole_become : Cond.code y_Whole_become b_Whole_become 2 none ∈ lw_T := lw_T_of (List.mem_append_right _ (List.mem_of_getElem? (i := 96) (by decide +kernel))) rfl
theorem kn_Whole_become : Cond.instanceMethod y_Whole_become ∈ lw_T := lw_T_of (List.mem_append_right _ (List.mem_of_getElem? (i := 94) (by decide +kernel))) rfl
theorem ke_Whole_become : Cond.selects y_Whole_become.cls y_Whole_become y_Whole_become ∈ lw_T := lw_T_of (List.mem_append_right _ (List.mem_of_getElem? (i := 95) (by decide +kernel))) rfl
theorem kf_Whole_9 : Cond.fieldLink R_Whole 9 "WholeMill$Whole" "words" "[I" ∈ lw_T := lw_T_of (List.mem_append_right _ (List.mem_of_getElem? (i := 25) (by decide +kernel))) rfl
theorem kf_Whole_15 : Cond.fieldLink R_Whole 15 "WholeMill$Whole" "length" "I" ∈ lw_T := lw_T_of (List.mem_append_right _ (List.mem_of_getElem? (i := 29) (by decide +kernel))) rfl
theorem km_Whole_23 : Cond.methodLink R_Whole 23 arraycopyName ∈ lw_T := lw_T_of (List.mem_append_right _ (List.mem_of_getElem? (i := 97) (by decide +kernel))) rfl
theorem km_Whole_19 : Cond.methodLink R_Whole 19 y_Whole_settle ∈ lw_T := lw_T_of (List.mem_append_right _ (List.mem_of_getElem? (i := 76) (by decide +kernel))) rfl
theorem kc_Whole_becomeDifference : Cond.code y_Whole_becomeDifference b_Whole_becomeDifference 9 none ∈ lw_T := lw_T_of (List.mem_append_right _ (List.mem_of_getElem? (i := 131) (by decide +kernel))) rfl
theorem kn_Whole_becomeDifference : Cond.instanceMethod y_Whole_becomeDifference ∈ lw_T := lw_T_of (List.mem_append_right _ (List.mem_of_getElem? (i := 129) (by decide +kernel))) rfl
theorem ke_Whole_becomeDifference : Cond.selects y_Whole_becomeDifference.cls y_Whole_becomeDifference y_Whole_becomeDifference ∈ lw_T := lw_T_of (List.mem_append_right _ (List.mem_of_getElem? (i := 130) (by decide +kernel))) rfl
theorem kl_Whole_35 : Cond.constantLong R_Whole 35 (4294967295) ∈ lw_T := lw_T_of (List.mem_append_right _ (List.mem_of_getElem? (i := 80) (by decide +kernel))) rfl
theorem kc_Whole_becomePairs : Cond.code y_Whole_becomePairs b_Whole_becomePairs 5 none ∈ lw_T := lw_T_of (List.mem_append_right _ (List.mem_of_getElem? (i := 107) (by decide +kernel))) rfl
theorem kn_Whole_becomePairs : Cond.instanceMethod y_Whole_becomePairs ∈ lw_T := lw_T_of (List.mem_append_right _ (List.mem_of_getElem? (i := 105) (by decide +kernel))) rfl
theorem ke_Whole_becomePairs : Cond.selects y_Whole_becomePairs.cls y_Whole_becomePairs y_Whole_becomePairs ∈ lw_T := lw_T_of (List.mem_append_right _ (List.mem_of_getElem? (i := 106) (by decide +kernel))) rfl
theorem kc_Whole_becomeProduct : Cond.code y_Whole_becomeProduct b_Whole_becomeProduct 6 none ∈ lw_T := lw_T_of (List.mem_append_right _ (List.mem_of_getElem? (i := 140) (by decide +kernel))) rfl
theorem kn_Whole_becomeProduct : Cond.instanceMethod y_Whole_becomeProduct ∈ lw_T := lw_T_of (List.mem_append_right _ (List.mem_of_getElem? (i := 138) (by decide +kernel))) rfl
theorem ke_Whole_becomeProduct : Cond.selects y_Whole_becomeProduct.cls y_Whole_becomeProduct y_Whole_becomeProduct ∈ lw_T := lw_T_of (List.mem_append_right _ (List.mem_of_getElem? (i := 139) (by decide +kernel))) rfl
theorem km_Whole_37 : Cond.methodLink R_Whole 37 y_Whole_clear ∈ lw_T := lw_T_of (List.mem_append_right _ (List.mem_of_getElem? (i := 72) (by decide +kernel))) rfl
theorem km_Whole_40 : Cond.methodLink R_Whole 40 y_Rows_addMultiple ∈ lw_T := lw_T_of (List.mem_append_right _ (List.mem_of_getElem? (i := 141) (by decide +kernel))) rfl
theorem kc_Whole_becomeShiftedLeft : Cond.code y_Whole_becomeShiftedLeft b_Whole_becomeShiftedLeft 8 none ∈ lw_T := lw_T_of (List.mem_append_right _ (List.mem_of_getElem? (i := 71) (by decide +kernel))) rfl
theorem kn_Whole_becomeShiftedLeft : Cond.instanceMethod y_Whole_becomeShiftedLeft ∈ lw_T := lw_T_of (List.mem_append_right _ (List.mem_of_getElem? (i := 69) (by decide +kernel))) rfl
theorem ke_Whole_becomeShiftedLeft : Cond.selects y_Whole_becomeShiftedLeft.cls y_Whole_becomeShiftedLeft y_Whole_becomeShiftedLeft ∈ lw_T := lw_T_of (List.mem_append_right _ (List.mem_of_getElem? (i := 70) (by decide +kernel))) rfl
theorem kc_Whole_becomeShiftedRight : Cond.code y_Whole_becomeShiftedRight b_Whole_becomeShiftedRight 9 none ∈ lw_T := lw_T_of (List.mem_append_right _ (List.mem_of_getElem? (i := 180) (by decide +kernel))) rfl
theorem kn_Whole_becomeShiftedRight : Cond.instanceMethod y_Whole_becomeShiftedRight ∈ lw_T := lw_T_of (List.mem_append_right _ (List.mem_of_getElem? (i := 178) (by decide +kernel))) rfl
theorem ke_Whole_becomeShiftedRight : Cond.selects y_Whole_becomeShiftedRight.cls y_Whole_becomeShiftedRight y_Whole_becomeShiftedRight ∈ lw_T := lw_T_of (List.mem_append_right _ (List.mem_of_getElem? (i := 179) (by decide +kernel))) rfl
theorem km_Whole_29 : Cond.methodLink R_Whole 29 y_Math_max ∈ lw_T := lw_T_of (List.mem_append_right _ (List.mem_of_getElem? (i := 85) (by decide +kernel))) rfl
theorem kc_Whole_becomeSum : Cond.code y_Whole_becomeSum b_Whole_becomeSum 7 none ∈ lw_T := lw_T_of (List.mem_append_right _ (List.mem_of_getElem? (i := 119) (by decide +kernel))) rfl
theorem kn_Whole_becomeSum : Cond.instanceMethod y_Whole_becomeSum ∈ lw_T := lw_T_of (List.mem_append_right _ (List.mem_of_getElem? (i := 117) (by decide +kernel))) rfl
theorem ke_Whole_becomeSum : Cond.selects y_Whole_becomeSum.cls y_Whole_becomeSum y_Whole_becomeSum ∈ lw_T := lw_T_of (List.mem_append_right _ (List.mem_of_getElem? (i := 118) (by decide +kernel))) rfl
theorem kc_Whole_clear : Cond.code y_Whole_clear b_Whole_clear 1 none ∈ lw_T := lw_T_of (List.mem_append_right _ (List.mem_of_getElem? (i := 75) (by decide +kernel))) rfl
theorem kn_Whole_clear : Cond.instanceMethod y_Whole_clear ∈ lw_T := lw_T_of (List.mem_append_right _ (List.mem_of_getElem? (i := 73) (by decide +kernel))) rfl
theorem ke_Whole_clear : Cond.selects y_Whole_clear.cls y_Whole_clear y_Whole_clear ∈ lw_T := lw_T_of (List.mem_append_right _ (List.mem_of_getElem? (i := 74) (by decide +kernel))) rfl
theorem kc_Whole_countOnes : Cond.code y_Whole_countOnes b_Whole_countOnes 3 (some .int) ∈ lw_T := lw_T_of (List.mem_append_right _ (List.mem_of_getElem? (i := 261) (by decide +kernel))) rfl
theorem kn_Whole_countOnes : Cond.instanceMethod y_Whole_countOnes ∈ lw_T := lw_T_of (List.mem_append_right _ (List.mem_of_getElem? (i := 259) (by decide +kernel))) rfl
theorem ke_Whole_countOnes : Cond.selects y_Whole_countOnes.cls y_Whole_countOnes y_Whole_countOnes ∈ lw_T := lw_T_of (List.mem_append_right _ (List.mem_of_getElem? (i := 260) (by decide +kernel))) rfl
theorem km_Whole_56 : Cond.methodLink R_Whole 56 y_Int_bitCount ∈ lw_T := lw_T_of (List.mem_append_right _ (List.mem_of_getElem? (i := 262) (by decide +kernel))) rfl
theorem kc_Whole_fillLowestPair : Cond.code y_Whole_fillLowestPair b_Whole_fillLowestPair 3 none ∈ lw_T := lw_T_of (List.mem_append_right _ (List.mem_of_getElem? (i := 84) (by decide +kernel))) rfl
theorem kn_Whole_fillLowestPair : Cond.instanceMethod y_Whole_fillLowestPair ∈ lw_T := lw_T_of (List.mem_append_right _ (List.mem_of_getElem? (i := 82) (by decide +kernel))) rfl
theorem ke_Whole_fillLowestPair : Cond.selects y_Whole_fillLowestPair.cls y_Whole_fillLowestPair y_Whole_fillLowestPair ∈ lw_T := lw_T_of (List.mem_append_right _ (List.mem_of_getElem? (i := 83) (by decide +kernel))) rfl
theorem kc_Whole_init : Cond.code y_Whole_init b_Whole_init 1 none ∈ lw_T := lw_T_of (List.mem_append_right _ (List.mem_of_getElem? (i := 23) (by decide +kernel))) rfl
theorem kn_Whole_init : Cond.instanceMethod y_Whole_init ∈ lw_T := lw_T_of (List.mem_append_right _ (List.mem_of_getElem? (i := 22) (by decide +kernel))) rfl
theorem km_Whole_3 : Cond.methodLink R_Whole 3 objectInit ∈ lw_T := lw_T_of (List.mem_append_right _ (List.mem_of_getElem? (i := 24) (by decide +kernel))) rfl
theorem kc_Whole_keepLowest : Cond.code y_Whole_keepLowest b_Whole_keepLowest 3 none ∈ lw_T := lw_T_of (List.mem_append_right _ (List.mem_of_getElem? (i := 240) (by decide +kernel))) rfl
theorem kn_Whole_keepLowest : Cond.instanceMethod y_Whole_keepLowest ∈ lw_T := lw_T_of (List.mem_append_right _ (List.mem_of_getElem? (i := 238) (by decide +kernel))) rfl
theorem ke_Whole_keepLowest : Cond.selects y_Whole_keepLowest.cls y_Whole_keepLowest y_Whole_keepLowest ∈ lw_T := lw_T_of (List.mem_append_right _ (List.mem_of_getElem? (i := 239) (by decide +kernel))) rfl
theorem km_Whole_46 : Cond.methodLink R_Whole 46 y_Whole_size ∈ lw_T := lw_T_of (List.mem_append_right _ (List.mem_of_getElem? (i := 241) (by decide +kernel))) rfl
theorem kc_Whole_lowestOne : Cond.code y_Whole_lowestOne b_Whole_lowestOne 2 (some .int) ∈ lw_T := lw_T_of (List.mem_append_right _ (List.mem_of_getElem? (i := 275) (by decide +kernel))) rfl
theorem kn_Whole_lowestOne : Cond.instanceMethod y_Whole_lowestOne ∈ lw_T := lw_T_of (List.mem_append_right _ (List.mem_of_getElem? (i := 273) (by decide +kernel))) rfl
theorem ke_Whole_lowestOne : Cond.selects y_Whole_lowestOne.cls y_Whole_lowestOne y_Whole_lowestOne ∈ lw_T := lw_T_of (List.mem_append_right _ (List.mem_of_getElem? (i := 274) (by decide +kernel))) rfl
theorem km_Whole_59 : Cond.methodLink R_Whole 59 y_Int_numberOfTrailingZeros ∈ lw_T := lw_T_of (List.mem_append_right _ (List.mem_of_getElem? (i := 276) (by decide +kernel))) rfl
theorem kc_Whole_order : Cond.code y_Whole_order b_Whole_order 3 (some .int) ∈ lw_T := lw_T_of (List.mem_append_right _ (List.mem_of_getElem? (i := 127) (by decide +kernel))) rfl
theorem kn_Whole_order : Cond.instanceMethod y_Whole_order ∈ lw_T := lw_T_of (List.mem_append_right _ (List.mem_of_getElem? (i := 125) (by decide +kernel))) rfl
theorem ke_Whole_order : Cond.selects y_Whole_order.cls y_Whole_order y_Whole_order ∈ lw_T := lw_T_of (List.mem_append_right _ (List.mem_of_getElem? (i := 126) (by decide +kernel))) rfl
theorem kc_Whole_remainder : Cond.code y_Whole_remainder b_Whole_remainder 5 (some .int) ∈ lw_T := lw_T_of (List.mem_append_right _ (List.mem_of_getElem? (i := 286) (by decide +kernel))) rfl
theorem kn_Whole_remainder : Cond.instanceMethod y_Whole_remainder ∈ lw_T := lw_T_of (List.mem_append_right _ (List.mem_of_getElem? (i := 284) (by decide +kernel))) rfl
theorem ke_Whole_remainder : Cond.selects y_Whole_remainder.cls y_Whole_remainder y_Whole_remainder ∈ lw_T := lw_T_of (List.mem_append_right _ (List.mem_of_getElem? (i := 285) (by decide +kernel))) rfl
theorem kc_Whole_settle : Cond.code y_Whole_settle b_Whole_settle 3 none ∈ lw_T := lw_T_of (List.mem_append_right _ (List.mem_of_getElem? (i := 79) (by decide +kernel))) rfl
theorem kn_Whole_settle : Cond.instanceMethod y_Whole_settle ∈ lw_T := lw_T_of (List.mem_append_right _ (List.mem_of_getElem? (i := 77) (by decide +kernel))) rfl
theorem ke_Whole_settle : Cond.selects y_Whole_settle.cls y_Whole_settle y_Whole_settle ∈ lw_T := lw_T_of (List.mem_append_right _ (List.mem_of_getElem? (i := 78) (by decide +kernel))) rfl
theorem kc_Whole_size : Cond.code y_Whole_size b_Whole_size 1 (some .int) ∈ lw_T := lw_T_of (List.mem_append_right _ (List.mem_of_getElem? (i := 62) (by decide +kernel))) rfl
theorem kn_Whole_size : Cond.instanceMethod y_Whole_size ∈ lw_T := lw_T_of (List.mem_append_right _ (List.mem_of_getElem? (i := 60) (by decide +kernel))) rfl
theorem ke_Whole_size : Cond.selects y_Whole_size.cls y_Whole_size y_Whole_size ∈ lw_T := lw_T_of (List.mem_append_right _ (List.mem_of_getElem? (i := 61) (by decide +kernel))) rfl
theorem km_Whole_50 : Cond.methodLink R_Whole 50 y_Int_numberOfLeadingZeros ∈ lw_T := lw_T_of (List.mem_append_right _ (List.mem_of_getElem? (i := 63) (by decide +kernel))) rfl
theorem ki_Sys : Cond.initialized R_Sys ∈ lw_T := lw_T_of (List.mem_append_right _ (List.mem_of_getElem? (i := 6) (by decide +kernel))) rfl
theorem ks_copy : Cond.static arraycopyName ∈ lw_T := lw_T_of (List.mem_append_right _ (List.mem_of_getElem? (i := 98) (by decide +kernel))) rfl
theorem kn_copy : Cond.native arraycopyName ∈ lw_T := lw_T_of (List.mem_append_right _ (List.mem_of_getElem? (i := 99) (by decide +kernel))) rfl
end
section
theorem d_Div_find_0 : decode b_Div_find 0 = .ok (.aload_n 1, 1) := by decide +kernel
theorem d_Div_find_1 : decode b_Div_find 1 = .ok (.getfield 9, 3) := by decide +kernel
theorem d_Div_find_4 : decode b_Div_find 4 = .ok (.istore 5, 2) := by decide +kernel
theorem d_Div_find_6 : decode b_Div_find 6 = .ok (.iconst 0, 1) := by decide +kernel
theorem d_Div_find_7 : decode b_Div_find 7 = .ok (.aload_n 0, 1) := by decide +kernel
theorem d_Div_find_8 : decode b_Div_find 8 = .ok (.getfield 9, 3) := by decide +kernel
theorem d_Div_find_11 : decode b_Div_find 11 = .ok (.iload 5, 2) := by decide +kernel
theorem d_Div_find_13 : decode b_Div_find 13 = .ok (.isub, 1) := by decide +kernel
theorem d_Div_find_14 : decode b_Div_find 14 = .ok (.iconst 1, 1) := by decide +kernel
theorem d_Div_find_15 : decode b_Div_find 15 = .ok (.iadd, 1) := by decide +kernel
theorem d_Div_find_16 : decode b_Div_find 16 = .ok (.invokestatic 15, 3) := by decide +kernel
theorem d_Div_find_19 : decode b_Div_find 19 = .ok (.istore 6, 2) := by decide +kernel
theorem d_Div_find_21 : decode b_Div_find 21 = .ok (.bipush 32, 2) := by decide +kernel
theorem d_Div_find_23 : decode b_Div_find 23 = .ok (.iload 5, 2) := by decide +kernel
theorem d_Div_find_25 : decode b_Div_find 25 = .ok (.imul, 1) := by decide +kernel
theorem d_Div_find_26 : decode b_Div_find 26 = .ok (.aload_n 1, 1) := by decide +kernel
theorem d_Div_find_27 : decode b_Div_find 27 = .ok (.invokevirtual 21, 3) := by decide +kernel
theorem d_Div_find_30 : decode b_Div_find 30 = .ok (.isub, 1) := by decide +kernel
theorem d_Div_find_31 : decode b_Div_find 31 = .ok (.istore 7, 2) := by decide +kernel
theorem d_Div_find_33 : decode b_Div_find 33 = .ok (.aload_n 3, 1) := by decide +kernel
theorem d_Div_find_34 : decode b_Div_find 34 = .ok (.aload_n 0, 1) := by decide +kernel
theorem d_Div_find_35 : decode b_Div_find 35 = .ok (.iload 7, 2) := by decide +kernel
theorem d_Div_find_37 : decode b_Div_find 37 = .ok (.invokevirtual 25, 3) := by decide +kernel
theorem d_Div_find_40 : decode b_Div_find 40 = .ok (.aload 4, 2) := by decide +kernel
theorem d_Div_find_42 : decode b_Div_find 42 = .ok (.aload_n 1, 1) := by decide +kernel
theorem d_Div_find_43 : decode b_Div_find 43 = .ok (.iload 7, 2) := by decide +kernel
theorem d_Div_find_45 : decode b_Div_find 45 = .ok (.invokevirtual 25, 3) := by decide +kernel
theorem d_Div_find_48 : decode b_Div_find 48 = .ok (.aload_n 2, 1) := by decide +kernel
theorem d_Div_find_49 : decode b_Div_find 49 = .ok (.invokevirtual 29, 3) := by decide +kernel
theorem d_Div_find_52 : decode b_Div_find 52 = .ok (.iload 6, 2) := by decide +kernel
theorem d_Div_find_54 : decode b_Div_find 54 = .ok (.iconst 1, 1) := by decide +kernel
theorem d_Div_find_55 : decode b_Div_find 55 = .ok (.isub, 1) := by decide +kernel
theorem d_Div_find_56 : decode b_Div_find 56 = .ok (.istore 8, 2) := by decide +kernel
theorem d_Div_find_58 : decode b_Div_find 58 = .ok (.iload 8, 2) := by decide +kernel
theorem d_Div_find_60 : decode b_Div_find 60 = .ok (.ifCond .lt 32, 3) := by decide +kernel
theorem d_Div_find_63 : decode b_Div_find 63 = .ok (.aload_n 2, 1) := by decide +kernel
theorem d_Div_find_64 : decode b_Div_find 64 = .ok (.getfield 32, 3) := by decide +kernel
theorem d_Div_find_67 : decode b_Div_find 67 = .ok (.iload 8, 2) := by decide +kernel
theorem d_Div_find_69 : decode b_Div_find 69 = .ok (.aload_n 3, 1) := by decide +kernel
theorem d_Div_find_70 : decode b_Div_find 70 = .ok (.getfield 32, 3) := by decide +kernel
theorem d_Div_find_73 : decode b_Div_find 73 = .ok (.aload 4, 2) := by decide +kernel
theorem d_Div_find_75 : decode b_Div_find 75 = .ok (.getfield 32, 3) := by decide +kernel
theorem d_Div_find_78 : decode b_Div_find 78 = .ok (.iload 8, 2) := by decide +kernel
theorem d_Div_find_80 : decode b_Div_find 80 = .ok (.iload 5, 2) := by decide +kernel
theorem d_Div_find_82 : decode b_Div_find 82 = .ok (.invokestatic 36, 3) := by decide +kernel
theorem d_Div_find_85 : decode b_Div_find 85 = .ok (.iastore, 1) := by decide +kernel
theorem d_Div_find_86 : decode b_Div_find 86 = .ok (.iinc 8 (-1), 3) := by decide +kernel
theorem d_Div_find_89 : decode b_Div_find 89 = .ok (.goto (-31), 3) := by decide +kernel
theorem d_Div_find_92 : decode b_Div_find 92 = .ok (.aload_n 2, 1) := by decide +kernel
theorem d_Div_find_93 : decode b_Div_find 93 = .ok (.iload 6, 2) := by decide +kernel
theorem d_Div_find_95 : decode b_Div_find 95 = .ok (.invokevirtual 42, 3) := by decide +kernel
theorem d_Div_find_98 : decode b_Div_find 98 = .ok (.aload_n 3, 1) := by decide +kernel
theorem d_Div_find_99 : decode b_Div_find 99 = .ok (.iload 5, 2) := by decide +kernel
theorem d_Div_find_101 : decode b_Div_find 101 = .ok (.invokevirtual 42, 3) := by decide +kernel
theorem d_Div_find_104 : decode b_Div_find 104 = .ok (.aload_n 3, 1) := by decide +kernel
theorem d_Div_find_105 : decode b_Div_find 105 = .ok (.aload_n 3, 1) := by decide +kernel
theorem d_Div_find_106 : decode b_Div_find 106 = .ok (.iload 7, 2) := by decide +kernel
theorem d_Div_find_108 : decode b_Div_find 108 = .ok (.invokevirtual 46, 3) := by decide +kernel
theorem d_Div_find_111 : decode b_Div_find 111 = .ok (.return_, 1) := by decide +kernel
theorem d_Div_nextWord_0 : decode b_Div_nextWord 0 = .ok (.iload_n 2, 1) := by decide +kernel
theorem d_Div_nextWord_1 : decode b_Div_nextWord 1 = .ok (.iload_n 3, 1) := by decide +kernel
theorem d_Div_nextWord_2 : decode b_Div_nextWord 2 = .ok (.iadd, 1) := by decide +kernel
theorem d_Div_nextWord_3 : decode b_Div_nextWord 3 = .ok (.istore 4, 2) := by decide +kernel
theorem d_Div_nextWord_5 : decode b_Div_nextWord 5 = .ok (.iload_n 3, 1) := by decide +kernel
theorem d_Div_nextWord_6 : decode b_Div_nextWord 6 = .ok (.iconst 1, 1) := by decide +kernel
theorem d_Div_nextWord_7 : decode b_Div_nextWord 7 = .ok (.if_icmp .le 12, 3) := by decide +kernel
theorem d_Div_nextWord_10 : decode b_Div_nextWord 10 = .ok (.aload_n 0, 1) := by decide +kernel
theorem d_Div_nextWord_11 : decode b_Div_nextWord 11 = .ok (.iload 4, 2) := by decide +kernel
theorem d_Div_nextWord_13 : decode b_Div_nextWord 13 = .ok (.iconst 2, 1) := by decide +kernel
theorem d_Div_nextWord_14 : decode b_Div_nextWord 14 = .ok (.isub, 1) := by decide +kernel
theorem d_Div_nextWord_15 : decode b_Div_nextWord 15 = .ok (.iaload, 1) := by decide +kernel
theorem d_Div_nextWord_16 : decode b_Div_nextWord 16 = .ok (.goto 4, 3) := by decide +kernel
theorem d_Div_nextWord_19 : decode b_Div_nextWord 19 = .ok (.iconst 0, 1) := by decide +kernel
theorem d_Div_nextWord_20 : decode b_Div_nextWord 20 = .ok (.istore 5, 2) := by decide +kernel
theorem d_Div_nextWord_22 : decode b_Div_nextWord 22 = .ok (.iload_n 3, 1) := by decide +kernel
theorem d_Div_nextWord_23 : decode b_Div_nextWord 23 = .ok (.iconst 1, 1) := by decide +kernel
theorem d_Div_nextWord_24 : decode b_Div_nextWord 24 = .ok (.if_icmp .le 11, 3) := by decide +kernel
theorem d_Div_nextWord_27 : decode b_Div_nextWord 27 = .ok (.aload_n 1, 1) := by decide +kernel
theorem d_Div_nextWord_28 : decode b_Div_nextWord 28 = .ok (.iload_n 3, 1) := by decide +kernel
theorem d_Div_nextWord_29 : decode b_Div_nextWord 29 = .ok (.iconst 2, 1) := by decide +kernel
theorem d_Div_nextWord_30 : decode b_Div_nextWord 30 = .ok (.isub, 1) := by decide +kernel
theorem d_Div_nextWord_31 : decode b_Div_nextWord 31 = .ok (.iaload, 1) := by decide +kernel
theorem d_Div_nextWord_32 : decode b_Div_nextWord 32 = .ok (.goto 4, 3) := by decide +kernel
theorem d_Div_nextWord_35 : decode b_Div_nextWord 35 = .ok (.iconst 0, 1) := by decide +kernel
theorem d_Div_nextWord_36 : decode b_Div_nextWord 36 = .ok (.istore 6, 2) := by decide +kernel
theorem d_Div_nextWord_38 : decode b_Div_nextWord 38 = .ok (.aload_n 0, 1) := by decide +kernel
theorem d_Div_nextWord_39 : decode b_Div_nextWord 39 = .ok (.iload 4, 2) := by decide +kernel
theorem d_Div_nextWord_41 : decode b_Div_nextWord 41 = .ok (.iaload, 1) := by decide +kernel
theorem d_Div_nextWord_42 : decode b_Div_nextWord 42 = .ok (.aload_n 0, 1) := by decide +kernel
theorem d_Div_nextWord_43 : decode b_Div_nextWord 43 = .ok (.iload 4, 2) := by decide +kernel
theorem d_Div_nextWord_45 : decode b_Div_nextWord 45 = .ok (.iconst 1, 1) := by decide +kernel
theorem d_Div_nextWord_46 : decode b_Div_nextWord 46 = .ok (.isub, 1) := by decide +kernel
theorem d_Div_nextWord_47 : decode b_Div_nextWord 47 = .ok (.iaload, 1) := by decide +kernel
theorem d_Div_nextWord_48 : decode b_Div_nextWord 48 = .ok (.iload 5, 2) := by decide +kernel
theorem d_Div_nextWord_50 : decode b_Div_nextWord 50 = .ok (.aload_n 1, 1) := by decide +kernel
theorem d_Div_nextWord_51 : decode b_Div_nextWord 51 = .ok (.iload_n 3, 1) := by decide +kernel
theorem d_Div_nextWord_52 : decode b_Div_nextWord 52 = .ok (.iconst 1, 1) := by decide +kernel
theorem d_Div_nextWord_53 : decode b_Div_nextWord 53 = .ok (.isub, 1) := by decide +kernel
theorem d_Div_nextWord_54 : decode b_Div_nextWord 54 = .ok (.iaload, 1) := by decide +kernel
theorem d_Div_nextWord_55 : decode b_Div_nextWord 55 = .ok (.iload 6, 2) := by decide +kernel
theorem d_Div_nextWord_57 : decode b_Div_nextWord 57 = .ok (.invokestatic 49, 3) := by decide +kernel
theorem d_Div_nextWord_60 : decode b_Div_nextWord 60 = .ok (.lstore 7, 2) := by decide +kernel
theorem d_Div_nextWord_62 : decode b_Div_nextWord 62 = .ok (.aload_n 0, 1) := by decide +kernel
theorem d_Div_nextWord_63 : decode b_Div_nextWord 63 = .ok (.iload 4, 2) := by decide +kernel
theorem d_Div_nextWord_65 : decode b_Div_nextWord 65 = .ok (.iaload, 1) := by decide +kernel
theorem d_Div_nextWord_66 : decode b_Div_nextWord 66 = .ok (.i2l, 1) := by decide +kernel
theorem d_Div_nextWord_67 : decode b_Div_nextWord 67 = .ok (.ldc2_w 55, 3) := by decide +kernel
theorem d_Div_nextWord_70 : decode b_Div_nextWord 70 = .ok (.land, 1) := by decide +kernel
theorem d_Div_nextWord_71 : decode b_Div_nextWord 71 = .ok (.aload_n 0, 1) := by decide +kernel
theorem d_Div_nextWord_72 : decode b_Div_nextWord 72 = .ok (.iload_n 2, 1) := by decide +kernel
theorem d_Div_nextWord_73 : decode b_Div_nextWord 73 = .ok (.aload_n 1, 1) := by decide +kernel
theorem d_Div_nextWord_74 : decode b_Div_nextWord 74 = .ok (.iconst 0, 1) := by decide +kernel
theorem d_Div_nextWord_75 : decode b_Div_nextWord 75 = .ok (.iload_n 3, 1) := by decide +kernel
theorem d_Div_nextWord_76 : decode b_Div_nextWord 76 = .ok (.lload 7, 2) := by decide +kernel
theorem d_Div_nextWord_78 : decode b_Div_nextWord 78 = .ok (.invokestatic 57, 3) := by decide +kernel
theorem d_Div_nextWord_81 : decode b_Div_nextWord 81 = .ok (.lsub, 1) := by decide +kernel
theorem d_Div_nextWord_82 : decode b_Div_nextWord 82 = .ok (.lstore 9, 2) := by decide +kernel
theorem d_Div_nextWord_84 : decode b_Div_nextWord 84 = .ok (.lload 9, 2) := by decide +kernel
theorem d_Div_nextWord_86 : decode b_Div_nextWord 86 = .ok (.lconst 0, 1) := by decide +kernel
theorem d_Div_nextWord_87 : decode b_Div_nextWord 87 = .ok (.lcmp, 1) := by decide +kernel
theorem d_Div_nextWord_88 : decode b_Div_nextWord 88 = .ok (.ifCond .ge 23, 3) := by decide +kernel
theorem d_Div_nextWord_91 : decode b_Div_nextWord 91 = .ok (.lload 7, 2) := by decide +kernel
theorem d_Div_nextWord_93 : decode b_Div_nextWord 93 = .ok (.lconst 1, 1) := by decide +kernel
theorem d_Div_nextWord_94 : decode b_Div_nextWord 94 = .ok (.lsub, 1) := by decide +kernel
theorem d_Div_nextWord_95 : decode b_Div_nextWord 95 = .ok (.lstore 7, 2) := by decide +kernel
theorem d_Div_nextWord_97 : decode b_Div_nextWord 97 = .ok (.lload 9, 2) := by decide +kernel
theorem d_Div_nextWord_99 : decode b_Div_nextWord 99 = .ok (.aload_n 0, 1) := by decide +kernel
theorem d_Div_nextWord_100 : decode b_Div_nextWord 100 = .ok (.iload_n 2, 1) := by decide +kernel
theorem d_Div_nextWord_101 : decode b_Div_nextWord 101 = .ok (.aload_n 1, 1) := by decide +kernel
theorem d_Div_nextWord_102 : decode b_Div_nextWord 102 = .ok (.iconst 0, 1) := by decide +kernel
theorem d_Div_nextWord_103 : decode b_Div_nextWord 103 = .ok (.iload_n 3, 1) := by decide +kernel
theorem d_Div_nextWord_104 : decode b_Div_nextWord 104 = .ok (.lconst 0, 1) := by decide +kernel
theorem d_Div_nextWord_105 : decode b_Div_nextWord 105 = .ok (.invokestatic 61, 3) := by decide +kernel
theorem d_Div_nextWord_108 : decode b_Div_nextWord 108 = .ok (.ladd, 1) := by decide +kernel
theorem d_Div_nextWord_109 : decode b_Div_nextWord 109 = .ok (.lstore 9, 2) := by decide +kernel
theorem d_Div_nextWord_111 : decode b_Div_nextWord 111 = .ok (.aload_n 0, 1) := by decide +kernel
theorem d_Div_nextWord_112 : decode b_Div_nextWord 112 = .ok (.iload 4, 2) := by decide +kernel
theorem d_Div_nextWord_114 : decode b_Div_nextWord 114 = .ok (.lload 9, 2) := by decide +kernel
theorem d_Div_nextWord_116 : decode b_Div_nextWord 116 = .ok (.l2i, 1) := by decide +kernel
theorem d_Div_nextWord_117 : decode b_Div_nextWord 117 = .ok (.iastore, 1) := by decide +kernel
theorem d_Div_nextWord_118 : decode b_Div_nextWord 118 = .ok (.lload 7, 2) := by decide +kernel
theorem d_Div_nextWord_120 : decode b_Div_nextWord 120 = .ok (.l2i, 1) := by decide +kernel
theorem d_Div_nextWord_121 : decode b_Div_nextWord 121 = .ok (.ireturn, 1) := by decide +kernel
end
section
theorem d_Int_bitCount_0 : decode b_Int_bitCount 0 = .ok (.iload_n 0, 1) := by decide +kernel
theorem d_Int_bitCount_1 : decode b_Int_bitCount 1 = .ok (.iload_n 0, 1) := by decide +kernel
theorem d_Int_bitCount_2 : decode b_Int_bitCount 2 = .ok (.iconst 1, 1) := by decide +kernel
theorem d_Int_bitCount_3 : decode b_Int_bitCount 3 = .ok (.iushr, 1) := by decide +kernel
theorem d_Int_bitCount_4 : decode b_Int_bitCount 4 = .ok (.ldc_w 265, 3) := by decide +kernel
theorem d_Int_bitCount_7 : decode b_Int_bitCount 7 = .ok (.iand, 1) := by decide +kernel
theorem d_Int_bitCount_8 : decode b_Int_bitCount 8 = .ok (.isub, 1) := by decide +kernel
theorem d_Int_bitCount_9 : decode b_Int_bitCount 9 = .ok (.istore_n 0, 1) := by decide +kernel
theorem d_Int_bitCount_10 : decode b_Int_bitCount 10 = .ok (.iload_n 0, 1) := by decide +kernel
theorem d_Int_bitCount_11 : decode b_Int_bitCount 11 = .ok (.ldc_w 266, 3) := by decide +kernel
theorem d_Int_bitCount_14 : decode b_Int_bitCount 14 = .ok (.iand, 1) := by decide +kernel
theorem d_Int_bitCount_15 : decode b_Int_bitCount 15 = .ok (.iload_n 0, 1) := by decide +kernel
theorem d_Int_bitCount_16 : decode b_Int_bitCount 16 = .ok (.iconst 2, 1) := by decide +kernel
theorem d_Int_bitCount_17 : decode b_Int_bitCount 17 = .ok (.iushr, 1) := by decide +kernel
theorem d_Int_bitCount_18 : decode b_Int_bitCount 18 = .ok (.ldc_w 266, 3) := by decide +kernel
theorem d_Int_bitCount_21 : decode b_Int_bitCount 21 = .ok (.iand, 1) := by decide +kernel
theorem d_Int_bitCount_22 : decode b_Int_bitCount 22 = .ok (.iadd, 1) := by decide +kernel
theorem d_Int_bitCount_23 : decode b_Int_bitCount 23 = .ok (.istore_n 0, 1) := by decide +kernel
theorem d_Int_bitCount_24 : decode b_Int_bitCount 24 = .ok (.iload_n 0, 1) := by decide +kernel
theorem d_Int_bitCount_25 : decode b_Int_bitCount 25 = .ok (.iload_n 0, 1) := by decide +kernel
theorem d_Int_bitCount_26 : decode b_Int_bitCount 26 = .ok (.iconst 4, 1) := by decide +kernel
theorem d_Int_bitCount_27 : decode b_Int_bitCount 27 = .ok (.iushr, 1) := by decide +kernel
theorem d_Int_bitCount_28 : decode b_Int_bitCount 28 = .ok (.iadd, 1) := by decide +kernel
theorem d_Int_bitCount_29 : decode b_Int_bitCount 29 = .ok (.ldc_w 267, 3) := by decide +kernel
theorem d_Int_bitCount_32 : decode b_Int_bitCount 32 = .ok (.iand, 1) := by decide +kernel
theorem d_Int_bitCount_33 : decode b_Int_bitCount 33 = .ok (.istore_n 0, 1) := by decide +kernel
theorem d_Int_bitCount_34 : decode b_Int_bitCount 34 = .ok (.iload_n 0, 1) := by decide +kernel
theorem d_Int_bitCount_35 : decode b_Int_bitCount 35 = .ok (.iload_n 0, 1) := by decide +kernel
theorem d_Int_bitCount_36 : decode b_Int_bitCount 36 = .ok (.bipush 8, 2) := by decide +kernel
theorem d_Int_bitCount_38 : decode b_Int_bitCount 38 = .ok (.iushr, 1) := by decide +kernel
theorem d_Int_bitCount_39 : decode b_Int_bitCount 39 = .ok (.iadd, 1) := by decide +kernel
theorem d_Int_bitCount_40 : decode b_Int_bitCount 40 = .ok (.istore_n 0, 1) := by decide +kernel
theorem d_Int_bitCount_41 : decode b_Int_bitCount 41 = .ok (.iload_n 0, 1) := by decide +kernel
theorem d_Int_bitCount_42 : decode b_Int_bitCount 42 = .ok (.iload_n 0, 1) := by decide +kernel
theorem d_Int_bitCount_43 : decode b_Int_bitCount 43 = .ok (.bipush 16, 2) := by decide +kernel
theorem d_Int_bitCount_45 : decode b_Int_bitCount 45 = .ok (.iushr, 1) := by decide +kernel
theorem d_Int_bitCount_46 : decode b_Int_bitCount 46 = .ok (.iadd, 1) := by decide +kernel
theorem d_Int_bitCount_47 : decode b_Int_bitCount 47 = .ok (.istore_n 0, 1) := by decide +kernel
theorem d_Int_bitCount_48 : decode b_Int_bitCount 48 = .ok (.iload_n 0, 1) := by decide +kernel
theorem d_Int_bitCount_49 : decode b_Int_bitCount 49 = .ok (.bipush 63, 2) := by decide +kernel
theorem d_Int_bitCount_51 : decode b_Int_bitCount 51 = .ok (.iand, 1) := by decide +kernel
theorem d_Int_bitCount_52 : decode b_Int_bitCount 52 = .ok (.ireturn, 1) := by decide +kernel
theorem d_Int_numberOfLeadingZeros_0 : decode b_Int_numberOfLeadingZeros 0 = .ok (.iload_n 0, 1) := by decide +kernel
theorem d_Int_numberOfLeadingZeros_1 : decode b_Int_numberOfLeadingZeros 1 = .ok (.ifCond .gt 14, 3) := by decide +kernel
theorem d_Int_numberOfLeadingZeros_4 : decode b_Int_numberOfLeadingZeros 4 = .ok (.iload_n 0, 1) := by decide +kernel
theorem d_Int_numberOfLeadingZeros_5 : decode b_Int_numberOfLeadingZeros 5 = .ok (.ifCond .ne 8, 3) := by decide +kernel
theorem d_Int_numberOfLeadingZeros_8 : decode b_Int_numberOfLeadingZeros 8 = .ok (.bipush 32, 2) := by decide +kernel
theorem d_Int_numberOfLeadingZeros_10 : decode b_Int_numberOfLeadingZeros 10 = .ok (.goto 4, 3) := by decide +kernel
theorem d_Int_numberOfLeadingZeros_13 : decode b_Int_numberOfLeadingZeros 13 = .ok (.iconst 0, 1) := by decide +kernel
theorem d_Int_numberOfLeadingZeros_14 : decode b_Int_numberOfLeadingZeros 14 = .ok (.ireturn, 1) := by decide +kernel
theorem d_Int_numberOfLeadingZeros_15 : decode b_Int_numberOfLeadingZeros 15 = .ok (.bipush 31, 2) := by decide +kernel
theorem d_Int_numberOfLeadingZeros_17 : decode b_Int_numberOfLeadingZeros 17 = .ok (.istore_n 1, 1) := by decide +kernel
theorem d_Int_numberOfLeadingZeros_18 : decode b_Int_numberOfLeadingZeros 18 = .ok (.iload_n 0, 1) := by decide +kernel
theorem d_Int_numberOfLeadingZeros_19 : decode b_Int_numberOfLeadingZeros 19 = .ok (.ldc_w 264, 3) := by decide +kernel
theorem d_Int_numberOfLeadingZeros_22 : decode b_Int_numberOfLeadingZeros 22 = .ok (.if_icmp .lt 11, 3) := by decide +kernel
theorem d_Int_numberOfLeadingZeros_25 : decode b_Int_numberOfLeadingZeros 25 = .ok (.iinc 1 (-16), 3) := by decide +kernel
theorem d_Int_numberOfLeadingZeros_28 : decode b_Int_numberOfLeadingZeros 28 = .ok (.iload_n 0, 1) := by decide +kernel
theorem d_Int_numberOfLeadingZeros_29 : decode b_Int_numberOfLeadingZeros 29 = .ok (.bipush 16, 2) := by decide +kernel
theorem d_Int_numberOfLeadingZeros_31 : decode b_Int_numberOfLeadingZeros 31 = .ok (.iushr, 1) := by decide +kernel
theorem d_Int_numberOfLeadingZeros_32 : decode b_Int_numberOfLeadingZeros 32 = .ok (.istore_n 0, 1) := by decide +kernel
theorem d_Int_numberOfLeadingZeros_33 : decode b_Int_numberOfLeadingZeros 33 = .ok (.iload_n 0, 1) := by decide +kernel
theorem d_Int_numberOfLeadingZeros_34 : decode b_Int_numberOfLeadingZeros 34 = .ok (.sipush 256, 3) := by decide +kernel
theorem d_Int_numberOfLeadingZeros_37 : decode b_Int_numberOfLeadingZeros 37 = .ok (.if_icmp .lt 11, 3) := by decide +kernel
theorem d_Int_numberOfLeadingZeros_40 : decode b_Int_numberOfLeadingZeros 40 = .ok (.iinc 1 (-8), 3) := by decide +kernel
theorem d_Int_numberOfLeadingZeros_43 : decode b_Int_numberOfLeadingZeros 43 = .ok (.iload_n 0, 1) := by decide +kernel
theorem d_Int_numberOfLeadingZeros_44 : decode b_Int_numberOfLeadingZeros 44 = .ok (.bipush 8, 2) := by decide +kernel
theorem d_Int_numberOfLeadingZeros_46 : decode b_Int_numberOfLeadingZeros 46 = .ok (.iushr, 1) := by decide +kernel
theorem d_Int_numberOfLeadingZeros_47 : decode b_Int_numberOfLeadingZeros 47 = .ok (.istore_n 0, 1) := by decide +kernel
theorem d_Int_numberOfLeadingZeros_48 : decode b_Int_numberOfLeadingZeros 48 = .ok (.iload_n 0, 1) := by decide +kernel
theorem d_Int_numberOfLeadingZeros_49 : decode b_Int_numberOfLeadingZeros 49 = .ok (.bipush 16, 2) := by decide +kernel
theorem d_Int_numberOfLeadingZeros_51 : decode b_Int_numberOfLeadingZeros 51 = .ok (.if_icmp .lt 10, 3) := by decide +kernel
theorem d_Int_numberOfLeadingZeros_54 : decode b_Int_numberOfLeadingZeros 54 = .ok (.iinc 1 (-4), 3) := by decide +kernel
theorem d_Int_numberOfLeadingZeros_57 : decode b_Int_numberOfLeadingZeros 57 = .ok (.iload_n 0, 1) := by decide +kernel
theorem d_Int_numberOfLeadingZeros_58 : decode b_Int_numberOfLeadingZeros 58 = .ok (.iconst 4, 1) := by decide +kernel
theorem d_Int_numberOfLeadingZeros_59 : decode b_Int_numberOfLeadingZeros 59 = .ok (.iushr, 1) := by decide +kernel
theorem d_Int_numberOfLeadingZeros_60 : decode b_Int_numberOfLeadingZeros 60 = .ok (.istore_n 0, 1) := by decide +kernel
theorem d_Int_numberOfLeadingZeros_61 : decode b_Int_numberOfLeadingZeros 61 = .ok (.iload_n 0, 1) := by decide +kernel
theorem d_Int_numberOfLeadingZeros_62 : decode b_Int_numberOfLeadingZeros 62 = .ok (.iconst 4, 1) := by decide +kernel
theorem d_Int_numberOfLeadingZeros_63 : decode b_Int_numberOfLeadingZeros 63 = .ok (.if_icmp .lt 10, 3) := by decide +kernel
theorem d_Int_numberOfLeadingZeros_66 : decode b_Int_numberOfLeadingZeros 66 = .ok (.iinc 1 (-2), 3) := by decide +kernel
theorem d_Int_numberOfLeadingZeros_69 : decode b_Int_numberOfLeadingZeros 69 = .ok (.iload_n 0, 1) := by decide +kernel
theorem d_Int_numberOfLeadingZeros_70 : decode b_Int_numberOfLeadingZeros 70 = .ok (.iconst 2, 1) := by decide +kernel
theorem d_Int_numberOfLeadingZeros_71 : decode b_Int_numberOfLeadingZeros 71 = .ok (.iushr, 1) := by decide +kernel
theorem d_Int_numberOfLeadingZeros_72 : decode b_Int_numberOfLeadingZeros 72 = .ok (.istore_n 0, 1) := by decide +kernel
theorem d_Int_numberOfLeadingZeros_73 : decode b_Int_numberOfLeadingZeros 73 = .ok (.iload_n 1, 1) := by decide +kernel
theorem d_Int_numberOfLeadingZeros_74 : decode b_Int_numberOfLeadingZeros 74 = .ok (.iload_n 0, 1) := by decide +kernel
theorem d_Int_numberOfLeadingZeros_75 : decode b_Int_numberOfLeadingZeros 75 = .ok (.iconst 1, 1) := by decide +kernel
theorem d_Int_numberOfLeadingZeros_76 : decode b_Int_numberOfLeadingZeros 76 = .ok (.iushr, 1) := by decide +kernel
theorem d_Int_numberOfLeadingZeros_77 : decode b_Int_numberOfLeadingZeros 77 = .ok (.isub, 1) := by decide +kernel
theorem d_Int_numberOfLeadingZeros_78 : decode b_Int_numberOfLeadingZeros 78 = .ok (.ireturn, 1) := by decide +kernel
theorem d_Int_numberOfTrailingZeros_0 : decode b_Int_numberOfTrailingZeros 0 = .ok (.iload_n 0, 1) := by decide +kernel
theorem d_Int_numberOfTrailingZeros_1 : decode b_Int_numberOfTrailingZeros 1 = .ok (.iconst (-1), 1) := by decide +kernel
theorem d_Int_numberOfTrailingZeros_2 : decode b_Int_numberOfTrailingZeros 2 = .ok (.ixor, 1) := by decide +kernel
theorem d_Int_numberOfTrailingZeros_3 : decode b_Int_numberOfTrailingZeros 3 = .ok (.iload_n 0, 1) := by decide +kernel
theorem d_Int_numberOfTrailingZeros_4 : decode b_Int_numberOfTrailingZeros 4 = .ok (.iconst 1, 1) := by decide +kernel
theorem d_Int_numberOfTrailingZeros_5 : decode b_Int_numberOfTrailingZeros 5 = .ok (.isub, 1) := by decide +kernel
theorem d_Int_numberOfTrailingZeros_6 : decode b_Int_numberOfTrailingZeros 6 = .ok (.iand, 1) := by decide +kernel
theorem d_Int_numberOfTrailingZeros_7 : decode b_Int_numberOfTrailingZeros 7 = .ok (.istore_n 0, 1) := by decide +kernel
theorem d_Int_numberOfTrailingZeros_8 : decode b_Int_numberOfTrailingZeros 8 = .ok (.iload_n 0, 1) := by decide +kernel
theorem d_Int_numberOfTrailingZeros_9 : decode b_Int_numberOfTrailingZeros 9 = .ok (.ifCond .gt 8, 3) := by decide +kernel
theorem d_Int_numberOfTrailingZeros_12 : decode b_Int_numberOfTrailingZeros 12 = .ok (.iload_n 0, 1) := by decide +kernel
theorem d_Int_numberOfTrailingZeros_13 : decode b_Int_numberOfTrailingZeros 13 = .ok (.bipush 32, 2) := by decide +kernel
theorem d_Int_numberOfTrailingZeros_15 : decode b_Int_numberOfTrailingZeros 15 = .ok (.iand, 1) := by decide +kernel
theorem d_Int_numberOfTrailingZeros_16 : decode b_Int_numberOfTrailingZeros 16 = .ok (.ireturn, 1) := by decide +kernel
theorem d_Int_numberOfTrailingZeros_17 : decode b_Int_numberOfTrailingZeros 17 = .ok (.iconst 1, 1) := by decide +kernel
theorem d_Int_numberOfTrailingZeros_18 : decode b_Int_numberOfTrailingZeros 18 = .ok (.istore_n 1, 1) := by decide +kernel
theorem d_Int_numberOfTrailingZeros_19 : decode b_Int_numberOfTrailingZeros 19 = .ok (.iload_n 0, 1) := by decide +kernel
theorem d_Int_numberOfTrailingZeros_20 : decode b_Int_numberOfTrailingZeros 20 = .ok (.ldc_w 264, 3) := by decide +kernel
theorem d_Int_numberOfTrailingZeros_23 : decode b_Int_numberOfTrailingZeros 23 = .ok (.if_icmp .le 11, 3) := by decide +kernel
theorem d_Int_numberOfTrailingZeros_26 : decode b_Int_numberOfTrailingZeros 26 = .ok (.iinc 1 16, 3) := by decide +kernel
theorem d_Int_numberOfTrailingZeros_29 : decode b_Int_numberOfTrailingZeros 29 = .ok (.iload_n 0, 1) := by decide +kernel
theorem d_Int_numberOfTrailingZeros_30 : decode b_Int_numberOfTrailingZeros 30 = .ok (.bipush 16, 2) := by decide +kernel
theorem d_Int_numberOfTrailingZeros_32 : decode b_Int_numberOfTrailingZeros 32 = .ok (.iushr, 1) := by decide +kernel
theorem d_Int_numberOfTrailingZeros_33 : decode b_Int_numberOfTrailingZeros 33 = .ok (.istore_n 0, 1) := by decide +kernel
theorem d_Int_numberOfTrailingZeros_34 : decode b_Int_numberOfTrailingZeros 34 = .ok (.iload_n 0, 1) := by decide +kernel
theorem d_Int_numberOfTrailingZeros_35 : decode b_Int_numberOfTrailingZeros 35 = .ok (.sipush 256, 3) := by decide +kernel
theorem d_Int_numberOfTrailingZeros_38 : decode b_Int_numberOfTrailingZeros 38 = .ok (.if_icmp .le 11, 3) := by decide +kernel
theorem d_Int_numberOfTrailingZeros_41 : decode b_Int_numberOfTrailingZeros 41 = .ok (.iinc 1 8, 3) := by decide +kernel
theorem d_Int_numberOfTrailingZeros_44 : decode b_Int_numberOfTrailingZeros 44 = .ok (.iload_n 0, 1) := by decide +kernel
theorem d_Int_numberOfTrailingZeros_45 : decode b_Int_numberOfTrailingZeros 45 = .ok (.bipush 8, 2) := by decide +kernel
theorem d_Int_numberOfTrailingZeros_47 : decode b_Int_numberOfTrailingZeros 47 = .ok (.iushr, 1) := by decide +kernel
theorem d_Int_numberOfTrailingZeros_48 : decode b_Int_numberOfTrailingZeros 48 = .ok (.istore_n 0, 1) := by decide +kernel
theorem d_Int_numberOfTrailingZeros_49 : decode b_Int_numberOfTrailingZeros 49 = .ok (.iload_n 0, 1) := by decide +kernel
theorem d_Int_numberOfTrailingZeros_50 : decode b_Int_numberOfTrailingZeros 50 = .ok (.bipush 16, 2) := by decide +kernel
theorem d_Int_numberOfTrailingZeros_52 : decode b_Int_numberOfTrailingZeros 52 = .ok (.if_icmp .le 10, 3) := by decide +kernel
theorem d_Int_numberOfTrailingZeros_55 : decode b_Int_numberOfTrailingZeros 55 = .ok (.iinc 1 4, 3) := by decide +kernel
theorem d_Int_numberOfTrailingZeros_58 : decode b_Int_numberOfTrailingZeros 58 = .ok (.iload_n 0, 1) := by decide +kernel
theorem d_Int_numberOfTrailingZeros_59 : decode b_Int_numberOfTrailingZeros 59 = .ok (.iconst 4, 1) := by decide +kernel
theorem d_Int_numberOfTrailingZeros_60 : decode b_Int_numberOfTrailingZeros 60 = .ok (.iushr, 1) := by decide +kernel
theorem d_Int_numberOfTrailingZeros_61 : decode b_Int_numberOfTrailingZeros 61 = .ok (.istore_n 0, 1) := by decide +kernel
theorem d_Int_numberOfTrailingZeros_62 : decode b_Int_numberOfTrailingZeros 62 = .ok (.iload_n 0, 1) := by decide +kernel
theorem d_Int_numberOfTrailingZeros_63 : decode b_Int_numberOfTrailingZeros 63 = .ok (.iconst 4, 1) := by decide +kernel
theorem d_Int_numberOfTrailingZeros_64 : decode b_Int_numberOfTrailingZeros 64 = .ok (.if_icmp .le 10, 3) := by decide +kernel
theorem d_Int_numberOfTrailingZeros_67 : decode b_Int_numberOfTrailingZeros 67 = .ok (.iinc 1 2, 3) := by decide +kernel
theorem d_Int_numberOfTrailingZeros_70 : decode b_Int_numberOfTrailingZeros 70 = .ok (.iload_n 0, 1) := by decide +kernel
theorem d_Int_numberOfTrailingZeros_71 : decode b_Int_numberOfTrailingZeros 71 = .ok (.iconst 2, 1) := by decide +kernel
theorem d_Int_numberOfTrailingZeros_72 : decode b_Int_numberOfTrailingZeros 72 = .ok (.iushr, 1) := by decide +kernel
theorem d_Int_numberOfTrailingZeros_73 : decode b_Int_numberOfTrailingZeros 73 = .ok (.istore_n 0, 1) := by decide +kernel
theorem d_Int_numberOfTrailingZeros_74 : decode b_Int_numberOfTrailingZeros 74 = .ok (.iload_n 1, 1) := by decide +kernel
theorem d_Int_numberOfTrailingZeros_75 : decode b_Int_numberOfTrailingZeros 75 = .ok (.iload_n 0, 1) := by decide +kernel
theorem d_Int_numberOfTrailingZeros_76 : decode b_Int_numberOfTrailingZeros 76 = .ok (.iconst 1, 1) := by decide +kernel
theorem d_Int_numberOfTrailingZeros_77 : decode b_Int_numberOfTrailingZeros 77 = .ok (.iushr, 1) := by decide +kernel
theorem d_Int_numberOfTrailingZeros_78 : decode b_Int_numberOfTrailingZeros 78 = .ok (.iadd, 1) := by decide +kernel
theorem d_Int_numberOfTrailingZeros_79 : decode b_Int_numberOfTrailingZeros 79 = .ok (.ireturn, 1) := by decide +kernel
end
section
theorem d_Mill_add_0 : decode b_Mill_add 0 = .ok (.iload_n 1, 1) := by decide +kernel
theorem d_Mill_add_1 : decode b_Mill_add 1 = .ok (.invokestatic 26, 3) := by decide +kernel
theorem d_Mill_add_4 : decode b_Mill_add 4 = .ok (.ifCond .eq 17, 3) := by decide +kernel
theorem d_Mill_add_7 : decode b_Mill_add 7 = .ok (.iload_n 2, 1) := by decide +kernel
theorem d_Mill_add_8 : decode b_Mill_add 8 = .ok (.invokestatic 26, 3) := by decide +kernel
theorem d_Mill_add_11 : decode b_Mill_add 11 = .ok (.ifCond .eq 10, 3) := by decide +kernel
theorem d_Mill_add_14 : decode b_Mill_add 14 = .ok (.iload_n 3, 1) := by decide +kernel
theorem d_Mill_add_15 : decode b_Mill_add 15 = .ok (.invokestatic 26, 3) := by decide +kernel
theorem d_Mill_add_18 : decode b_Mill_add 18 = .ok (.ifCond .ne 5, 3) := by decide +kernel
theorem d_Mill_add_21 : decode b_Mill_add 21 = .ok (.iconst 0, 1) := by decide +kernel
theorem d_Mill_add_22 : decode b_Mill_add 22 = .ok (.ireturn, 1) := by decide +kernel
theorem d_Mill_add_23 : decode b_Mill_add 23 = .ok (.aload_n 0, 1) := by decide +kernel
theorem d_Mill_add_24 : decode b_Mill_add 24 = .ok (.getfield 16, 3) := by decide +kernel
theorem d_Mill_add_27 : decode b_Mill_add 27 = .ok (.aload_n 0, 1) := by decide +kernel
theorem d_Mill_add_28 : decode b_Mill_add 28 = .ok (.getfield 11, 3) := by decide +kernel
theorem d_Mill_add_31 : decode b_Mill_add 31 = .ok (.iload_n 2, 1) := by decide +kernel
theorem d_Mill_add_32 : decode b_Mill_add 32 = .ok (.aaload, 1) := by decide +kernel
theorem d_Mill_add_33 : decode b_Mill_add 33 = .ok (.aload_n 0, 1) := by decide +kernel
theorem d_Mill_add_34 : decode b_Mill_add 34 = .ok (.getfield 11, 3) := by decide +kernel
theorem d_Mill_add_37 : decode b_Mill_add 37 = .ok (.iload_n 3, 1) := by decide +kernel
theorem d_Mill_add_38 : decode b_Mill_add 38 = .ok (.aaload, 1) := by decide +kernel
theorem d_Mill_add_39 : decode b_Mill_add 39 = .ok (.invokevirtual 54, 3) := by decide +kernel
theorem d_Mill_add_42 : decode b_Mill_add 42 = .ok (.aload_n 0, 1) := by decide +kernel
theorem d_Mill_add_43 : decode b_Mill_add 43 = .ok (.iload_n 1, 1) := by decide +kernel
theorem d_Mill_add_44 : decode b_Mill_add 44 = .ok (.invokevirtual 43, 3) := by decide +kernel
theorem d_Mill_add_47 : decode b_Mill_add 47 = .ok (.ireturn, 1) := by decide +kernel
theorem d_Mill_bits_0 : decode b_Mill_bits 0 = .ok (.iload_n 1, 1) := by decide +kernel
theorem d_Mill_bits_1 : decode b_Mill_bits 1 = .ok (.invokestatic 26, 3) := by decide +kernel
theorem d_Mill_bits_4 : decode b_Mill_bits 4 = .ok (.ifCond .eq 15, 3) := by decide +kernel
theorem d_Mill_bits_7 : decode b_Mill_bits 7 = .ok (.aload_n 0, 1) := by decide +kernel
theorem d_Mill_bits_8 : decode b_Mill_bits 8 = .ok (.getfield 11, 3) := by decide +kernel
theorem d_Mill_bits_11 : decode b_Mill_bits 11 = .ok (.iload_n 1, 1) := by decide +kernel
theorem d_Mill_bits_12 : decode b_Mill_bits 12 = .ok (.aaload, 1) := by decide +kernel
theorem d_Mill_bits_13 : decode b_Mill_bits 13 = .ok (.invokevirtual 30, 3) := by decide +kernel
theorem d_Mill_bits_16 : decode b_Mill_bits 16 = .ok (.goto 4, 3) := by decide +kernel
theorem d_Mill_bits_19 : decode b_Mill_bits 19 = .ok (.iconst (-1), 1) := by decide +kernel
theorem d_Mill_bits_20 : decode b_Mill_bits 20 = .ok (.ireturn, 1) := by decide +kernel
theorem d_Mill_compare_0 : decode b_Mill_compare 0 = .ok (.iload_n 1, 1) := by decide +kernel
theorem d_Mill_compare_1 : decode b_Mill_compare 1 = .ok (.invokestatic 26, 3) := by decide +kernel
theorem d_Mill_compare_4 : decode b_Mill_compare 4 = .ok (.ifCond .eq 28, 3) := by decide +kernel
theorem d_Mill_compare_7 : decode b_Mill_compare 7 = .ok (.iload_n 2, 1) := by decide +kernel
theorem d_Mill_compare_8 : decode b_Mill_compare 8 = .ok (.invokestatic 26, 3) := by decide +kernel
theorem d_Mill_compare_11 : decode b_Mill_compare 11 = .ok (.ifCond .eq 21, 3) := by decide +kernel
theorem d_Mill_compare_14 : decode b_Mill_compare 14 = .ok (.aload_n 0, 1) := by decide +kernel
theorem d_Mill_compare_15 : decode b_Mill_compare 15 = .ok (.getfield 11, 3) := by decide +kernel
theorem d_Mill_compare_18 : decode b_Mill_compare 18 = .ok (.iload_n 1, 1) := by decide +kernel
theorem d_Mill_compare_19 : decode b_Mill_compare 19 = .ok (.aaload, 1) := by decide +kernel
theorem d_Mill_compare_20 : decode b_Mill_compare 20 = .ok (.aload_n 0, 1) := by decide +kernel
theorem d_Mill_compare_21 : decode b_Mill_compare 21 = .ok (.getfield 11, 3) := by decide +kernel
theorem d_Mill_compare_24 : decode b_Mill_compare 24 = .ok (.iload_n 2, 1) := by decide +kernel
theorem d_Mill_compare_25 : decode b_Mill_compare 25 = .ok (.aaload, 1) := by decide +kernel
theorem d_Mill_compare_26 : decode b_Mill_compare 26 = .ok (.invokevirtual 58, 3) := by decide +kernel
theorem d_Mill_compare_29 : decode b_Mill_compare 29 = .ok (.goto 5, 3) := by decide +kernel
theorem d_Mill_compare_32 : decode b_Mill_compare 32 = .ok (.bipush (-2), 2) := by decide +kernel
theorem d_Mill_compare_34 : decode b_Mill_compare 34 = .ok (.ireturn, 1) := by decide +kernel
theorem d_Mill_copy_0 : decode b_Mill_copy 0 = .ok (.iload_n 1, 1) := by decide +kernel
theorem d_Mill_copy_1 : decode b_Mill_copy 1 = .ok (.invokestatic 26, 3) := by decide +kernel
theorem d_Mill_copy_4 : decode b_Mill_copy 4 = .ok (.ifCond .eq 10, 3) := by decide +kernel
theorem d_Mill_copy_7 : decode b_Mill_copy 7 = .ok (.iload_n 2, 1) := by decide +kernel
theorem d_Mill_copy_8 : decode b_Mill_copy 8 = .ok (.invokestatic 26, 3) := by decide +kernel
theorem d_Mill_copy_11 : decode b_Mill_copy 11 = .ok (.ifCond .ne 5, 3) := by decide +kernel
theorem d_Mill_copy_14 : decode b_Mill_copy 14 = .ok (.iconst 0, 1) := by decide +kernel
theorem d_Mill_copy_15 : decode b_Mill_copy 15 = .ok (.ireturn, 1) := by decide +kernel
theorem d_Mill_copy_16 : decode b_Mill_copy 16 = .ok (.aload_n 0, 1) := by decide +kernel
theorem d_Mill_copy_17 : decode b_Mill_copy 17 = .ok (.getfield 11, 3) := by decide +kernel
theorem d_Mill_copy_20 : decode b_Mill_copy 20 = .ok (.iload_n 1, 1) := by decide +kernel
theorem d_Mill_copy_21 : decode b_Mill_copy 21 = .ok (.aaload, 1) := by decide +kernel
theorem d_Mill_copy_22 : decode b_Mill_copy 22 = .ok (.aload_n 0, 1) := by decide +kernel
theorem d_Mill_copy_23 : decode b_Mill_copy 23 = .ok (.getfield 11, 3) := by decide +kernel
theorem d_Mill_copy_26 : decode b_Mill_copy 26 = .ok (.iload_n 2, 1) := by decide +kernel
theorem d_Mill_copy_27 : decode b_Mill_copy 27 = .ok (.aaload, 1) := by decide +kernel
theorem d_Mill_copy_28 : decode b_Mill_copy 28 = .ok (.invokevirtual 50, 3) := by decide +kernel
theorem d_Mill_copy_31 : decode b_Mill_copy 31 = .ok (.iconst 1, 1) := by decide +kernel
theorem d_Mill_copy_32 : decode b_Mill_copy 32 = .ok (.ireturn, 1) := by decide +kernel
theorem d_Mill_divide_0 : decode b_Mill_divide 0 = .ok (.iload_n 1, 1) := by decide +kernel
theorem d_Mill_divide_1 : decode b_Mill_divide 1 = .ok (.invokestatic 26, 3) := by decide +kernel
theorem d_Mill_divide_4 : decode b_Mill_divide 4 = .ok (.ifCond .eq 25, 3) := by decide +kernel
theorem d_Mill_divide_7 : decode b_Mill_divide 7 = .ok (.iload_n 2, 1) := by decide +kernel
theorem d_Mill_divide_8 : decode b_Mill_divide 8 = .ok (.invokestatic 26, 3) := by decide +kernel
theorem d_Mill_divide_11 : decode b_Mill_divide 11 = .ok (.ifCond .eq 18, 3) := by decide +kernel
theorem d_Mill_divide_14 : decode b_Mill_divide 14 = .ok (.iload_n 3, 1) := by decide +kernel
theorem d_Mill_divide_15 : decode b_Mill_divide 15 = .ok (.invokestatic 26, 3) := by decide +kernel
theorem d_Mill_divide_18 : decode b_Mill_divide 18 = .ok (.ifCond .eq 11, 3) := by decide +kernel
theorem d_Mill_divide_21 : decode b_Mill_divide 21 = .ok (.iload 4, 2) := by decide +kernel
theorem d_Mill_divide_23 : decode b_Mill_divide 23 = .ok (.invokestatic 26, 3) := by decide +kernel
theorem d_Mill_divide_26 : decode b_Mill_divide 26 = .ok (.ifCond .ne 5, 3) := by decide +kernel
theorem d_Mill_divide_29 : decode b_Mill_divide 29 = .ok (.iconst 0, 1) := by decide +kernel
theorem d_Mill_divide_30 : decode b_Mill_divide 30 = .ok (.ireturn, 1) := by decide +kernel
theorem d_Mill_divide_31 : decode b_Mill_divide 31 = .ok (.iload_n 1, 1) := by decide +kernel
theorem d_Mill_divide_32 : decode b_Mill_divide 32 = .ok (.iload_n 2, 1) := by decide +kernel
theorem d_Mill_divide_33 : decode b_Mill_divide 33 = .ok (.if_icmp .eq 16, 3) := by decide +kernel
theorem d_Mill_divide_36 : decode b_Mill_divide 36 = .ok (.aload_n 0, 1) := by decide +kernel
theorem d_Mill_divide_37 : decode b_Mill_divide 37 = .ok (.getfield 11, 3) := by decide +kernel
theorem d_Mill_divide_40 : decode b_Mill_divide 40 = .ok (.iload 4, 2) := by decide +kernel
theorem d_Mill_divide_42 : decode b_Mill_divide 42 = .ok (.aaload, 1) := by decide +kernel
theorem d_Mill_divide_43 : decode b_Mill_divide 43 = .ok (.getfield 69, 3) := by decide +kernel
theorem d_Mill_divide_46 : decode b_Mill_divide 46 = .ok (.ifCond .ne 5, 3) := by decide +kernel
theorem d_Mill_divide_49 : decode b_Mill_divide 49 = .ok (.iconst 0, 1) := by decide +kernel
theorem d_Mill_divide_50 : decode b_Mill_divide 50 = .ok (.ireturn, 1) := by decide +kernel
theorem d_Mill_divide_51 : decode b_Mill_divide 51 = .ok (.aload_n 0, 1) := by decide +kernel
theorem d_Mill_divide_52 : decode b_Mill_divide 52 = .ok (.getfield 11, 3) := by decide +kernel
theorem d_Mill_divide_55 : decode b_Mill_divide 55 = .ok (.iload_n 3, 1) := by decide +kernel
theorem d_Mill_divide_56 : decode b_Mill_divide 56 = .ok (.aaload, 1) := by decide +kernel
theorem d_Mill_divide_57 : decode b_Mill_divide 57 = .ok (.aload_n 0, 1) := by decide +kernel
theorem d_Mill_divide_58 : decode b_Mill_divide 58 = .ok (.getfield 11, 3) := by decide +kernel
theorem d_Mill_divide_61 : decode b_Mill_divide 61 = .ok (.iload 4, 2) := by decide +kernel
theorem d_Mill_divide_63 : decode b_Mill_divide 63 = .ok (.aaload, 1) := by decide +kernel
theorem d_Mill_divide_64 : decode b_Mill_divide 64 = .ok (.aload_n 0, 1) := by decide +kernel
theorem d_Mill_divide_65 : decode b_Mill_divide 65 = .ok (.getfield 16, 3) := by decide +kernel
theorem d_Mill_divide_68 : decode b_Mill_divide 68 = .ok (.aload_n 0, 1) := by decide +kernel
theorem d_Mill_divide_69 : decode b_Mill_divide 69 = .ok (.getfield 20, 3) := by decide +kernel
theorem d_Mill_divide_72 : decode b_Mill_divide 72 = .ok (.aload_n 0, 1) := by decide +kernel
theorem d_Mill_divide_73 : decode b_Mill_divide 73 = .ok (.getfield 23, 3) := by decide +kernel
theorem d_Mill_divide_76 : decode b_Mill_divide 76 = .ok (.invokestatic 73, 3) := by decide +kernel
theorem d_Mill_divide_79 : decode b_Mill_divide 79 = .ok (.aload_n 0, 1) := by decide +kernel
theorem d_Mill_divide_80 : decode b_Mill_divide 80 = .ok (.getfield 11, 3) := by decide +kernel
theorem d_Mill_divide_83 : decode b_Mill_divide 83 = .ok (.iload_n 1, 1) := by decide +kernel
theorem d_Mill_divide_84 : decode b_Mill_divide 84 = .ok (.aaload, 1) := by decide +kernel
theorem d_Mill_divide_85 : decode b_Mill_divide 85 = .ok (.aload_n 0, 1) := by decide +kernel
theorem d_Mill_divide_86 : decode b_Mill_divide 86 = .ok (.getfield 16, 3) := by decide +kernel
theorem d_Mill_divide_89 : decode b_Mill_divide 89 = .ok (.invokevirtual 50, 3) := by decide +kernel
theorem d_Mill_divide_92 : decode b_Mill_divide 92 = .ok (.aload_n 0, 1) := by decide +kernel
theorem d_Mill_divide_93 : decode b_Mill_divide 93 = .ok (.getfield 11, 3) := by decide +kernel
theorem d_Mill_divide_96 : decode b_Mill_divide 96 = .ok (.iload_n 2, 1) := by decide +kernel
theorem d_Mill_divide_97 : decode b_Mill_divide 97 = .ok (.aaload, 1) := by decide +kernel
theorem d_Mill_divide_98 : decode b_Mill_divide 98 = .ok (.aload_n 0, 1) := by decide +kernel
theorem d_Mill_divide_99 : decode b_Mill_divide 99 = .ok (.getfield 20, 3) := by decide +kernel
theorem d_Mill_divide_102 : decode b_Mill_divide 102 = .ok (.invokevirtual 50, 3) := by decide +kernel
theorem d_Mill_divide_105 : decode b_Mill_divide 105 = .ok (.iconst 1, 1) := by decide +kernel
theorem d_Mill_divide_106 : decode b_Mill_divide 106 = .ok (.ireturn, 1) := by decide +kernel
theorem d_Mill_init_0 : decode b_Mill_init 0 = .ok (.aload_n 0, 1) := by decide +kernel
theorem d_Mill_init_1 : decode b_Mill_init 1 = .ok (.invokespecial 1, 3) := by decide +kernel
theorem d_Mill_init_4 : decode b_Mill_init 4 = .ok (.aload_n 0, 1) := by decide +kernel
theorem d_Mill_init_5 : decode b_Mill_init 5 = .ok (.bipush 16, 2) := by decide +kernel
theorem d_Mill_init_7 : decode b_Mill_init 7 = .ok (.anewarray 9, 3) := by decide +kernel
theorem d_Mill_init_10 : decode b_Mill_init 10 = .ok (.putfield 11, 3) := by decide +kernel
theorem d_Mill_init_13 : decode b_Mill_init 13 = .ok (.iconst 0, 1) := by decide +kernel
theorem d_Mill_init_14 : decode b_Mill_init 14 = .ok (.istore_n 1, 1) := by decide +kernel
theorem d_Mill_init_15 : decode b_Mill_init 15 = .ok (.iload_n 1, 1) := by decide +kernel
theorem d_Mill_init_16 : decode b_Mill_init 16 = .ok (.bipush 16, 2) := by decide +kernel
theorem d_Mill_init_18 : decode b_Mill_init 18 = .ok (.if_icmp .ge 22, 3) := by decide +kernel
theorem d_Mill_init_21 : decode b_Mill_init 21 = .ok (.aload_n 0, 1) := by decide +kernel
theorem d_Mill_init_22 : decode b_Mill_init 22 = .ok (.getfield 11, 3) := by decide +kernel
theorem d_Mill_init_25 : decode b_Mill_init 25 = .ok (.iload_n 1, 1) := by decide +kernel
theorem d_Mill_init_26 : decode b_Mill_init 26 = .ok (.new 9, 3) := by decide +kernel
theorem d_Mill_init_29 : decode b_Mill_init 29 = .ok (.dup, 1) := by decide +kernel
theorem d_Mill_init_30 : decode b_Mill_init 30 = .ok (.invokespecial 15, 3) := by decide +kernel
theorem d_Mill_init_33 : decode b_Mill_init 33 = .ok (.aastore, 1) := by decide +kernel
theorem d_Mill_init_34 : decode b_Mill_init 34 = .ok (.iinc 1 1, 3) := by decide +kernel
theorem d_Mill_init_37 : decode b_Mill_init 37 = .ok (.goto (-22), 3) := by decide +kernel
theorem d_Mill_init_40 : decode b_Mill_init 40 = .ok (.aload_n 0, 1) := by decide +kernel
theorem d_Mill_init_41 : decode b_Mill_init 41 = .ok (.new 9, 3) := by decide +kernel
theorem d_Mill_init_44 : decode b_Mill_init 44 = .ok (.dup, 1) := by decide +kernel
theorem d_Mill_init_45 : decode b_Mill_init 45 = .ok (.invokespecial 15, 3) := by decide +kernel
theorem d_Mill_init_48 : decode b_Mill_init 48 = .ok (.putfield 16, 3) := by decide +kernel
theorem d_Mill_init_51 : decode b_Mill_init 51 = .ok (.aload_n 0, 1) := by decide +kernel
theorem d_Mill_init_52 : decode b_Mill_init 52 = .ok (.new 9, 3) := by decide +kernel
theorem d_Mill_init_55 : decode b_Mill_init 55 = .ok (.dup, 1) := by decide +kernel
theorem d_Mill_init_56 : decode b_Mill_init 56 = .ok (.invokespecial 15, 3) := by decide +kernel
theorem d_Mill_init_59 : decode b_Mill_init 59 = .ok (.putfield 20, 3) := by decide +kernel
theorem d_Mill_init_62 : decode b_Mill_init 62 = .ok (.aload_n 0, 1) := by decide +kernel
theorem d_Mill_init_63 : decode b_Mill_init 63 = .ok (.new 9, 3) := by decide +kernel
theorem d_Mill_init_66 : decode b_Mill_init 66 = .ok (.dup, 1) := by decide +kernel
theorem d_Mill_init_67 : decode b_Mill_init 67 = .ok (.invokespecial 15, 3) := by decide +kernel
theorem d_Mill_init_70 : decode b_Mill_init 70 = .ok (.putfield 23, 3) := by decide +kernel
theorem d_Mill_init_73 : decode b_Mill_init 73 = .ok (.return_, 1) := by decide +kernel
theorem d_Mill_isRegister_0 : decode b_Mill_isRegister 0 = .ok (.iload_n 0, 1) := by decide +kernel
theorem d_Mill_isRegister_1 : decode b_Mill_isRegister 1 = .ok (.ifCond .lt 13, 3) := by decide +kernel
theorem d_Mill_isRegister_4 : decode b_Mill_isRegister 4 = .ok (.iload_n 0, 1) := by decide +kernel
theorem d_Mill_isRegister_5 : decode b_Mill_isRegister 5 = .ok (.bipush 16, 2) := by decide +kernel
theorem d_Mill_isRegister_7 : decode b_Mill_isRegister 7 = .ok (.if_icmp .ge 7, 3) := by decide +kernel
theorem d_Mill_isRegister_10 : decode b_Mill_isRegister 10 = .ok (.iconst 1, 1) := by decide +kernel
theorem d_Mill_isRegister_11 : decode b_Mill_isRegister 11 = .ok (.goto 4, 3) := by decide +kernel
theorem d_Mill_isRegister_14 : decode b_Mill_isRegister 14 = .ok (.iconst 0, 1) := by decide +kernel
theorem d_Mill_isRegister_15 : decode b_Mill_isRegister 15 = .ok (.ireturn, 1) := by decide +kernel
theorem d_Mill_keepResult_0 : decode b_Mill_keepResult 0 = .ok (.aload_n 0, 1) := by decide +kernel
theorem d_Mill_keepResult_1 : decode b_Mill_keepResult 1 = .ok (.getfield 16, 3) := by decide +kernel
theorem d_Mill_keepResult_4 : decode b_Mill_keepResult 4 = .ok (.invokevirtual 30, 3) := by decide +kernel
theorem d_Mill_keepResult_7 : decode b_Mill_keepResult 7 = .ok (.ldc 85, 2) := by decide +kernel
theorem d_Mill_keepResult_9 : decode b_Mill_keepResult 9 = .ok (.if_icmp .le 5, 3) := by decide +kernel
theorem d_Mill_keepResult_12 : decode b_Mill_keepResult 12 = .ok (.iconst 0, 1) := by decide +kernel
theorem d_Mill_keepResult_13 : decode b_Mill_keepResult 13 = .ok (.ireturn, 1) := by decide +kernel
theorem d_Mill_keepResult_14 : decode b_Mill_keepResult 14 = .ok (.aload_n 0, 1) := by decide +kernel
theorem d_Mill_keepResult_15 : decode b_Mill_keepResult 15 = .ok (.getfield 11, 3) := by decide +kernel
theorem d_Mill_keepResult_18 : decode b_Mill_keepResult 18 = .ok (.iload_n 1, 1) := by decide +kernel
theorem d_Mill_keepResult_19 : decode b_Mill_keepResult 19 = .ok (.aaload, 1) := by decide +kernel
theorem d_Mill_keepResult_20 : decode b_Mill_keepResult 20 = .ok (.aload_n 0, 1) := by decide +kernel
theorem d_Mill_keepResult_21 : decode b_Mill_keepResult 21 = .ok (.getfield 16, 3) := by decide +kernel
theorem d_Mill_keepResult_24 : decode b_Mill_keepResult 24 = .ok (.invokevirtual 50, 3) := by decide +kernel
theorem d_Mill_keepResult_27 : decode b_Mill_keepResult 27 = .ok (.iconst 1, 1) := by decide +kernel
theorem d_Mill_keepResult_28 : decode b_Mill_keepResult 28 = .ok (.ireturn, 1) := by decide +kernel
theorem d_Mill_lowest_0 : decode b_Mill_lowest 0 = .ok (.iload_n 1, 1) := by decide +kernel
theorem d_Mill_lowest_1 : decode b_Mill_lowest 1 = .ok (.invokestatic 26, 3) := by decide +kernel
theorem d_Mill_lowest_4 : decode b_Mill_lowest 4 = .ok (.ifCond .eq 15, 3) := by decide +kernel
theorem d_Mill_lowest_7 : decode b_Mill_lowest 7 = .ok (.aload_n 0, 1) := by decide +kernel
theorem d_Mill_lowest_8 : decode b_Mill_lowest 8 = .ok (.getfield 11, 3) := by decide +kernel
theorem d_Mill_lowest_11 : decode b_Mill_lowest 11 = .ok (.iload_n 1, 1) := by decide +kernel
theorem d_Mill_lowest_12 : decode b_Mill_lowest 12 = .ok (.aaload, 1) := by decide +kernel
theorem d_Mill_lowest_13 : decode b_Mill_lowest 13 = .ok (.invokevirtual 110, 3) := by decide +kernel
theorem d_Mill_lowest_16 : decode b_Mill_lowest 16 = .ok (.goto 4, 3) := by decide +kernel
theorem d_Mill_lowest_19 : decode b_Mill_lowest 19 = .ok (.iconst (-1), 1) := by decide +kernel
theorem d_Mill_lowest_20 : decode b_Mill_lowest 20 = .ok (.ireturn, 1) := by decide +kernel
theorem d_Mill_ones_0 : decode b_Mill_ones 0 = .ok (.iload_n 1, 1) := by decide +kernel
theorem d_Mill_ones_1 : decode b_Mill_ones 1 = .ok (.invokestatic 26, 3) := by decide +kernel
theorem d_Mill_ones_4 : decode b_Mill_ones 4 = .ok (.ifCond .eq 15, 3) := by decide +kernel
theorem d_Mill_ones_7 : decode b_Mill_ones 7 = .ok (.aload_n 0, 1) := by decide +kernel
theorem d_Mill_ones_8 : decode b_Mill_ones 8 = .ok (.getfield 11, 3) := by decide +kernel
theorem d_Mill_ones_11 : decode b_Mill_ones 11 = .ok (.iload_n 1, 1) := by decide +kernel
theorem d_Mill_ones_12 : decode b_Mill_ones 12 = .ok (.aaload, 1) := by decide +kernel
theorem d_Mill_ones_13 : decode b_Mill_ones 13 = .ok (.invokevirtual 107, 3) := by decide +kernel
theorem d_Mill_ones_16 : decode b_Mill_ones 16 = .ok (.goto 4, 3) := by decide +kernel
theorem d_Mill_ones_19 : decode b_Mill_ones 19 = .ok (.iconst (-1), 1) := by decide +kernel
theorem d_Mill_ones_20 : decode b_Mill_ones 20 = .ok (.ireturn, 1) := by decide +kernel
theorem d_Mill_part_0 : decode b_Mill_part 0 = .ok (.iload_n 1, 1) := by decide +kernel
theorem d_Mill_part_1 : decode b_Mill_part 1 = .ok (.invokestatic 26, 3) := by decide +kernel
theorem d_Mill_part_4 : decode b_Mill_part 4 = .ok (.ifCond .eq 19, 3) := by decide +kernel
theorem d_Mill_part_7 : decode b_Mill_part 7 = .ok (.iload_n 2, 1) := by decide +kernel
theorem d_Mill_part_8 : decode b_Mill_part 8 = .ok (.invokestatic 26, 3) := by decide +kernel
theorem d_Mill_part_11 : decode b_Mill_part 11 = .ok (.ifCond .eq 12, 3) := by decide +kernel
theorem d_Mill_part_14 : decode b_Mill_part 14 = .ok (.iload_n 3, 1) := by decide +kernel
theorem d_Mill_part_15 : decode b_Mill_part 15 = .ok (.ifCond .lt 8, 3) := by decide +kernel
theorem d_Mill_part_18 : decode b_Mill_part 18 = .ok (.iload 4, 2) := by decide +kernel
theorem d_Mill_part_20 : decode b_Mill_part 20 = .ok (.ifCond .ge 5, 3) := by decide +kernel
theorem d_Mill_part_23 : decode b_Mill_part 23 = .ok (.iconst 0, 1) := by decide +kernel
theorem d_Mill_part_24 : decode b_Mill_part 24 = .ok (.ireturn, 1) := by decide +kernel
theorem d_Mill_part_25 : decode b_Mill_part 25 = .ok (.aload_n 0, 1) := by decide +kernel
theorem d_Mill_part_26 : decode b_Mill_part 26 = .ok (.getfield 16, 3) := by decide +kernel
theorem d_Mill_part_29 : decode b_Mill_part 29 = .ok (.aload_n 0, 1) := by decide +kernel
theorem d_Mill_part_30 : decode b_Mill_part 30 = .ok (.getfield 11, 3) := by decide +kernel
theorem d_Mill_part_33 : decode b_Mill_part 33 = .ok (.iload_n 2, 1) := by decide +kernel
theorem d_Mill_part_34 : decode b_Mill_part 34 = .ok (.aaload, 1) := by decide +kernel
theorem d_Mill_part_35 : decode b_Mill_part 35 = .ok (.iload_n 3, 1) := by decide +kernel
theorem d_Mill_part_36 : decode b_Mill_part 36 = .ok (.ldc 85, 2) := by decide +kernel
theorem d_Mill_part_38 : decode b_Mill_part 38 = .ok (.invokestatic 95, 3) := by decide +kernel
theorem d_Mill_part_41 : decode b_Mill_part 41 = .ok (.invokevirtual 92, 3) := by decide +kernel
theorem d_Mill_part_44 : decode b_Mill_part 44 = .ok (.aload_n 0, 1) := by decide +kernel
theorem d_Mill_part_45 : decode b_Mill_part 45 = .ok (.getfield 16, 3) := by decide +kernel
theorem d_Mill_part_48 : decode b_Mill_part 48 = .ok (.iload 4, 2) := by decide +kernel
theorem d_Mill_part_50 : decode b_Mill_part 50 = .ok (.invokevirtual 99, 3) := by decide +kernel
theorem d_Mill_part_53 : decode b_Mill_part 53 = .ok (.aload_n 0, 1) := by decide +kernel
theorem d_Mill_part_54 : decode b_Mill_part 54 = .ok (.iload_n 1, 1) := by decide +kernel
theorem d_Mill_part_55 : decode b_Mill_part 55 = .ok (.invokevirtual 43, 3) := by decide +kernel
theorem d_Mill_part_58 : decode b_Mill_part 58 = .ok (.ireturn, 1) := by decide +kernel
theorem d_Mill_push_0 : decode b_Mill_push 0 = .ok (.iload_n 1, 1) := by decide +kernel
theorem d_Mill_push_1 : decode b_Mill_push 1 = .ok (.invokestatic 26, 3) := by decide +kernel
theorem d_Mill_push_4 : decode b_Mill_push 4 = .ok (.ifCond .eq 17, 3) := by decide +kernel
theorem d_Mill_push_7 : decode b_Mill_push 7 = .ok (.aload_n 0, 1) := by decide +kernel
theorem d_Mill_push_8 : decode b_Mill_push 8 = .ok (.getfield 11, 3) := by decide +kernel
theorem d_Mill_push_11 : decode b_Mill_push 11 = .ok (.iload_n 1, 1) := by decide +kernel
theorem d_Mill_push_12 : decode b_Mill_push 12 = .ok (.aaload, 1) := by decide +kernel
theorem d_Mill_push_13 : decode b_Mill_push 13 = .ok (.invokevirtual 30, 3) := by decide +kernel
theorem d_Mill_push_16 : decode b_Mill_push 16 = .ok (.ldc 34, 2) := by decide +kernel
theorem d_Mill_push_18 : decode b_Mill_push 18 = .ok (.if_icmp .le 5, 3) := by decide +kernel
theorem d_Mill_push_21 : decode b_Mill_push 21 = .ok (.iconst 0, 1) := by decide +kernel
theorem d_Mill_push_22 : decode b_Mill_push 22 = .ok (.ireturn, 1) := by decide +kernel
theorem d_Mill_push_23 : decode b_Mill_push 23 = .ok (.aload_n 0, 1) := by decide +kernel
theorem d_Mill_push_24 : decode b_Mill_push 24 = .ok (.getfield 16, 3) := by decide +kernel
theorem d_Mill_push_27 : decode b_Mill_push 27 = .ok (.aload_n 0, 1) := by decide +kernel
theorem d_Mill_push_28 : decode b_Mill_push 28 = .ok (.getfield 11, 3) := by decide +kernel
theorem d_Mill_push_31 : decode b_Mill_push 31 = .ok (.iload_n 1, 1) := by decide +kernel
theorem d_Mill_push_32 : decode b_Mill_push 32 = .ok (.aaload, 1) := by decide +kernel
theorem d_Mill_push_33 : decode b_Mill_push 33 = .ok (.bipush 64, 2) := by decide +kernel
theorem d_Mill_push_35 : decode b_Mill_push 35 = .ok (.invokevirtual 35, 3) := by decide +kernel
theorem d_Mill_push_38 : decode b_Mill_push 38 = .ok (.aload_n 0, 1) := by decide +kernel
theorem d_Mill_push_39 : decode b_Mill_push 39 = .ok (.getfield 16, 3) := by decide +kernel
theorem d_Mill_push_42 : decode b_Mill_push 42 = .ok (.lload_n 2, 1) := by decide +kernel
theorem d_Mill_push_43 : decode b_Mill_push 43 = .ok (.invokevirtual 39, 3) := by decide +kernel
theorem d_Mill_push_46 : decode b_Mill_push 46 = .ok (.aload_n 0, 1) := by decide +kernel
theorem d_Mill_push_47 : decode b_Mill_push 47 = .ok (.iload_n 1, 1) := by decide +kernel
theorem d_Mill_push_48 : decode b_Mill_push 48 = .ok (.invokevirtual 43, 3) := by decide +kernel
theorem d_Mill_push_51 : decode b_Mill_push 51 = .ok (.ireturn, 1) := by decide +kernel
theorem d_Mill_rest_0 : decode b_Mill_rest 0 = .ok (.iload_n 1, 1) := by decide +kernel
theorem d_Mill_rest_1 : decode b_Mill_rest 1 = .ok (.invokestatic 26, 3) := by decide +kernel
theorem d_Mill_rest_4 : decode b_Mill_rest 4 = .ok (.ifCond .eq 21, 3) := by decide +kernel
theorem d_Mill_rest_7 : decode b_Mill_rest 7 = .ok (.iload_n 2, 1) := by decide +kernel
theorem d_Mill_rest_8 : decode b_Mill_rest 8 = .ok (.iconst 1, 1) := by decide +kernel
theorem d_Mill_rest_9 : decode b_Mill_rest 9 = .ok (.if_icmp .lt 16, 3) := by decide +kernel
theorem d_Mill_rest_12 : decode b_Mill_rest 12 = .ok (.aload_n 0, 1) := by decide +kernel
theorem d_Mill_rest_13 : decode b_Mill_rest 13 = .ok (.getfield 11, 3) := by decide +kernel
theorem d_Mill_rest_16 : decode b_Mill_rest 16 = .ok (.iload_n 1, 1) := by decide +kernel
theorem d_Mill_rest_17 : decode b_Mill_rest 17 = .ok (.aaload, 1) := by decide +kernel
theorem d_Mill_rest_18 : decode b_Mill_rest 18 = .ok (.iload_n 2, 1) := by decide +kernel
theorem d_Mill_rest_19 : decode b_Mill_rest 19 = .ok (.invokevirtual 113, 3) := by decide +kernel
theorem d_Mill_rest_22 : decode b_Mill_rest 22 = .ok (.goto 4, 3) := by decide +kernel
theorem d_Mill_rest_25 : decode b_Mill_rest 25 = .ok (.iconst (-1), 1) := by decide +kernel
theorem d_Mill_rest_26 : decode b_Mill_rest 26 = .ok (.ireturn, 1) := by decide +kernel
theorem d_Mill_root_0 : decode b_Mill_root 0 = .ok (.iload_n 1, 1) := by decide +kernel
theorem d_Mill_root_1 : decode b_Mill_root 1 = .ok (.invokestatic 26, 3) := by decide +kernel
theorem d_Mill_root_4 : decode b_Mill_root 4 = .ok (.ifCond .eq 22, 3) := by decide +kernel
theorem d_Mill_root_7 : decode b_Mill_root 7 = .ok (.iload_n 2, 1) := by decide +kernel
theorem d_Mill_root_8 : decode b_Mill_root 8 = .ok (.invokestatic 26, 3) := by decide +kernel
theorem d_Mill_root_11 : decode b_Mill_root 11 = .ok (.ifCond .eq 15, 3) := by decide +kernel
theorem d_Mill_root_14 : decode b_Mill_root 14 = .ok (.iload_n 3, 1) := by decide +kernel
theorem d_Mill_root_15 : decode b_Mill_root 15 = .ok (.invokestatic 26, 3) := by decide +kernel
theorem d_Mill_root_18 : decode b_Mill_root 18 = .ok (.ifCond .eq 8, 3) := by decide +kernel
theorem d_Mill_root_21 : decode b_Mill_root 21 = .ok (.iload_n 1, 1) := by decide +kernel
theorem d_Mill_root_22 : decode b_Mill_root 22 = .ok (.iload_n 2, 1) := by decide +kernel
theorem d_Mill_root_23 : decode b_Mill_root 23 = .ok (.if_icmp .ne 5, 3) := by decide +kernel
theorem d_Mill_root_26 : decode b_Mill_root 26 = .ok (.iconst 0, 1) := by decide +kernel
theorem d_Mill_root_27 : decode b_Mill_root 27 = .ok (.ireturn, 1) := by decide +kernel
theorem d_Mill_root_28 : decode b_Mill_root 28 = .ok (.aload_n 0, 1) := by decide +kernel
theorem d_Mill_root_29 : decode b_Mill_root 29 = .ok (.getfield 11, 3) := by decide +kernel
theorem d_Mill_root_32 : decode b_Mill_root 32 = .ok (.iload_n 3, 1) := by decide +kernel
theorem d_Mill_root_33 : decode b_Mill_root 33 = .ok (.aaload, 1) := by decide +kernel
theorem d_Mill_root_34 : decode b_Mill_root 34 = .ok (.aload_n 0, 1) := by decide +kernel
theorem d_Mill_root_35 : decode b_Mill_root 35 = .ok (.getfield 16, 3) := by decide +kernel
theorem d_Mill_root_38 : decode b_Mill_root 38 = .ok (.aload_n 0, 1) := by decide +kernel
theorem d_Mill_root_39 : decode b_Mill_root 39 = .ok (.getfield 20, 3) := by decide +kernel
theorem d_Mill_root_42 : decode b_Mill_root 42 = .ok (.aload_n 0, 1) := by decide +kernel
theorem d_Mill_root_43 : decode b_Mill_root 43 = .ok (.getfield 23, 3) := by decide +kernel
theorem d_Mill_root_46 : decode b_Mill_root 46 = .ok (.invokestatic 79, 3) := by decide +kernel
theorem d_Mill_root_49 : decode b_Mill_root 49 = .ok (.aload_n 0, 1) := by decide +kernel
theorem d_Mill_root_50 : decode b_Mill_root 50 = .ok (.getfield 11, 3) := by decide +kernel
theorem d_Mill_root_53 : decode b_Mill_root 53 = .ok (.iload_n 1, 1) := by decide +kernel
theorem d_Mill_root_54 : decode b_Mill_root 54 = .ok (.aaload, 1) := by decide +kernel
theorem d_Mill_root_55 : decode b_Mill_root 55 = .ok (.aload_n 0, 1) := by decide +kernel
theorem d_Mill_root_56 : decode b_Mill_root 56 = .ok (.getfield 16, 3) := by decide +kernel
theorem d_Mill_root_59 : decode b_Mill_root 59 = .ok (.invokevirtual 50, 3) := by decide +kernel
theorem d_Mill_root_62 : decode b_Mill_root 62 = .ok (.aload_n 0, 1) := by decide +kernel
theorem d_Mill_root_63 : decode b_Mill_root 63 = .ok (.getfield 11, 3) := by decide +kernel
theorem d_Mill_root_66 : decode b_Mill_root 66 = .ok (.iload_n 2, 1) := by decide +kernel
theorem d_Mill_root_67 : decode b_Mill_root 67 = .ok (.aaload, 1) := by decide +kernel
theorem d_Mill_root_68 : decode b_Mill_root 68 = .ok (.aload_n 0, 1) := by decide +kernel
theorem d_Mill_root_69 : decode b_Mill_root 69 = .ok (.getfield 20, 3) := by decide +kernel
theorem d_Mill_root_72 : decode b_Mill_root 72 = .ok (.invokevirtual 50, 3) := by decide +kernel
theorem d_Mill_root_75 : decode b_Mill_root 75 = .ok (.iconst 1, 1) := by decide +kernel
theorem d_Mill_root_76 : decode b_Mill_root 76 = .ok (.ireturn, 1) := by decide +kernel
theorem d_Mill_shift_0 : decode b_Mill_shift 0 = .ok (.iload_n 1, 1) := by decide +kernel
theorem d_Mill_shift_1 : decode b_Mill_shift 1 = .ok (.invokestatic 26, 3) := by decide +kernel
theorem d_Mill_shift_4 : decode b_Mill_shift 4 = .ok (.ifCond .eq 10, 3) := by decide +kernel
theorem d_Mill_shift_7 : decode b_Mill_shift 7 = .ok (.iload_n 2, 1) := by decide +kernel
theorem d_Mill_shift_8 : decode b_Mill_shift 8 = .ok (.invokestatic 26, 3) := by decide +kernel
theorem d_Mill_shift_11 : decode b_Mill_shift 11 = .ok (.ifCond .ne 5, 3) := by decide +kernel
theorem d_Mill_shift_14 : decode b_Mill_shift 14 = .ok (.iconst 0, 1) := by decide +kernel
theorem d_Mill_shift_15 : decode b_Mill_shift 15 = .ok (.ireturn, 1) := by decide +kernel
theorem d_Mill_shift_16 : decode b_Mill_shift 16 = .ok (.iload_n 3, 1) := by decide +kernel
theorem d_Mill_shift_17 : decode b_Mill_shift 17 = .ok (.ifCond .le 15, 3) := by decide +kernel
theorem d_Mill_shift_20 : decode b_Mill_shift 20 = .ok (.aload_n 0, 1) := by decide +kernel
theorem d_Mill_shift_21 : decode b_Mill_shift 21 = .ok (.getfield 11, 3) := by decide +kernel
theorem d_Mill_shift_24 : decode b_Mill_shift 24 = .ok (.iload_n 2, 1) := by decide +kernel
theorem d_Mill_shift_25 : decode b_Mill_shift 25 = .ok (.aaload, 1) := by decide +kernel
theorem d_Mill_shift_26 : decode b_Mill_shift 26 = .ok (.getfield 69, 3) := by decide +kernel
theorem d_Mill_shift_29 : decode b_Mill_shift 29 = .ok (.ifCond .ne 37, 3) := by decide +kernel
theorem d_Mill_shift_32 : decode b_Mill_shift 32 = .ok (.aload_n 0, 1) := by decide +kernel
theorem d_Mill_shift_33 : decode b_Mill_shift 33 = .ok (.getfield 16, 3) := by decide +kernel
theorem d_Mill_shift_36 : decode b_Mill_shift 36 = .ok (.aload_n 0, 1) := by decide +kernel
theorem d_Mill_shift_37 : decode b_Mill_shift 37 = .ok (.getfield 11, 3) := by decide +kernel
theorem d_Mill_shift_40 : decode b_Mill_shift 40 = .ok (.iload_n 2, 1) := by decide +kernel
theorem d_Mill_shift_41 : decode b_Mill_shift 41 = .ok (.aaload, 1) := by decide +kernel
theorem d_Mill_shift_42 : decode b_Mill_shift 42 = .ok (.iload_n 3, 1) := by decide +kernel
theorem d_Mill_shift_43 : decode b_Mill_shift 43 = .ok (.ldc 84, 2) := by decide +kernel
theorem d_Mill_shift_45 : decode b_Mill_shift 45 = .ok (.if_icmp .gt 8, 3) := by decide +kernel
theorem d_Mill_shift_48 : decode b_Mill_shift 48 = .ok (.ldc 85, 2) := by decide +kernel
theorem d_Mill_shift_50 : decode b_Mill_shift 50 = .ok (.goto 7, 3) := by decide +kernel
theorem d_Mill_shift_53 : decode b_Mill_shift 53 = .ok (.iload_n 3, 1) := by decide +kernel
theorem d_Mill_shift_54 : decode b_Mill_shift 54 = .ok (.invokestatic 86, 3) := by decide +kernel
theorem d_Mill_shift_57 : decode b_Mill_shift 57 = .ok (.invokevirtual 92, 3) := by decide +kernel
theorem d_Mill_shift_60 : decode b_Mill_shift 60 = .ok (.aload_n 0, 1) := by decide +kernel
theorem d_Mill_shift_61 : decode b_Mill_shift 61 = .ok (.iload_n 1, 1) := by decide +kernel
theorem d_Mill_shift_62 : decode b_Mill_shift 62 = .ok (.invokevirtual 43, 3) := by decide +kernel
theorem d_Mill_shift_65 : decode b_Mill_shift 65 = .ok (.ireturn, 1) := by decide +kernel
theorem d_Mill_shift_66 : decode b_Mill_shift 66 = .ok (.iload_n 3, 1) := by decide +kernel
theorem d_Mill_shift_67 : decode b_Mill_shift 67 = .ok (.ldc 85, 2) := by decide +kernel
theorem d_Mill_shift_69 : decode b_Mill_shift 69 = .ok (.aload_n 0, 1) := by decide +kernel
theorem d_Mill_shift_70 : decode b_Mill_shift 70 = .ok (.getfield 11, 3) := by decide +kernel
theorem d_Mill_shift_73 : decode b_Mill_shift 73 = .ok (.iload_n 2, 1) := by decide +kernel
theorem d_Mill_shift_74 : decode b_Mill_shift 74 = .ok (.aaload, 1) := by decide +kernel
theorem d_Mill_shift_75 : decode b_Mill_shift 75 = .ok (.invokevirtual 30, 3) := by decide +kernel
theorem d_Mill_shift_78 : decode b_Mill_shift 78 = .ok (.isub, 1) := by decide +kernel
theorem d_Mill_shift_79 : decode b_Mill_shift 79 = .ok (.if_icmp .le 5, 3) := by decide +kernel
theorem d_Mill_shift_82 : decode b_Mill_shift 82 = .ok (.iconst 0, 1) := by decide +kernel
theorem d_Mill_shift_83 : decode b_Mill_shift 83 = .ok (.ireturn, 1) := by decide +kernel
theorem d_Mill_shift_84 : decode b_Mill_shift 84 = .ok (.aload_n 0, 1) := by decide +kernel
theorem d_Mill_shift_85 : decode b_Mill_shift 85 = .ok (.getfield 16, 3) := by decide +kernel
theorem d_Mill_shift_88 : decode b_Mill_shift 88 = .ok (.aload_n 0, 1) := by decide +kernel
theorem d_Mill_shift_89 : decode b_Mill_shift 89 = .ok (.getfield 11, 3) := by decide +kernel
theorem d_Mill_shift_92 : decode b_Mill_shift 92 = .ok (.iload_n 2, 1) := by decide +kernel
theorem d_Mill_shift_93 : decode b_Mill_shift 93 = .ok (.aaload, 1) := by decide +kernel
theorem d_Mill_shift_94 : decode b_Mill_shift 94 = .ok (.iload_n 3, 1) := by decide +kernel
theorem d_Mill_shift_95 : decode b_Mill_shift 95 = .ok (.invokevirtual 35, 3) := by decide +kernel
theorem d_Mill_shift_98 : decode b_Mill_shift 98 = .ok (.aload_n 0, 1) := by decide +kernel
theorem d_Mill_shift_99 : decode b_Mill_shift 99 = .ok (.iload_n 1, 1) := by decide +kernel
theorem d_Mill_shift_100 : decode b_Mill_shift 100 = .ok (.invokevirtual 43, 3) := by decide +kernel
theorem d_Mill_shift_103 : decode b_Mill_shift 103 = .ok (.ireturn, 1) := by decide +kernel
theorem d_Mill_spread_0 : decode b_Mill_spread 0 = .ok (.iload_n 1, 1) := by decide +kernel
theorem d_Mill_spread_1 : decode b_Mill_spread 1 = .ok (.invokestatic 26, 3) := by decide +kernel
theorem d_Mill_spread_4 : decode b_Mill_spread 4 = .ok (.ifCond .eq 16, 3) := by decide +kernel
theorem d_Mill_spread_7 : decode b_Mill_spread 7 = .ok (.iload 4, 2) := by decide +kernel
theorem d_Mill_spread_9 : decode b_Mill_spread 9 = .ok (.ifCond .lt 11, 3) := by decide +kernel
theorem d_Mill_spread_12 : decode b_Mill_spread 12 = .ok (.iload 4, 2) := by decide +kernel
theorem d_Mill_spread_14 : decode b_Mill_spread 14 = .ok (.sipush 1024, 3) := by decide +kernel
theorem d_Mill_spread_17 : decode b_Mill_spread 17 = .ok (.if_icmp .le 5, 3) := by decide +kernel
theorem d_Mill_spread_20 : decode b_Mill_spread 20 = .ok (.iconst 0, 1) := by decide +kernel
theorem d_Mill_spread_21 : decode b_Mill_spread 21 = .ok (.ireturn, 1) := by decide +kernel
theorem d_Mill_spread_22 : decode b_Mill_spread 22 = .ok (.aload_n 0, 1) := by decide +kernel
theorem d_Mill_spread_23 : decode b_Mill_spread 23 = .ok (.getfield 16, 3) := by decide +kernel
theorem d_Mill_spread_26 : decode b_Mill_spread 26 = .ok (.lload_n 2, 1) := by decide +kernel
theorem d_Mill_spread_27 : decode b_Mill_spread 27 = .ok (.iload 4, 2) := by decide +kernel
theorem d_Mill_spread_29 : decode b_Mill_spread 29 = .ok (.invokevirtual 46, 3) := by decide +kernel
theorem d_Mill_spread_32 : decode b_Mill_spread 32 = .ok (.aload_n 0, 1) := by decide +kernel
theorem d_Mill_spread_33 : decode b_Mill_spread 33 = .ok (.iload_n 1, 1) := by decide +kernel
theorem d_Mill_spread_34 : decode b_Mill_spread 34 = .ok (.invokevirtual 43, 3) := by decide +kernel
theorem d_Mill_spread_37 : decode b_Mill_spread 37 = .ok (.ireturn, 1) := by decide +kernel
theorem d_Mill_take_0 : decode b_Mill_take 0 = .ok (.iload_n 1, 1) := by decide +kernel
theorem d_Mill_take_1 : decode b_Mill_take 1 = .ok (.invokestatic 26, 3) := by decide +kernel
theorem d_Mill_take_4 : decode b_Mill_take 4 = .ok (.ifCond .eq 17, 3) := by decide +kernel
theorem d_Mill_take_7 : decode b_Mill_take 7 = .ok (.iload_n 2, 1) := by decide +kernel
theorem d_Mill_take_8 : decode b_Mill_take 8 = .ok (.invokestatic 26, 3) := by decide +kernel
theorem d_Mill_take_11 : decode b_Mill_take 11 = .ok (.ifCond .eq 10, 3) := by decide +kernel
theorem d_Mill_take_14 : decode b_Mill_take 14 = .ok (.iload_n 3, 1) := by decide +kernel
theorem d_Mill_take_15 : decode b_Mill_take 15 = .ok (.invokestatic 26, 3) := by decide +kernel
theorem d_Mill_take_18 : decode b_Mill_take 18 = .ok (.ifCond .ne 5, 3) := by decide +kernel
theorem d_Mill_take_21 : decode b_Mill_take 21 = .ok (.iconst 0, 1) := by decide +kernel
theorem d_Mill_take_22 : decode b_Mill_take 22 = .ok (.ireturn, 1) := by decide +kernel
theorem d_Mill_take_23 : decode b_Mill_take 23 = .ok (.aload_n 0, 1) := by decide +kernel
theorem d_Mill_take_24 : decode b_Mill_take 24 = .ok (.getfield 11, 3) := by decide +kernel
theorem d_Mill_take_27 : decode b_Mill_take 27 = .ok (.iload_n 2, 1) := by decide +kernel
theorem d_Mill_take_28 : decode b_Mill_take 28 = .ok (.aaload, 1) := by decide +kernel
theorem d_Mill_take_29 : decode b_Mill_take 29 = .ok (.aload_n 0, 1) := by decide +kernel
theorem d_Mill_take_30 : decode b_Mill_take 30 = .ok (.getfield 11, 3) := by decide +kernel
theorem d_Mill_take_33 : decode b_Mill_take 33 = .ok (.iload_n 3, 1) := by decide +kernel
theorem d_Mill_take_34 : decode b_Mill_take 34 = .ok (.aaload, 1) := by decide +kernel
theorem d_Mill_take_35 : decode b_Mill_take 35 = .ok (.invokevirtual 58, 3) := by decide +kernel
theorem d_Mill_take_38 : decode b_Mill_take 38 = .ok (.ifCond .ge 5, 3) := by decide +kernel
theorem d_Mill_take_41 : decode b_Mill_take 41 = .ok (.iconst 0, 1) := by decide +kernel
theorem d_Mill_take_42 : decode b_Mill_take 42 = .ok (.ireturn, 1) := by decide +kernel
theorem d_Mill_take_43 : decode b_Mill_take 43 = .ok (.aload_n 0, 1) := by decide +kernel
theorem d_Mill_take_44 : decode b_Mill_take 44 = .ok (.getfield 16, 3) := by decide +kernel
theorem d_Mill_take_47 : decode b_Mill_take 47 = .ok (.aload_n 0, 1) := by decide +kernel
theorem d_Mill_take_48 : decode b_Mill_take 48 = .ok (.getfield 11, 3) := by decide +kernel
theorem d_Mill_take_51 : decode b_Mill_take 51 = .ok (.iload_n 2, 1) := by decide +kernel
theorem d_Mill_take_52 : decode b_Mill_take 52 = .ok (.aaload, 1) := by decide +kernel
theorem d_Mill_take_53 : decode b_Mill_take 53 = .ok (.aload_n 0, 1) := by decide +kernel
theorem d_Mill_take_54 : decode b_Mill_take 54 = .ok (.getfield 11, 3) := by decide +kernel
theorem d_Mill_take_57 : decode b_Mill_take 57 = .ok (.iload_n 3, 1) := by decide +kernel
theorem d_Mill_take_58 : decode b_Mill_take 58 = .ok (.aaload, 1) := by decide +kernel
theorem d_Mill_take_59 : decode b_Mill_take 59 = .ok (.invokevirtual 62, 3) := by decide +kernel
theorem d_Mill_take_62 : decode b_Mill_take 62 = .ok (.aload_n 0, 1) := by decide +kernel
theorem d_Mill_take_63 : decode b_Mill_take 63 = .ok (.iload_n 1, 1) := by decide +kernel
theorem d_Mill_take_64 : decode b_Mill_take 64 = .ok (.invokevirtual 43, 3) := by decide +kernel
theorem d_Mill_take_67 : decode b_Mill_take 67 = .ok (.ireturn, 1) := by decide +kernel
theorem d_Mill_times_0 : decode b_Mill_times 0 = .ok (.iload_n 1, 1) := by decide +kernel
theorem d_Mill_times_1 : decode b_Mill_times 1 = .ok (.invokestatic 26, 3) := by decide +kernel
theorem d_Mill_times_4 : decode b_Mill_times 4 = .ok (.ifCond .eq 17, 3) := by decide +kernel
theorem d_Mill_times_7 : decode b_Mill_times 7 = .ok (.iload_n 2, 1) := by decide +kernel
theorem d_Mill_times_8 : decode b_Mill_times 8 = .ok (.invokestatic 26, 3) := by decide +kernel
theorem d_Mill_times_11 : decode b_Mill_times 11 = .ok (.ifCond .eq 10, 3) := by decide +kernel
theorem d_Mill_times_14 : decode b_Mill_times 14 = .ok (.iload_n 3, 1) := by decide +kernel
theorem d_Mill_times_15 : decode b_Mill_times 15 = .ok (.invokestatic 26, 3) := by decide +kernel
theorem d_Mill_times_18 : decode b_Mill_times 18 = .ok (.ifCond .ne 5, 3) := by decide +kernel
theorem d_Mill_times_21 : decode b_Mill_times 21 = .ok (.iconst 0, 1) := by decide +kernel
theorem d_Mill_times_22 : decode b_Mill_times 22 = .ok (.ireturn, 1) := by decide +kernel
theorem d_Mill_times_23 : decode b_Mill_times 23 = .ok (.aload_n 0, 1) := by decide +kernel
theorem d_Mill_times_24 : decode b_Mill_times 24 = .ok (.getfield 11, 3) := by decide +kernel
theorem d_Mill_times_27 : decode b_Mill_times 27 = .ok (.iload_n 2, 1) := by decide +kernel
theorem d_Mill_times_28 : decode b_Mill_times 28 = .ok (.aaload, 1) := by decide +kernel
theorem d_Mill_times_29 : decode b_Mill_times 29 = .ok (.invokevirtual 30, 3) := by decide +kernel
theorem d_Mill_times_32 : decode b_Mill_times 32 = .ok (.aload_n 0, 1) := by decide +kernel
theorem d_Mill_times_33 : decode b_Mill_times 33 = .ok (.getfield 11, 3) := by decide +kernel
theorem d_Mill_times_36 : decode b_Mill_times 36 = .ok (.iload_n 3, 1) := by decide +kernel
theorem d_Mill_times_37 : decode b_Mill_times 37 = .ok (.aaload, 1) := by decide +kernel
theorem d_Mill_times_38 : decode b_Mill_times 38 = .ok (.invokevirtual 30, 3) := by decide +kernel
theorem d_Mill_times_41 : decode b_Mill_times 41 = .ok (.iadd, 1) := by decide +kernel
theorem d_Mill_times_42 : decode b_Mill_times 42 = .ok (.ldc 65, 2) := by decide +kernel
theorem d_Mill_times_44 : decode b_Mill_times 44 = .ok (.if_icmp .le 5, 3) := by decide +kernel
theorem d_Mill_times_47 : decode b_Mill_times 47 = .ok (.iconst 0, 1) := by decide +kernel
theorem d_Mill_times_48 : decode b_Mill_times 48 = .ok (.ireturn, 1) := by decide +kernel
theorem d_Mill_times_49 : decode b_Mill_times 49 = .ok (.aload_n 0, 1) := by decide +kernel
theorem d_Mill_times_50 : decode b_Mill_times 50 = .ok (.getfield 16, 3) := by decide +kernel
theorem d_Mill_times_53 : decode b_Mill_times 53 = .ok (.aload_n 0, 1) := by decide +kernel
theorem d_Mill_times_54 : decode b_Mill_times 54 = .ok (.getfield 11, 3) := by decide +kernel
theorem d_Mill_times_57 : decode b_Mill_times 57 = .ok (.iload_n 2, 1) := by decide +kernel
theorem d_Mill_times_58 : decode b_Mill_times 58 = .ok (.aaload, 1) := by decide +kernel
theorem d_Mill_times_59 : decode b_Mill_times 59 = .ok (.aload_n 0, 1) := by decide +kernel
theorem d_Mill_times_60 : decode b_Mill_times 60 = .ok (.getfield 11, 3) := by decide +kernel
theorem d_Mill_times_63 : decode b_Mill_times 63 = .ok (.iload_n 3, 1) := by decide +kernel
theorem d_Mill_times_64 : decode b_Mill_times 64 = .ok (.aaload, 1) := by decide +kernel
theorem d_Mill_times_65 : decode b_Mill_times 65 = .ok (.invokevirtual 66, 3) := by decide +kernel
theorem d_Mill_times_68 : decode b_Mill_times 68 = .ok (.aload_n 0, 1) := by decide +kernel
theorem d_Mill_times_69 : decode b_Mill_times 69 = .ok (.iload_n 1, 1) := by decide +kernel
theorem d_Mill_times_70 : decode b_Mill_times 70 = .ok (.invokevirtual 43, 3) := by decide +kernel
theorem d_Mill_times_73 : decode b_Mill_times 73 = .ok (.ireturn, 1) := by decide +kernel
theorem d_Mill_word_0 : decode b_Mill_word 0 = .ok (.iload_n 1, 1) := by decide +kernel
theorem d_Mill_word_1 : decode b_Mill_word 1 = .ok (.invokestatic 26, 3) := by decide +kernel
theorem d_Mill_word_4 : decode b_Mill_word 4 = .ok (.ifCond .eq 20, 3) := by decide +kernel
theorem d_Mill_word_7 : decode b_Mill_word 7 = .ok (.iload_n 2, 1) := by decide +kernel
theorem d_Mill_word_8 : decode b_Mill_word 8 = .ok (.ifCond .lt 16, 3) := by decide +kernel
theorem d_Mill_word_11 : decode b_Mill_word 11 = .ok (.iload_n 2, 1) := by decide +kernel
theorem d_Mill_word_12 : decode b_Mill_word 12 = .ok (.aload_n 0, 1) := by decide +kernel
theorem d_Mill_word_13 : decode b_Mill_word 13 = .ok (.getfield 11, 3) := by decide +kernel
theorem d_Mill_word_16 : decode b_Mill_word 16 = .ok (.iload_n 1, 1) := by decide +kernel
theorem d_Mill_word_17 : decode b_Mill_word 17 = .ok (.aaload, 1) := by decide +kernel
theorem d_Mill_word_18 : decode b_Mill_word 18 = .ok (.getfield 69, 3) := by decide +kernel
theorem d_Mill_word_21 : decode b_Mill_word 21 = .ok (.if_icmp .lt 5, 3) := by decide +kernel
theorem d_Mill_word_24 : decode b_Mill_word 24 = .ok (.iconst 0, 1) := by decide +kernel
theorem d_Mill_word_25 : decode b_Mill_word 25 = .ok (.ireturn, 1) := by decide +kernel
theorem d_Mill_word_26 : decode b_Mill_word 26 = .ok (.aload_n 0, 1) := by decide +kernel
theorem d_Mill_word_27 : decode b_Mill_word 27 = .ok (.getfield 11, 3) := by decide +kernel
theorem d_Mill_word_30 : decode b_Mill_word 30 = .ok (.iload_n 1, 1) := by decide +kernel
theorem d_Mill_word_31 : decode b_Mill_word 31 = .ok (.aaload, 1) := by decide +kernel
theorem d_Mill_word_32 : decode b_Mill_word 32 = .ok (.getfield 103, 3) := by decide +kernel
theorem d_Mill_word_35 : decode b_Mill_word 35 = .ok (.iload_n 2, 1) := by decide +kernel
theorem d_Mill_word_36 : decode b_Mill_word 36 = .ok (.iaload, 1) := by decide +kernel
theorem d_Mill_word_37 : decode b_Mill_word 37 = .ok (.ireturn, 1) := by decide +kernel
end
section
theorem d_Mod_add_0 : decode b_Mod_add 0 = .ok (.iload_n 1, 1) := by decide +kernel
theorem d_Mod_add_1 : decode b_Mod_add 1 = .ok (.invokestatic 41, 3) := by decide +kernel
theorem d_Mod_add_4 : decode b_Mod_add 4 = .ok (.ifCond .eq 17, 3) := by decide +kernel
theorem d_Mod_add_7 : decode b_Mod_add 7 = .ok (.iload_n 2, 1) := by decide +kernel
theorem d_Mod_add_8 : decode b_Mod_add 8 = .ok (.invokestatic 41, 3) := by decide +kernel
theorem d_Mod_add_11 : decode b_Mod_add 11 = .ok (.ifCond .eq 10, 3) := by decide +kernel
theorem d_Mod_add_14 : decode b_Mod_add 14 = .ok (.iload_n 3, 1) := by decide +kernel
theorem d_Mod_add_15 : decode b_Mod_add 15 = .ok (.invokestatic 41, 3) := by decide +kernel
theorem d_Mod_add_18 : decode b_Mod_add 18 = .ok (.ifCond .ne 5, 3) := by decide +kernel
theorem d_Mod_add_21 : decode b_Mod_add 21 = .ok (.iconst 0, 1) := by decide +kernel
theorem d_Mod_add_22 : decode b_Mod_add 22 = .ok (.ireturn, 1) := by decide +kernel
theorem d_Mod_add_23 : decode b_Mod_add 23 = .ok (.aload_n 0, 1) := by decide +kernel
theorem d_Mod_add_24 : decode b_Mod_add 24 = .ok (.iload_n 2, 1) := by decide +kernel
theorem d_Mod_add_25 : decode b_Mod_add 25 = .ok (.invokevirtual 45, 3) := by decide +kernel
theorem d_Mod_add_28 : decode b_Mod_add 28 = .ok (.aload_n 0, 1) := by decide +kernel
theorem d_Mod_add_29 : decode b_Mod_add 29 = .ok (.iload_n 3, 1) := by decide +kernel
theorem d_Mod_add_30 : decode b_Mod_add 30 = .ok (.invokevirtual 58, 3) := by decide +kernel
theorem d_Mod_add_33 : decode b_Mod_add 33 = .ok (.aload_n 0, 1) := by decide +kernel
theorem d_Mod_add_34 : decode b_Mod_add 34 = .ok (.invokevirtual 49, 3) := by decide +kernel
theorem d_Mod_add_37 : decode b_Mod_add 37 = .ok (.iconst 0, 1) := by decide +kernel
theorem d_Mod_add_38 : decode b_Mod_add 38 = .ok (.istore 4, 2) := by decide +kernel
theorem d_Mod_add_40 : decode b_Mod_add 40 = .ok (.iconst 0, 1) := by decide +kernel
theorem d_Mod_add_41 : decode b_Mod_add 41 = .ok (.istore 5, 2) := by decide +kernel
theorem d_Mod_add_43 : decode b_Mod_add 43 = .ok (.iload 5, 2) := by decide +kernel
theorem d_Mod_add_45 : decode b_Mod_add 45 = .ok (.sipush 4096, 3) := by decide +kernel
theorem d_Mod_add_48 : decode b_Mod_add 48 = .ok (.if_icmp .gt 48, 3) := by decide +kernel
theorem d_Mod_add_51 : decode b_Mod_add 51 = .ok (.aload_n 0, 1) := by decide +kernel
theorem d_Mod_add_52 : decode b_Mod_add 52 = .ok (.getfield 17, 3) := by decide +kernel
theorem d_Mod_add_55 : decode b_Mod_add 55 = .ok (.iload 5, 2) := by decide +kernel
theorem d_Mod_add_57 : decode b_Mod_add 57 = .ok (.iaload, 1) := by decide +kernel
theorem d_Mod_add_58 : decode b_Mod_add 58 = .ok (.aload_n 0, 1) := by decide +kernel
theorem d_Mod_add_59 : decode b_Mod_add 59 = .ok (.getfield 20, 3) := by decide +kernel
theorem d_Mod_add_62 : decode b_Mod_add 62 = .ok (.iload 5, 2) := by decide +kernel
theorem d_Mod_add_64 : decode b_Mod_add 64 = .ok (.iaload, 1) := by decide +kernel
theorem d_Mod_add_65 : decode b_Mod_add 65 = .ok (.iadd, 1) := by decide +kernel
theorem d_Mod_add_66 : decode b_Mod_add 66 = .ok (.iload 4, 2) := by decide +kernel
theorem d_Mod_add_68 : decode b_Mod_add 68 = .ok (.iadd, 1) := by decide +kernel
theorem d_Mod_add_69 : decode b_Mod_add 69 = .ok (.istore 6, 2) := by decide +kernel
theorem d_Mod_add_71 : decode b_Mod_add 71 = .ok (.iload 6, 2) := by decide +kernel
theorem d_Mod_add_73 : decode b_Mod_add 73 = .ok (.bipush 16, 2) := by decide +kernel
theorem d_Mod_add_75 : decode b_Mod_add 75 = .ok (.ishr, 1) := by decide +kernel
theorem d_Mod_add_76 : decode b_Mod_add 76 = .ok (.istore 4, 2) := by decide +kernel
theorem d_Mod_add_78 : decode b_Mod_add 78 = .ok (.aload_n 0, 1) := by decide +kernel
theorem d_Mod_add_79 : decode b_Mod_add 79 = .ok (.getfield 23, 3) := by decide +kernel
theorem d_Mod_add_82 : decode b_Mod_add 82 = .ok (.iload 5, 2) := by decide +kernel
theorem d_Mod_add_84 : decode b_Mod_add 84 = .ok (.iload 6, 2) := by decide +kernel
theorem d_Mod_add_86 : decode b_Mod_add 86 = .ok (.ldc 40, 2) := by decide +kernel
theorem d_Mod_add_88 : decode b_Mod_add 88 = .ok (.iand, 1) := by decide +kernel
theorem d_Mod_add_89 : decode b_Mod_add 89 = .ok (.iastore, 1) := by decide +kernel
theorem d_Mod_add_90 : decode b_Mod_add 90 = .ok (.iinc 5 1, 3) := by decide +kernel
theorem d_Mod_add_93 : decode b_Mod_add 93 = .ok (.goto (-50), 3) := by decide +kernel
theorem d_Mod_add_96 : decode b_Mod_add 96 = .ok (.aload_n 0, 1) := by decide +kernel
theorem d_Mod_add_97 : decode b_Mod_add 97 = .ok (.iload_n 1, 1) := by decide +kernel
theorem d_Mod_add_98 : decode b_Mod_add 98 = .ok (.aload_n 0, 1) := by decide +kernel
theorem d_Mod_add_99 : decode b_Mod_add 99 = .ok (.getfield 23, 3) := by decide +kernel
theorem d_Mod_add_102 : decode b_Mod_add 102 = .ok (.sipush 4097, 3) := by decide +kernel
theorem d_Mod_add_105 : decode b_Mod_add 105 = .ok (.invokevirtual 54, 3) := by decide +kernel
theorem d_Mod_add_108 : decode b_Mod_add 108 = .ok (.ireturn, 1) := by decide +kernel
theorem d_Mod_bitOf_0 : decode b_Mod_bitOf 0 = .ok (.aload_n 0, 1) := by decide +kernel
theorem d_Mod_bitOf_1 : decode b_Mod_bitOf 1 = .ok (.iload_n 1, 1) := by decide +kernel
theorem d_Mod_bitOf_2 : decode b_Mod_bitOf 2 = .ok (.iconst 4, 1) := by decide +kernel
theorem d_Mod_bitOf_3 : decode b_Mod_bitOf 3 = .ok (.ishr, 1) := by decide +kernel
theorem d_Mod_bitOf_4 : decode b_Mod_bitOf 4 = .ok (.iaload, 1) := by decide +kernel
theorem d_Mod_bitOf_5 : decode b_Mod_bitOf 5 = .ok (.iload_n 1, 1) := by decide +kernel
theorem d_Mod_bitOf_6 : decode b_Mod_bitOf 6 = .ok (.bipush 15, 2) := by decide +kernel
theorem d_Mod_bitOf_8 : decode b_Mod_bitOf 8 = .ok (.iand, 1) := by decide +kernel
theorem d_Mod_bitOf_9 : decode b_Mod_bitOf 9 = .ok (.ishr, 1) := by decide +kernel
theorem d_Mod_bitOf_10 : decode b_Mod_bitOf 10 = .ok (.iconst 1, 1) := by decide +kernel
theorem d_Mod_bitOf_11 : decode b_Mod_bitOf 11 = .ok (.iand, 1) := by decide +kernel
theorem d_Mod_bitOf_12 : decode b_Mod_bitOf 12 = .ok (.ireturn, 1) := by decide +kernel
theorem d_Mod_bits_0 : decode b_Mod_bits 0 = .ok (.iload_n 1, 1) := by decide +kernel
theorem d_Mod_bits_1 : decode b_Mod_bits 1 = .ok (.invokestatic 41, 3) := by decide +kernel
theorem d_Mod_bits_4 : decode b_Mod_bits 4 = .ok (.ifCond .eq 11, 3) := by decide +kernel
theorem d_Mod_bits_7 : decode b_Mod_bits 7 = .ok (.aload_n 0, 1) := by decide +kernel
theorem d_Mod_bits_8 : decode b_Mod_bits 8 = .ok (.iload_n 1, 1) := by decide +kernel
theorem d_Mod_bits_9 : decode b_Mod_bits 9 = .ok (.invokevirtual 87, 3) := by decide +kernel
theorem d_Mod_bits_12 : decode b_Mod_bits 12 = .ok (.goto 4, 3) := by decide +kernel
theorem d_Mod_bits_15 : decode b_Mod_bits 15 = .ok (.iconst (-1), 1) := by decide +kernel
theorem d_Mod_bits_16 : decode b_Mod_bits 16 = .ok (.ireturn, 1) := by decide +kernel
theorem d_Mod_bitsOf_0 : decode b_Mod_bitsOf 0 = .ok (.aload_n 0, 1) := by decide +kernel
theorem d_Mod_bitsOf_1 : decode b_Mod_bitsOf 1 = .ok (.getfield 14, 3) := by decide +kernel
theorem d_Mod_bitsOf_4 : decode b_Mod_bitsOf 4 = .ok (.iload_n 1, 1) := by decide +kernel
theorem d_Mod_bitsOf_5 : decode b_Mod_bitsOf 5 = .ok (.iaload, 1) := by decide +kernel
theorem d_Mod_bitsOf_6 : decode b_Mod_bitsOf 6 = .ok (.ifCond .ne 5, 3) := by decide +kernel
theorem d_Mod_bitsOf_9 : decode b_Mod_bitsOf 9 = .ok (.iconst 0, 1) := by decide +kernel
theorem d_Mod_bitsOf_10 : decode b_Mod_bitsOf 10 = .ok (.ireturn, 1) := by decide +kernel
theorem d_Mod_bitsOf_11 : decode b_Mod_bitsOf 11 = .ok (.bipush 16, 2) := by decide +kernel
theorem d_Mod_bitsOf_13 : decode b_Mod_bitsOf 13 = .ok (.aload_n 0, 1) := by decide +kernel
theorem d_Mod_bitsOf_14 : decode b_Mod_bitsOf 14 = .ok (.getfield 14, 3) := by decide +kernel
theorem d_Mod_bitsOf_17 : decode b_Mod_bitsOf 17 = .ok (.iload_n 1, 1) := by decide +kernel
theorem d_Mod_bitsOf_18 : decode b_Mod_bitsOf 18 = .ok (.iaload, 1) := by decide +kernel
theorem d_Mod_bitsOf_19 : decode b_Mod_bitsOf 19 = .ok (.iconst 1, 1) := by decide +kernel
theorem d_Mod_bitsOf_20 : decode b_Mod_bitsOf 20 = .ok (.isub, 1) := by decide +kernel
theorem d_Mod_bitsOf_21 : decode b_Mod_bitsOf 21 = .ok (.imul, 1) := by decide +kernel
theorem d_Mod_bitsOf_22 : decode b_Mod_bitsOf 22 = .ok (.istore_n 2, 1) := by decide +kernel
theorem d_Mod_bitsOf_23 : decode b_Mod_bitsOf 23 = .ok (.aload_n 0, 1) := by decide +kernel
theorem d_Mod_bitsOf_24 : decode b_Mod_bitsOf 24 = .ok (.getfield 8, 3) := by decide +kernel
theorem d_Mod_bitsOf_27 : decode b_Mod_bitsOf 27 = .ok (.sipush 4096, 3) := by decide +kernel
theorem d_Mod_bitsOf_30 : decode b_Mod_bitsOf 30 = .ok (.iload_n 1, 1) := by decide +kernel
theorem d_Mod_bitsOf_31 : decode b_Mod_bitsOf 31 = .ok (.imul, 1) := by decide +kernel
theorem d_Mod_bitsOf_32 : decode b_Mod_bitsOf 32 = .ok (.aload_n 0, 1) := by decide +kernel
theorem d_Mod_bitsOf_33 : decode b_Mod_bitsOf 33 = .ok (.getfield 14, 3) := by decide +kernel
theorem d_Mod_bitsOf_36 : decode b_Mod_bitsOf 36 = .ok (.iload_n 1, 1) := by decide +kernel
theorem d_Mod_bitsOf_37 : decode b_Mod_bitsOf 37 = .ok (.iaload, 1) := by decide +kernel
theorem d_Mod_bitsOf_38 : decode b_Mod_bitsOf 38 = .ok (.iadd, 1) := by decide +kernel
theorem d_Mod_bitsOf_39 : decode b_Mod_bitsOf 39 = .ok (.iconst 1, 1) := by decide +kernel
theorem d_Mod_bitsOf_40 : decode b_Mod_bitsOf 40 = .ok (.isub, 1) := by decide +kernel
theorem d_Mod_bitsOf_41 : decode b_Mod_bitsOf 41 = .ok (.iaload, 1) := by decide +kernel
theorem d_Mod_bitsOf_42 : decode b_Mod_bitsOf 42 = .ok (.istore_n 3, 1) := by decide +kernel
theorem d_Mod_bitsOf_43 : decode b_Mod_bitsOf 43 = .ok (.iload_n 3, 1) := by decide +kernel
theorem d_Mod_bitsOf_44 : decode b_Mod_bitsOf 44 = .ok (.ifCond .le 13, 3) := by decide +kernel
theorem d_Mod_bitsOf_47 : decode b_Mod_bitsOf 47 = .ok (.iinc 2 1, 3) := by decide +kernel
theorem d_Mod_bitsOf_50 : decode b_Mod_bitsOf 50 = .ok (.iload_n 3, 1) := by decide +kernel
theorem d_Mod_bitsOf_51 : decode b_Mod_bitsOf 51 = .ok (.iconst 1, 1) := by decide +kernel
theorem d_Mod_bitsOf_52 : decode b_Mod_bitsOf 52 = .ok (.ishr, 1) := by decide +kernel
theorem d_Mod_bitsOf_53 : decode b_Mod_bitsOf 53 = .ok (.istore_n 3, 1) := by decide +kernel
theorem d_Mod_bitsOf_54 : decode b_Mod_bitsOf 54 = .ok (.goto (-11), 3) := by decide +kernel
theorem d_Mod_bitsOf_57 : decode b_Mod_bitsOf 57 = .ok (.iload_n 2, 1) := by decide +kernel
theorem d_Mod_bitsOf_58 : decode b_Mod_bitsOf 58 = .ok (.ireturn, 1) := by decide +kernel
theorem d_Mod_clearZ_0 : decode b_Mod_clearZ 0 = .ok (.iconst 0, 1) := by decide +kernel
theorem d_Mod_clearZ_1 : decode b_Mod_clearZ 1 = .ok (.istore_n 1, 1) := by decide +kernel
theorem d_Mod_clearZ_2 : decode b_Mod_clearZ 2 = .ok (.iload_n 1, 1) := by decide +kernel
theorem d_Mod_clearZ_3 : decode b_Mod_clearZ 3 = .ok (.sipush 8200, 3) := by decide +kernel
theorem d_Mod_clearZ_6 : decode b_Mod_clearZ 6 = .ok (.if_icmp .ge 16, 3) := by decide +kernel
theorem d_Mod_clearZ_9 : decode b_Mod_clearZ 9 = .ok (.aload_n 0, 1) := by decide +kernel
theorem d_Mod_clearZ_10 : decode b_Mod_clearZ 10 = .ok (.getfield 23, 3) := by decide +kernel
theorem d_Mod_clearZ_13 : decode b_Mod_clearZ 13 = .ok (.iload_n 1, 1) := by decide +kernel
theorem d_Mod_clearZ_14 : decode b_Mod_clearZ 14 = .ok (.iconst 0, 1) := by decide +kernel
theorem d_Mod_clearZ_15 : decode b_Mod_clearZ 15 = .ok (.iastore, 1) := by decide +kernel
theorem d_Mod_clearZ_16 : decode b_Mod_clearZ 16 = .ok (.iinc 1 1, 3) := by decide +kernel
theorem d_Mod_clearZ_19 : decode b_Mod_clearZ 19 = .ok (.goto (-17), 3) := by decide +kernel
theorem d_Mod_clearZ_22 : decode b_Mod_clearZ 22 = .ok (.aload_n 0, 1) := by decide +kernel
theorem d_Mod_clearZ_23 : decode b_Mod_clearZ 23 = .ok (.iconst 0, 1) := by decide +kernel
theorem d_Mod_clearZ_24 : decode b_Mod_clearZ 24 = .ok (.putfield 33, 3) := by decide +kernel
theorem d_Mod_clearZ_27 : decode b_Mod_clearZ 27 = .ok (.return_, 1) := by decide +kernel
theorem d_Mod_compare_0 : decode b_Mod_compare 0 = .ok (.iload_n 1, 1) := by decide +kernel
theorem d_Mod_compare_1 : decode b_Mod_compare 1 = .ok (.invokestatic 41, 3) := by decide +kernel
theorem d_Mod_compare_4 : decode b_Mod_compare 4 = .ok (.ifCond .eq 10, 3) := by decide +kernel
theorem d_Mod_compare_7 : decode b_Mod_compare 7 = .ok (.iload_n 2, 1) := by decide +kernel
theorem d_Mod_compare_8 : decode b_Mod_compare 8 = .ok (.invokestatic 41, 3) := by decide +kernel
theorem d_Mod_compare_11 : decode b_Mod_compare 11 = .ok (.ifCond .ne 6, 3) := by decide +kernel
theorem d_Mod_compare_14 : decode b_Mod_compare 14 = .ok (.bipush (-2), 2) := by decide +kernel
theorem d_Mod_compare_16 : decode b_Mod_compare 16 = .ok (.ireturn, 1) := by decide +kernel
theorem d_Mod_compare_17 : decode b_Mod_compare 17 = .ok (.aload_n 0, 1) := by decide +kernel
theorem d_Mod_compare_18 : decode b_Mod_compare 18 = .ok (.iload_n 1, 1) := by decide +kernel
theorem d_Mod_compare_19 : decode b_Mod_compare 19 = .ok (.invokevirtual 45, 3) := by decide +kernel
theorem d_Mod_compare_22 : decode b_Mod_compare 22 = .ok (.aload_n 0, 1) := by decide +kernel
theorem d_Mod_compare_23 : decode b_Mod_compare 23 = .ok (.iload_n 2, 1) := by decide +kernel
theorem d_Mod_compare_24 : decode b_Mod_compare 24 = .ok (.invokevirtual 58, 3) := by decide +kernel
theorem d_Mod_compare_27 : decode b_Mod_compare 27 = .ok (.aload_n 0, 1) := by decide +kernel
theorem d_Mod_compare_28 : decode b_Mod_compare 28 = .ok (.getfield 17, 3) := by decide +kernel
theorem d_Mod_compare_31 : decode b_Mod_compare 31 = .ok (.aload_n 0, 1) := by decide +kernel
theorem d_Mod_compare_32 : decode b_Mod_compare 32 = .ok (.getfield 26, 3) := by decide +kernel
theorem d_Mod_compare_35 : decode b_Mod_compare 35 = .ok (.aload_n 0, 1) := by decide +kernel
theorem d_Mod_compare_36 : decode b_Mod_compare 36 = .ok (.getfield 20, 3) := by decide +kernel
theorem d_Mod_compare_39 : decode b_Mod_compare 39 = .ok (.aload_n 0, 1) := by decide +kernel
theorem d_Mod_compare_40 : decode b_Mod_compare 40 = .ok (.getfield 30, 3) := by decide +kernel
theorem d_Mod_compare_43 : decode b_Mod_compare 43 = .ok (.invokestatic 61, 3) := by decide +kernel
theorem d_Mod_compare_46 : decode b_Mod_compare 46 = .ok (.ireturn, 1) := by decide +kernel
theorem d_Mod_compareRows_0 : decode b_Mod_compareRows 0 = .ok (.iload_n 1, 1) := by decide +kernel
theorem d_Mod_compareRows_1 : decode b_Mod_compareRows 1 = .ok (.iload_n 3, 1) := by decide +kernel
theorem d_Mod_compareRows_2 : decode b_Mod_compareRows 2 = .ok (.if_icmp .eq 14, 3) := by decide +kernel
theorem d_Mod_compareRows_5 : decode b_Mod_compareRows 5 = .ok (.iload_n 1, 1) := by decide +kernel
theorem d_Mod_compareRows_6 : decode b_Mod_compareRows 6 = .ok (.iload_n 3, 1) := by decide +kernel
theorem d_Mod_compareRows_7 : decode b_Mod_compareRows 7 = .ok (.if_icmp .ge 7, 3) := by decide +kernel
theorem d_Mod_compareRows_10 : decode b_Mod_compareRows 10 = .ok (.iconst (-1), 1) := by decide +kernel
theorem d_Mod_compareRows_11 : decode b_Mod_compareRows 11 = .ok (.goto 4, 3) := by decide +kernel
theorem d_Mod_compareRows_14 : decode b_Mod_compareRows 14 = .ok (.iconst 1, 1) := by decide +kernel
theorem d_Mod_compareRows_15 : decode b_Mod_compareRows 15 = .ok (.ireturn, 1) := by decide +kernel
theorem d_Mod_compareRows_16 : decode b_Mod_compareRows 16 = .ok (.iload_n 1, 1) := by decide +kernel
theorem d_Mod_compareRows_17 : decode b_Mod_compareRows 17 = .ok (.iconst 1, 1) := by decide +kernel
theorem d_Mod_compareRows_18 : decode b_Mod_compareRows 18 = .ok (.isub, 1) := by decide +kernel
theorem d_Mod_compareRows_19 : decode b_Mod_compareRows 19 = .ok (.istore 4, 2) := by decide +kernel
theorem d_Mod_compareRows_21 : decode b_Mod_compareRows 21 = .ok (.iload 4, 2) := by decide +kernel
theorem d_Mod_compareRows_23 : decode b_Mod_compareRows 23 = .ok (.ifCond .lt 37, 3) := by decide +kernel
theorem d_Mod_compareRows_26 : decode b_Mod_compareRows 26 = .ok (.aload_n 0, 1) := by decide +kernel
theorem d_Mod_compareRows_27 : decode b_Mod_compareRows 27 = .ok (.iload 4, 2) := by decide +kernel
theorem d_Mod_compareRows_29 : decode b_Mod_compareRows 29 = .ok (.iaload, 1) := by decide +kernel
theorem d_Mod_compareRows_30 : decode b_Mod_compareRows 30 = .ok (.aload_n 2, 1) := by decide +kernel
theorem d_Mod_compareRows_31 : decode b_Mod_compareRows 31 = .ok (.iload 4, 2) := by decide +kernel
theorem d_Mod_compareRows_33 : decode b_Mod_compareRows 33 = .ok (.iaload, 1) := by decide +kernel
theorem d_Mod_compareRows_34 : decode b_Mod_compareRows 34 = .ok (.if_icmp .eq 20, 3) := by decide +kernel
theorem d_Mod_compareRows_37 : decode b_Mod_compareRows 37 = .ok (.aload_n 0, 1) := by decide +kernel
theorem d_Mod_compareRows_38 : decode b_Mod_compareRows 38 = .ok (.iload 4, 2) := by decide +kernel
theorem d_Mod_compareRows_40 : decode b_Mod_compareRows 40 = .ok (.iaload, 1) := by decide +kernel
theorem d_Mod_compareRows_41 : decode b_Mod_compareRows 41 = .ok (.aload_n 2, 1) := by decide +kernel
theorem d_Mod_compareRows_42 : decode b_Mod_compareRows 42 = .ok (.iload 4, 2) := by decide +kernel
theorem d_Mod_compareRows_44 : decode b_Mod_compareRows 44 = .ok (.iaload, 1) := by decide +kernel
theorem d_Mod_compareRows_45 : decode b_Mod_compareRows 45 = .ok (.if_icmp .ge 7, 3) := by decide +kernel
theorem d_Mod_compareRows_48 : decode b_Mod_compareRows 48 = .ok (.iconst (-1), 1) := by decide +kernel
theorem d_Mod_compareRows_49 : decode b_Mod_compareRows 49 = .ok (.goto 4, 3) := by decide +kernel
theorem d_Mod_compareRows_52 : decode b_Mod_compareRows 52 = .ok (.iconst 1, 1) := by decide +kernel
theorem d_Mod_compareRows_53 : decode b_Mod_compareRows 53 = .ok (.ireturn, 1) := by decide +kernel
theorem d_Mod_compareRows_54 : decode b_Mod_compareRows 54 = .ok (.iinc 4 (-1), 3) := by decide +kernel
theorem d_Mod_compareRows_57 : decode b_Mod_compareRows 57 = .ok (.goto (-36), 3) := by decide +kernel
theorem d_Mod_compareRows_60 : decode b_Mod_compareRows 60 = .ok (.iconst 0, 1) := by decide +kernel
theorem d_Mod_compareRows_61 : decode b_Mod_compareRows 61 = .ok (.ireturn, 1) := by decide +kernel
theorem d_Mod_copy_0 : decode b_Mod_copy 0 = .ok (.iload_n 1, 1) := by decide +kernel
theorem d_Mod_copy_1 : decode b_Mod_copy 1 = .ok (.invokestatic 41, 3) := by decide +kernel
theorem d_Mod_copy_4 : decode b_Mod_copy 4 = .ok (.ifCond .eq 10, 3) := by decide +kernel
theorem d_Mod_copy_7 : decode b_Mod_copy 7 = .ok (.iload_n 2, 1) := by decide +kernel
theorem d_Mod_copy_8 : decode b_Mod_copy 8 = .ok (.invokestatic 41, 3) := by decide +kernel
theorem d_Mod_copy_11 : decode b_Mod_copy 11 = .ok (.ifCond .ne 5, 3) := by decide +kernel
theorem d_Mod_copy_14 : decode b_Mod_copy 14 = .ok (.iconst 0, 1) := by decide +kernel
theorem d_Mod_copy_15 : decode b_Mod_copy 15 = .ok (.ireturn, 1) := by decide +kernel
theorem d_Mod_copy_16 : decode b_Mod_copy 16 = .ok (.aload_n 0, 1) := by decide +kernel
theorem d_Mod_copy_17 : decode b_Mod_copy 17 = .ok (.iload_n 2, 1) := by decide +kernel
theorem d_Mod_copy_18 : decode b_Mod_copy 18 = .ok (.invokevirtual 45, 3) := by decide +kernel
theorem d_Mod_copy_21 : decode b_Mod_copy 21 = .ok (.aload_n 0, 1) := by decide +kernel
theorem d_Mod_copy_22 : decode b_Mod_copy 22 = .ok (.iload_n 1, 1) := by decide +kernel
theorem d_Mod_copy_23 : decode b_Mod_copy 23 = .ok (.aload_n 0, 1) := by decide +kernel
theorem d_Mod_copy_24 : decode b_Mod_copy 24 = .ok (.getfield 17, 3) := by decide +kernel
theorem d_Mod_copy_27 : decode b_Mod_copy 27 = .ok (.aload_n 0, 1) := by decide +kernel
theorem d_Mod_copy_28 : decode b_Mod_copy 28 = .ok (.getfield 26, 3) := by decide +kernel
theorem d_Mod_copy_31 : decode b_Mod_copy 31 = .ok (.invokevirtual 54, 3) := by decide +kernel
theorem d_Mod_copy_34 : decode b_Mod_copy 34 = .ok (.ireturn, 1) := by decide +kernel
theorem d_Mod_divide_0 : decode b_Mod_divide 0 = .ok (.iload_n 1, 1) := by decide +kernel
theorem d_Mod_divide_1 : decode b_Mod_divide 1 = .ok (.invokestatic 41, 3) := by decide +kernel
theorem d_Mod_divide_4 : decode b_Mod_divide 4 = .ok (.ifCond .eq 40, 3) := by decide +kernel
theorem d_Mod_divide_7 : decode b_Mod_divide 7 = .ok (.iload_n 2, 1) := by decide +kernel
theorem d_Mod_divide_8 : decode b_Mod_divide 8 = .ok (.invokestatic 41, 3) := by decide +kernel
theorem d_Mod_divide_11 : decode b_Mod_divide 11 = .ok (.ifCond .eq 33, 3) := by decide +kernel
theorem d_Mod_divide_14 : decode b_Mod_divide 14 = .ok (.iload_n 3, 1) := by decide +kernel
theorem d_Mod_divide_15 : decode b_Mod_divide 15 = .ok (.invokestatic 41, 3) := by decide +kernel
theorem d_Mod_divide_18 : decode b_Mod_divide 18 = .ok (.ifCond .eq 26, 3) := by decide +kernel
theorem d_Mod_divide_21 : decode b_Mod_divide 21 = .ok (.iload 4, 2) := by decide +kernel
theorem d_Mod_divide_23 : decode b_Mod_divide 23 = .ok (.invokestatic 41, 3) := by decide +kernel
theorem d_Mod_divide_26 : decode b_Mod_divide 26 = .ok (.ifCond .eq 18, 3) := by decide +kernel
theorem d_Mod_divide_29 : decode b_Mod_divide 29 = .ok (.iload_n 1, 1) := by decide +kernel
theorem d_Mod_divide_30 : decode b_Mod_divide 30 = .ok (.iload_n 2, 1) := by decide +kernel
theorem d_Mod_divide_31 : decode b_Mod_divide 31 = .ok (.if_icmp .eq 13, 3) := by decide +kernel
theorem d_Mod_divide_34 : decode b_Mod_divide 34 = .ok (.aload_n 0, 1) := by decide +kernel
theorem d_Mod_divide_35 : decode b_Mod_divide 35 = .ok (.getfield 14, 3) := by decide +kernel
theorem d_Mod_divide_38 : decode b_Mod_divide 38 = .ok (.iload 4, 2) := by decide +kernel
theorem d_Mod_divide_40 : decode b_Mod_divide 40 = .ok (.iaload, 1) := by decide +kernel
theorem d_Mod_divide_41 : decode b_Mod_divide 41 = .ok (.ifCond .ne 5, 3) := by decide +kernel
theorem d_Mod_divide_44 : decode b_Mod_divide 44 = .ok (.iconst 0, 1) := by decide +kernel
theorem d_Mod_divide_45 : decode b_Mod_divide 45 = .ok (.ireturn, 1) := by decide +kernel
theorem d_Mod_divide_46 : decode b_Mod_divide 46 = .ok (.aload_n 0, 1) := by decide +kernel
theorem d_Mod_divide_47 : decode b_Mod_divide 47 = .ok (.iload_n 3, 1) := by decide +kernel
theorem d_Mod_divide_48 : decode b_Mod_divide 48 = .ok (.invokevirtual 45, 3) := by decide +kernel
theorem d_Mod_divide_51 : decode b_Mod_divide 51 = .ok (.aload_n 0, 1) := by decide +kernel
theorem d_Mod_divide_52 : decode b_Mod_divide 52 = .ok (.iload 4, 2) := by decide +kernel
theorem d_Mod_divide_54 : decode b_Mod_divide 54 = .ok (.invokevirtual 58, 3) := by decide +kernel
theorem d_Mod_divide_57 : decode b_Mod_divide 57 = .ok (.aload_n 0, 1) := by decide +kernel
theorem d_Mod_divide_58 : decode b_Mod_divide 58 = .ok (.invokevirtual 49, 3) := by decide +kernel
theorem d_Mod_divide_61 : decode b_Mod_divide 61 = .ok (.aload_n 0, 1) := by decide +kernel
theorem d_Mod_divide_62 : decode b_Mod_divide 62 = .ok (.getfield 26, 3) := by decide +kernel
theorem d_Mod_divide_65 : decode b_Mod_divide 65 = .ok (.istore 5, 2) := by decide +kernel
theorem d_Mod_divide_67 : decode b_Mod_divide 67 = .ok (.bipush 16, 2) := by decide +kernel
theorem d_Mod_divide_69 : decode b_Mod_divide 69 = .ok (.iload 5, 2) := by decide +kernel
theorem d_Mod_divide_71 : decode b_Mod_divide 71 = .ok (.imul, 1) := by decide +kernel
theorem d_Mod_divide_72 : decode b_Mod_divide 72 = .ok (.iconst 1, 1) := by decide +kernel
theorem d_Mod_divide_73 : decode b_Mod_divide 73 = .ok (.isub, 1) := by decide +kernel
theorem d_Mod_divide_74 : decode b_Mod_divide 74 = .ok (.istore 6, 2) := by decide +kernel
theorem d_Mod_divide_76 : decode b_Mod_divide 76 = .ok (.iload 6, 2) := by decide +kernel
theorem d_Mod_divide_78 : decode b_Mod_divide 78 = .ok (.ifCond .lt 135, 3) := by decide +kernel
theorem d_Mod_divide_81 : decode b_Mod_divide 81 = .ok (.aload_n 0, 1) := by decide +kernel
theorem d_Mod_divide_82 : decode b_Mod_divide 82 = .ok (.aload_n 0, 1) := by decide +kernel
theorem d_Mod_divide_83 : decode b_Mod_divide 83 = .ok (.getfield 23, 3) := by decide +kernel
theorem d_Mod_divide_86 : decode b_Mod_divide 86 = .ok (.aload_n 0, 1) := by decide +kernel
theorem d_Mod_divide_87 : decode b_Mod_divide 87 = .ok (.getfield 33, 3) := by decide +kernel
theorem d_Mod_divide_90 : decode b_Mod_divide 90 = .ok (.aload_n 0, 1) := by decide +kernel
theorem d_Mod_divide_91 : decode b_Mod_divide 91 = .ok (.getfield 17, 3) := by decide +kernel
theorem d_Mod_divide_94 : decode b_Mod_divide 94 = .ok (.iload 6, 2) := by decide +kernel
theorem d_Mod_divide_96 : decode b_Mod_divide 96 = .ok (.invokestatic 68, 3) := by decide +kernel
theorem d_Mod_divide_99 : decode b_Mod_divide 99 = .ok (.invokestatic 71, 3) := by decide +kernel
theorem d_Mod_divide_102 : decode b_Mod_divide 102 = .ok (.putfield 33, 3) := by decide +kernel
theorem d_Mod_divide_105 : decode b_Mod_divide 105 = .ok (.aload_n 0, 1) := by decide +kernel
theorem d_Mod_divide_106 : decode b_Mod_divide 106 = .ok (.getfield 23, 3) := by decide +kernel
theorem d_Mod_divide_109 : decode b_Mod_divide 109 = .ok (.aload_n 0, 1) := by decide +kernel
theorem d_Mod_divide_110 : decode b_Mod_divide 110 = .ok (.getfield 33, 3) := by decide +kernel
theorem d_Mod_divide_113 : decode b_Mod_divide 113 = .ok (.aload_n 0, 1) := by decide +kernel
theorem d_Mod_divide_114 : decode b_Mod_divide 114 = .ok (.getfield 20, 3) := by decide +kernel
theorem d_Mod_divide_117 : decode b_Mod_divide 117 = .ok (.aload_n 0, 1) := by decide +kernel
theorem d_Mod_divide_118 : decode b_Mod_divide 118 = .ok (.getfield 30, 3) := by decide +kernel
theorem d_Mod_divide_121 : decode b_Mod_divide 121 = .ok (.invokestatic 61, 3) := by decide +kernel
theorem d_Mod_divide_124 : decode b_Mod_divide 124 = .ok (.ifCond .lt 7, 3) := by decide +kernel
theorem d_Mod_divide_127 : decode b_Mod_divide 127 = .ok (.iconst 1, 1) := by decide +kernel
theorem d_Mod_divide_128 : decode b_Mod_divide 128 = .ok (.goto 4, 3) := by decide +kernel
theorem d_Mod_divide_131 : decode b_Mod_divide 131 = .ok (.iconst 0, 1) := by decide +kernel
theorem d_Mod_divide_132 : decode b_Mod_divide 132 = .ok (.istore 7, 2) := by decide +kernel
theorem d_Mod_divide_134 : decode b_Mod_divide 134 = .ok (.iload 7, 2) := by decide +kernel
theorem d_Mod_divide_136 : decode b_Mod_divide 136 = .ok (.ifCond .eq 26, 3) := by decide +kernel
theorem d_Mod_divide_139 : decode b_Mod_divide 139 = .ok (.aload_n 0, 1) := by decide +kernel
theorem d_Mod_divide_140 : decode b_Mod_divide 140 = .ok (.aload_n 0, 1) := by decide +kernel
theorem d_Mod_divide_141 : decode b_Mod_divide 141 = .ok (.getfield 23, 3) := by decide +kernel
theorem d_Mod_divide_144 : decode b_Mod_divide 144 = .ok (.aload_n 0, 1) := by decide +kernel
theorem d_Mod_divide_145 : decode b_Mod_divide 145 = .ok (.getfield 33, 3) := by decide +kernel
theorem d_Mod_divide_148 : decode b_Mod_divide 148 = .ok (.aload_n 0, 1) := by decide +kernel
theorem d_Mod_divide_149 : decode b_Mod_divide 149 = .ok (.getfield 20, 3) := by decide +kernel
theorem d_Mod_divide_152 : decode b_Mod_divide 152 = .ok (.aload_n 0, 1) := by decide +kernel
theorem d_Mod_divide_153 : decode b_Mod_divide 153 = .ok (.getfield 30, 3) := by decide +kernel
theorem d_Mod_divide_156 : decode b_Mod_divide 156 = .ok (.invokestatic 65, 3) := by decide +kernel
theorem d_Mod_divide_159 : decode b_Mod_divide 159 = .ok (.putfield 33, 3) := by decide +kernel
theorem d_Mod_divide_162 : decode b_Mod_divide 162 = .ok (.aload_n 0, 1) := by decide +kernel
theorem d_Mod_divide_163 : decode b_Mod_divide 163 = .ok (.getfield 17, 3) := by decide +kernel
theorem d_Mod_divide_166 : decode b_Mod_divide 166 = .ok (.iload 6, 2) := by decide +kernel
theorem d_Mod_divide_168 : decode b_Mod_divide 168 = .ok (.iconst 4, 1) := by decide +kernel
theorem d_Mod_divide_169 : decode b_Mod_divide 169 = .ok (.ishr, 1) := by decide +kernel
theorem d_Mod_divide_170 : decode b_Mod_divide 170 = .ok (.aload_n 0, 1) := by decide +kernel
theorem d_Mod_divide_171 : decode b_Mod_divide 171 = .ok (.getfield 17, 3) := by decide +kernel
theorem d_Mod_divide_174 : decode b_Mod_divide 174 = .ok (.iload 6, 2) := by decide +kernel
theorem d_Mod_divide_176 : decode b_Mod_divide 176 = .ok (.iconst 4, 1) := by decide +kernel
theorem d_Mod_divide_177 : decode b_Mod_divide 177 = .ok (.ishr, 1) := by decide +kernel
theorem d_Mod_divide_178 : decode b_Mod_divide 178 = .ok (.iaload, 1) := by decide +kernel
theorem d_Mod_divide_179 : decode b_Mod_divide 179 = .ok (.iconst 1, 1) := by decide +kernel
theorem d_Mod_divide_180 : decode b_Mod_divide 180 = .ok (.iload 6, 2) := by decide +kernel
theorem d_Mod_divide_182 : decode b_Mod_divide 182 = .ok (.bipush 15, 2) := by decide +kernel
theorem d_Mod_divide_184 : decode b_Mod_divide 184 = .ok (.iand, 1) := by decide +kernel
theorem d_Mod_divide_185 : decode b_Mod_divide 185 = .ok (.ishl, 1) := by decide +kernel
theorem d_Mod_divide_186 : decode b_Mod_divide 186 = .ok (.iconst (-1), 1) := by decide +kernel
theorem d_Mod_divide_187 : decode b_Mod_divide 187 = .ok (.ixor, 1) := by decide +kernel
theorem d_Mod_divide_188 : decode b_Mod_divide 188 = .ok (.iand, 1) := by decide +kernel
theorem d_Mod_divide_189 : decode b_Mod_divide 189 = .ok (.iload 7, 2) := by decide +kernel
theorem d_Mod_divide_191 : decode b_Mod_divide 191 = .ok (.ifCond .eq 13, 3) := by decide +kernel
theorem d_Mod_divide_194 : decode b_Mod_divide 194 = .ok (.iconst 1, 1) := by decide +kernel
theorem d_Mod_divide_195 : decode b_Mod_divide 195 = .ok (.iload 6, 2) := by decide +kernel
theorem d_Mod_divide_197 : decode b_Mod_divide 197 = .ok (.bipush 15, 2) := by decide +kernel
theorem d_Mod_divide_199 : decode b_Mod_divide 199 = .ok (.iand, 1) := by decide +kernel
theorem d_Mod_divide_200 : decode b_Mod_divide 200 = .ok (.ishl, 1) := by decide +kernel
theorem d_Mod_divide_201 : decode b_Mod_divide 201 = .ok (.goto 4, 3) := by decide +kernel
theorem d_Mod_divide_204 : decode b_Mod_divide 204 = .ok (.iconst 0, 1) := by decide +kernel
theorem d_Mod_divide_205 : decode b_Mod_divide 205 = .ok (.ior, 1) := by decide +kernel
theorem d_Mod_divide_206 : decode b_Mod_divide 206 = .ok (.iastore, 1) := by decide +kernel
theorem d_Mod_divide_207 : decode b_Mod_divide 207 = .ok (.iinc 6 (-1), 3) := by decide +kernel
theorem d_Mod_divide_210 : decode b_Mod_divide 210 = .ok (.goto (-134), 3) := by decide +kernel
theorem d_Mod_divide_213 : decode b_Mod_divide 213 = .ok (.aload_n 0, 1) := by decide +kernel
theorem d_Mod_divide_214 : decode b_Mod_divide 214 = .ok (.iload_n 1, 1) := by decide +kernel
theorem d_Mod_divide_215 : decode b_Mod_divide 215 = .ok (.aload_n 0, 1) := by decide +kernel
theorem d_Mod_divide_216 : decode b_Mod_divide 216 = .ok (.getfield 17, 3) := by decide +kernel
theorem d_Mod_divide_219 : decode b_Mod_divide 219 = .ok (.iload 5, 2) := by decide +kernel
theorem d_Mod_divide_221 : decode b_Mod_divide 221 = .ok (.invokevirtual 54, 3) := by decide +kernel
theorem d_Mod_divide_224 : decode b_Mod_divide 224 = .ok (.ifCond .eq 23, 3) := by decide +kernel
theorem d_Mod_divide_227 : decode b_Mod_divide 227 = .ok (.aload_n 0, 1) := by decide +kernel
theorem d_Mod_divide_228 : decode b_Mod_divide 228 = .ok (.iload_n 2, 1) := by decide +kernel
theorem d_Mod_divide_229 : decode b_Mod_divide 229 = .ok (.aload_n 0, 1) := by decide +kernel
theorem d_Mod_divide_230 : decode b_Mod_divide 230 = .ok (.getfield 23, 3) := by decide +kernel
theorem d_Mod_divide_233 : decode b_Mod_divide 233 = .ok (.aload_n 0, 1) := by decide +kernel
theorem d_Mod_divide_234 : decode b_Mod_divide 234 = .ok (.getfield 33, 3) := by decide +kernel
theorem d_Mod_divide_237 : decode b_Mod_divide 237 = .ok (.invokevirtual 54, 3) := by decide +kernel
theorem d_Mod_divide_240 : decode b_Mod_divide 240 = .ok (.ifCond .eq 7, 3) := by decide +kernel
theorem d_Mod_divide_243 : decode b_Mod_divide 243 = .ok (.iconst 1, 1) := by decide +kernel
theorem d_Mod_divide_244 : decode b_Mod_divide 244 = .ok (.goto 4, 3) := by decide +kernel
theorem d_Mod_divide_247 : decode b_Mod_divide 247 = .ok (.iconst 0, 1) := by decide +kernel
theorem d_Mod_divide_248 : decode b_Mod_divide 248 = .ok (.ireturn, 1) := by decide +kernel
theorem d_Mod_halve_0 : decode b_Mod_halve 0 = .ok (.iconst 0, 1) := by decide +kernel
theorem d_Mod_halve_1 : decode b_Mod_halve 1 = .ok (.istore_n 1, 1) := by decide +kernel
theorem d_Mod_halve_2 : decode b_Mod_halve 2 = .ok (.iload_n 1, 1) := by decide +kernel
theorem d_Mod_halve_3 : decode b_Mod_halve 3 = .ok (.aload_n 0, 1) := by decide +kernel
theorem d_Mod_halve_4 : decode b_Mod_halve 4 = .ok (.getfield 30, 3) := by decide +kernel
theorem d_Mod_halve_7 : decode b_Mod_halve 7 = .ok (.if_icmp .ge 37, 3) := by decide +kernel
theorem d_Mod_halve_10 : decode b_Mod_halve 10 = .ok (.aload_n 0, 1) := by decide +kernel
theorem d_Mod_halve_11 : decode b_Mod_halve 11 = .ok (.getfield 20, 3) := by decide +kernel
theorem d_Mod_halve_14 : decode b_Mod_halve 14 = .ok (.iload_n 1, 1) := by decide +kernel
theorem d_Mod_halve_15 : decode b_Mod_halve 15 = .ok (.aload_n 0, 1) := by decide +kernel
theorem d_Mod_halve_16 : decode b_Mod_halve 16 = .ok (.getfield 20, 3) := by decide +kernel
theorem d_Mod_halve_19 : decode b_Mod_halve 19 = .ok (.iload_n 1, 1) := by decide +kernel
theorem d_Mod_halve_20 : decode b_Mod_halve 20 = .ok (.iaload, 1) := by decide +kernel
theorem d_Mod_halve_21 : decode b_Mod_halve 21 = .ok (.iconst 1, 1) := by decide +kernel
theorem d_Mod_halve_22 : decode b_Mod_halve 22 = .ok (.ishr, 1) := by decide +kernel
theorem d_Mod_halve_23 : decode b_Mod_halve 23 = .ok (.aload_n 0, 1) := by decide +kernel
theorem d_Mod_halve_24 : decode b_Mod_halve 24 = .ok (.getfield 20, 3) := by decide +kernel
theorem d_Mod_halve_27 : decode b_Mod_halve 27 = .ok (.iload_n 1, 1) := by decide +kernel
theorem d_Mod_halve_28 : decode b_Mod_halve 28 = .ok (.iconst 1, 1) := by decide +kernel
theorem d_Mod_halve_29 : decode b_Mod_halve 29 = .ok (.iadd, 1) := by decide +kernel
theorem d_Mod_halve_30 : decode b_Mod_halve 30 = .ok (.iaload, 1) := by decide +kernel
theorem d_Mod_halve_31 : decode b_Mod_halve 31 = .ok (.iconst 1, 1) := by decide +kernel
theorem d_Mod_halve_32 : decode b_Mod_halve 32 = .ok (.iand, 1) := by decide +kernel
theorem d_Mod_halve_33 : decode b_Mod_halve 33 = .ok (.bipush 15, 2) := by decide +kernel
theorem d_Mod_halve_35 : decode b_Mod_halve 35 = .ok (.ishl, 1) := by decide +kernel
theorem d_Mod_halve_36 : decode b_Mod_halve 36 = .ok (.ior, 1) := by decide +kernel
theorem d_Mod_halve_37 : decode b_Mod_halve 37 = .ok (.iastore, 1) := by decide +kernel
theorem d_Mod_halve_38 : decode b_Mod_halve 38 = .ok (.iinc 1 1, 3) := by decide +kernel
theorem d_Mod_halve_41 : decode b_Mod_halve 41 = .ok (.goto (-39), 3) := by decide +kernel
theorem d_Mod_halve_44 : decode b_Mod_halve 44 = .ok (.aload_n 0, 1) := by decide +kernel
theorem d_Mod_halve_45 : decode b_Mod_halve 45 = .ok (.aload_n 0, 1) := by decide +kernel
theorem d_Mod_halve_46 : decode b_Mod_halve 46 = .ok (.getfield 20, 3) := by decide +kernel
theorem d_Mod_halve_49 : decode b_Mod_halve 49 = .ok (.aload_n 0, 1) := by decide +kernel
theorem d_Mod_halve_50 : decode b_Mod_halve 50 = .ok (.getfield 30, 3) := by decide +kernel
theorem d_Mod_halve_53 : decode b_Mod_halve 53 = .ok (.invokestatic 36, 3) := by decide +kernel
theorem d_Mod_halve_56 : decode b_Mod_halve 56 = .ok (.putfield 30, 3) := by decide +kernel
theorem d_Mod_halve_59 : decode b_Mod_halve 59 = .ok (.return_, 1) := by decide +kernel
theorem d_Mod_init_0 : decode b_Mod_init 0 = .ok (.aload_n 0, 1) := by decide +kernel
theorem d_Mod_init_1 : decode b_Mod_init 1 = .ok (.invokespecial 1, 3) := by decide +kernel
theorem d_Mod_init_4 : decode b_Mod_init 4 = .ok (.aload_n 0, 1) := by decide +kernel
theorem d_Mod_init_5 : decode b_Mod_init 5 = .ok (.ldc 7, 2) := by decide +kernel
theorem d_Mod_init_7 : decode b_Mod_init 7 = .ok (.newarray .int, 2) := by decide +kernel
theorem d_Mod_init_9 : decode b_Mod_init 9 = .ok (.putfield 8, 3) := by decide +kernel
theorem d_Mod_init_12 : decode b_Mod_init 12 = .ok (.aload_n 0, 1) := by decide +kernel
theorem d_Mod_init_13 : decode b_Mod_init 13 = .ok (.bipush 16, 2) := by decide +kernel
theorem d_Mod_init_15 : decode b_Mod_init 15 = .ok (.newarray .int, 2) := by decide +kernel
theorem d_Mod_init_17 : decode b_Mod_init 17 = .ok (.putfield 14, 3) := by decide +kernel
theorem d_Mod_init_20 : decode b_Mod_init 20 = .ok (.aload_n 0, 1) := by decide +kernel
theorem d_Mod_init_21 : decode b_Mod_init 21 = .ok (.sipush 8200, 3) := by decide +kernel
theorem d_Mod_init_24 : decode b_Mod_init 24 = .ok (.newarray .int, 2) := by decide +kernel
theorem d_Mod_init_26 : decode b_Mod_init 26 = .ok (.putfield 17, 3) := by decide +kernel
theorem d_Mod_init_29 : decode b_Mod_init 29 = .ok (.aload_n 0, 1) := by decide +kernel
theorem d_Mod_init_30 : decode b_Mod_init 30 = .ok (.sipush 8200, 3) := by decide +kernel
theorem d_Mod_init_33 : decode b_Mod_init 33 = .ok (.newarray .int, 2) := by decide +kernel
theorem d_Mod_init_35 : decode b_Mod_init 35 = .ok (.putfield 20, 3) := by decide +kernel
theorem d_Mod_init_38 : decode b_Mod_init 38 = .ok (.aload_n 0, 1) := by decide +kernel
theorem d_Mod_init_39 : decode b_Mod_init 39 = .ok (.sipush 8200, 3) := by decide +kernel
theorem d_Mod_init_42 : decode b_Mod_init 42 = .ok (.newarray .int, 2) := by decide +kernel
theorem d_Mod_init_44 : decode b_Mod_init 44 = .ok (.putfield 23, 3) := by decide +kernel
theorem d_Mod_init_47 : decode b_Mod_init 47 = .ok (.return_, 1) := by decide +kernel
theorem d_Mod_isRegister_0 : decode b_Mod_isRegister 0 = .ok (.iload_n 0, 1) := by decide +kernel
theorem d_Mod_isRegister_1 : decode b_Mod_isRegister 1 = .ok (.ifCond .lt 13, 3) := by decide +kernel
theorem d_Mod_isRegister_4 : decode b_Mod_isRegister 4 = .ok (.iload_n 0, 1) := by decide +kernel
theorem d_Mod_isRegister_5 : decode b_Mod_isRegister 5 = .ok (.bipush 16, 2) := by decide +kernel
theorem d_Mod_isRegister_7 : decode b_Mod_isRegister 7 = .ok (.if_icmp .ge 7, 3) := by decide +kernel
theorem d_Mod_isRegister_10 : decode b_Mod_isRegister 10 = .ok (.iconst 1, 1) := by decide +kernel
theorem d_Mod_isRegister_11 : decode b_Mod_isRegister 11 = .ok (.goto 4, 3) := by decide +kernel
theorem d_Mod_isRegister_14 : decode b_Mod_isRegister 14 = .ok (.iconst 0, 1) := by decide +kernel
theorem d_Mod_isRegister_15 : decode b_Mod_isRegister 15 = .ok (.ireturn, 1) := by decide +kernel
theorem d_Mod_lessen_0 : decode b_Mod_lessen 0 = .ok (.iconst 0, 1) := by decide +kernel
theorem d_Mod_lessen_1 : decode b_Mod_lessen 1 = .ok (.istore 4, 2) := by decide +kernel
theorem d_Mod_lessen_3 : decode b_Mod_lessen 3 = .ok (.iconst 0, 1) := by decide +kernel
theorem d_Mod_lessen_4 : decode b_Mod_lessen 4 = .ok (.istore 5, 2) := by decide +kernel
theorem d_Mod_lessen_6 : decode b_Mod_lessen 6 = .ok (.iload 5, 2) := by decide +kernel
theorem d_Mod_lessen_8 : decode b_Mod_lessen 8 = .ok (.iload_n 1, 1) := by decide +kernel
theorem d_Mod_lessen_9 : decode b_Mod_lessen 9 = .ok (.if_icmp .ge 64, 3) := by decide +kernel
theorem d_Mod_lessen_12 : decode b_Mod_lessen 12 = .ok (.aload_n 0, 1) := by decide +kernel
theorem d_Mod_lessen_13 : decode b_Mod_lessen 13 = .ok (.iload 5, 2) := by decide +kernel
theorem d_Mod_lessen_15 : decode b_Mod_lessen 15 = .ok (.iaload, 1) := by decide +kernel
theorem d_Mod_lessen_16 : decode b_Mod_lessen 16 = .ok (.iload 5, 2) := by decide +kernel
theorem d_Mod_lessen_18 : decode b_Mod_lessen 18 = .ok (.iload_n 3, 1) := by decide +kernel
theorem d_Mod_lessen_19 : decode b_Mod_lessen 19 = .ok (.if_icmp .ge 10, 3) := by decide +kernel
theorem d_Mod_lessen_22 : decode b_Mod_lessen 22 = .ok (.aload_n 2, 1) := by decide +kernel
theorem d_Mod_lessen_23 : decode b_Mod_lessen 23 = .ok (.iload 5, 2) := by decide +kernel
theorem d_Mod_lessen_25 : decode b_Mod_lessen 25 = .ok (.iaload, 1) := by decide +kernel
theorem d_Mod_lessen_26 : decode b_Mod_lessen 26 = .ok (.goto 4, 3) := by decide +kernel
theorem d_Mod_lessen_29 : decode b_Mod_lessen 29 = .ok (.iconst 0, 1) := by decide +kernel
theorem d_Mod_lessen_30 : decode b_Mod_lessen 30 = .ok (.isub, 1) := by decide +kernel
theorem d_Mod_lessen_31 : decode b_Mod_lessen 31 = .ok (.iload 4, 2) := by decide +kernel
theorem d_Mod_lessen_33 : decode b_Mod_lessen 33 = .ok (.isub, 1) := by decide +kernel
theorem d_Mod_lessen_34 : decode b_Mod_lessen 34 = .ok (.istore 6, 2) := by decide +kernel
theorem d_Mod_lessen_36 : decode b_Mod_lessen 36 = .ok (.iload 6, 2) := by decide +kernel
theorem d_Mod_lessen_38 : decode b_Mod_lessen 38 = .ok (.ifCond .ge 7, 3) := by decide +kernel
theorem d_Mod_lessen_41 : decode b_Mod_lessen 41 = .ok (.iconst 1, 1) := by decide +kernel
theorem d_Mod_lessen_42 : decode b_Mod_lessen 42 = .ok (.goto 4, 3) := by decide +kernel
theorem d_Mod_lessen_45 : decode b_Mod_lessen 45 = .ok (.iconst 0, 1) := by decide +kernel
theorem d_Mod_lessen_46 : decode b_Mod_lessen 46 = .ok (.istore 4, 2) := by decide +kernel
theorem d_Mod_lessen_48 : decode b_Mod_lessen 48 = .ok (.aload_n 0, 1) := by decide +kernel
theorem d_Mod_lessen_49 : decode b_Mod_lessen 49 = .ok (.iload 5, 2) := by decide +kernel
theorem d_Mod_lessen_51 : decode b_Mod_lessen 51 = .ok (.iload 6, 2) := by decide +kernel
theorem d_Mod_lessen_53 : decode b_Mod_lessen 53 = .ok (.ifCond .ge 11, 3) := by decide +kernel
theorem d_Mod_lessen_56 : decode b_Mod_lessen 56 = .ok (.iload 6, 2) := by decide +kernel
theorem d_Mod_lessen_58 : decode b_Mod_lessen 58 = .ok (.ldc 7, 2) := by decide +kernel
theorem d_Mod_lessen_60 : decode b_Mod_lessen 60 = .ok (.iadd, 1) := by decide +kernel
theorem d_Mod_lessen_61 : decode b_Mod_lessen 61 = .ok (.goto 5, 3) := by decide +kernel
theorem d_Mod_lessen_64 : decode b_Mod_lessen 64 = .ok (.iload 6, 2) := by decide +kernel
theorem d_Mod_lessen_66 : decode b_Mod_lessen 66 = .ok (.iastore, 1) := by decide +kernel
theorem d_Mod_lessen_67 : decode b_Mod_lessen 67 = .ok (.iinc 5 1, 3) := by decide +kernel
theorem d_Mod_lessen_70 : decode b_Mod_lessen 70 = .ok (.goto (-64), 3) := by decide +kernel
theorem d_Mod_lessen_73 : decode b_Mod_lessen 73 = .ok (.aload_n 0, 1) := by decide +kernel
theorem d_Mod_lessen_74 : decode b_Mod_lessen 74 = .ok (.iload_n 1, 1) := by decide +kernel
theorem d_Mod_lessen_75 : decode b_Mod_lessen 75 = .ok (.invokestatic 36, 3) := by decide +kernel
theorem d_Mod_lessen_78 : decode b_Mod_lessen 78 = .ok (.ireturn, 1) := by decide +kernel
theorem d_Mod_loadX_0 : decode b_Mod_loadX 0 = .ok (.iconst 0, 1) := by decide +kernel
theorem d_Mod_loadX_1 : decode b_Mod_loadX 1 = .ok (.istore_n 2, 1) := by decide +kernel
theorem d_Mod_loadX_2 : decode b_Mod_loadX 2 = .ok (.iload_n 2, 1) := by decide +kernel
theorem d_Mod_loadX_3 : decode b_Mod_loadX 3 = .ok (.sipush 8200, 3) := by decide +kernel
theorem d_Mod_loadX_6 : decode b_Mod_loadX 6 = .ok (.if_icmp .ge 41, 3) := by decide +kernel
theorem d_Mod_loadX_9 : decode b_Mod_loadX 9 = .ok (.aload_n 0, 1) := by decide +kernel
theorem d_Mod_loadX_10 : decode b_Mod_loadX 10 = .ok (.getfield 17, 3) := by decide +kernel
theorem d_Mod_loadX_13 : decode b_Mod_loadX 13 = .ok (.iload_n 2, 1) := by decide +kernel
theorem d_Mod_loadX_14 : decode b_Mod_loadX 14 = .ok (.iload_n 2, 1) := by decide +kernel
theorem d_Mod_loadX_15 : decode b_Mod_loadX 15 = .ok (.aload_n 0, 1) := by decide +kernel
theorem d_Mod_loadX_16 : decode b_Mod_loadX 16 = .ok (.getfield 14, 3) := by decide +kernel
theorem d_Mod_loadX_19 : decode b_Mod_loadX 19 = .ok (.iload_n 1, 1) := by decide +kernel
theorem d_Mod_loadX_20 : decode b_Mod_loadX 20 = .ok (.iaload, 1) := by decide +kernel
theorem d_Mod_loadX_21 : decode b_Mod_loadX 21 = .ok (.if_icmp .ge 18, 3) := by decide +kernel
theorem d_Mod_loadX_24 : decode b_Mod_loadX 24 = .ok (.aload_n 0, 1) := by decide +kernel
theorem d_Mod_loadX_25 : decode b_Mod_loadX 25 = .ok (.getfield 8, 3) := by decide +kernel
theorem d_Mod_loadX_28 : decode b_Mod_loadX 28 = .ok (.sipush 4096, 3) := by decide +kernel
theorem d_Mod_loadX_31 : decode b_Mod_loadX 31 = .ok (.iload_n 1, 1) := by decide +kernel
theorem d_Mod_loadX_32 : decode b_Mod_loadX 32 = .ok (.imul, 1) := by decide +kernel
theorem d_Mod_loadX_33 : decode b_Mod_loadX 33 = .ok (.iload_n 2, 1) := by decide +kernel
theorem d_Mod_loadX_34 : decode b_Mod_loadX 34 = .ok (.iadd, 1) := by decide +kernel
theorem d_Mod_loadX_35 : decode b_Mod_loadX 35 = .ok (.iaload, 1) := by decide +kernel
theorem d_Mod_loadX_36 : decode b_Mod_loadX 36 = .ok (.goto 4, 3) := by decide +kernel
theorem d_Mod_loadX_39 : decode b_Mod_loadX 39 = .ok (.iconst 0, 1) := by decide +kernel
theorem d_Mod_loadX_40 : decode b_Mod_loadX 40 = .ok (.iastore, 1) := by decide +kernel
theorem d_Mod_loadX_41 : decode b_Mod_loadX 41 = .ok (.iinc 2 1, 3) := by decide +kernel
theorem d_Mod_loadX_44 : decode b_Mod_loadX 44 = .ok (.goto (-42), 3) := by decide +kernel
theorem d_Mod_loadX_47 : decode b_Mod_loadX 47 = .ok (.aload_n 0, 1) := by decide +kernel
theorem d_Mod_loadX_48 : decode b_Mod_loadX 48 = .ok (.aload_n 0, 1) := by decide +kernel
theorem d_Mod_loadX_49 : decode b_Mod_loadX 49 = .ok (.getfield 14, 3) := by decide +kernel
theorem d_Mod_loadX_52 : decode b_Mod_loadX 52 = .ok (.iload_n 1, 1) := by decide +kernel
theorem d_Mod_loadX_53 : decode b_Mod_loadX 53 = .ok (.iaload, 1) := by decide +kernel
theorem d_Mod_loadX_54 : decode b_Mod_loadX 54 = .ok (.putfield 26, 3) := by decide +kernel
theorem d_Mod_loadX_57 : decode b_Mod_loadX 57 = .ok (.return_, 1) := by decide +kernel
theorem d_Mod_loadY_0 : decode b_Mod_loadY 0 = .ok (.iconst 0, 1) := by decide +kernel
theorem d_Mod_loadY_1 : decode b_Mod_loadY 1 = .ok (.istore_n 2, 1) := by decide +kernel
theorem d_Mod_loadY_2 : decode b_Mod_loadY 2 = .ok (.iload_n 2, 1) := by decide +kernel
theorem d_Mod_loadY_3 : decode b_Mod_loadY 3 = .ok (.sipush 8200, 3) := by decide +kernel
theorem d_Mod_loadY_6 : decode b_Mod_loadY 6 = .ok (.if_icmp .ge 41, 3) := by decide +kernel
theorem d_Mod_loadY_9 : decode b_Mod_loadY 9 = .ok (.aload_n 0, 1) := by decide +kernel
theorem d_Mod_loadY_10 : decode b_Mod_loadY 10 = .ok (.getfield 20, 3) := by decide +kernel
theorem d_Mod_loadY_13 : decode b_Mod_loadY 13 = .ok (.iload_n 2, 1) := by decide +kernel
theorem d_Mod_loadY_14 : decode b_Mod_loadY 14 = .ok (.iload_n 2, 1) := by decide +kernel
theorem d_Mod_loadY_15 : decode b_Mod_loadY 15 = .ok (.aload_n 0, 1) := by decide +kernel
theorem d_Mod_loadY_16 : decode b_Mod_loadY 16 = .ok (.getfield 14, 3) := by decide +kernel
theorem d_Mod_loadY_19 : decode b_Mod_loadY 19 = .ok (.iload_n 1, 1) := by decide +kernel
theorem d_Mod_loadY_20 : decode b_Mod_loadY 20 = .ok (.iaload, 1) := by decide +kernel
theorem d_Mod_loadY_21 : decode b_Mod_loadY 21 = .ok (.if_icmp .ge 18, 3) := by decide +kernel
theorem d_Mod_loadY_24 : decode b_Mod_loadY 24 = .ok (.aload_n 0, 1) := by decide +kernel
theorem d_Mod_loadY_25 : decode b_Mod_loadY 25 = .ok (.getfield 8, 3) := by decide +kernel
theorem d_Mod_loadY_28 : decode b_Mod_loadY 28 = .ok (.sipush 4096, 3) := by decide +kernel
theorem d_Mod_loadY_31 : decode b_Mod_loadY 31 = .ok (.iload_n 1, 1) := by decide +kernel
theorem d_Mod_loadY_32 : decode b_Mod_loadY 32 = .ok (.imul, 1) := by decide +kernel
theorem d_Mod_loadY_33 : decode b_Mod_loadY 33 = .ok (.iload_n 2, 1) := by decide +kernel
theorem d_Mod_loadY_34 : decode b_Mod_loadY 34 = .ok (.iadd, 1) := by decide +kernel
theorem d_Mod_loadY_35 : decode b_Mod_loadY 35 = .ok (.iaload, 1) := by decide +kernel
theorem d_Mod_loadY_36 : decode b_Mod_loadY 36 = .ok (.goto 4, 3) := by decide +kernel
theorem d_Mod_loadY_39 : decode b_Mod_loadY 39 = .ok (.iconst 0, 1) := by decide +kernel
theorem d_Mod_loadY_40 : decode b_Mod_loadY 40 = .ok (.iastore, 1) := by decide +kernel
theorem d_Mod_loadY_41 : decode b_Mod_loadY 41 = .ok (.iinc 2 1, 3) := by decide +kernel
theorem d_Mod_loadY_44 : decode b_Mod_loadY 44 = .ok (.goto (-42), 3) := by decide +kernel
theorem d_Mod_loadY_47 : decode b_Mod_loadY 47 = .ok (.aload_n 0, 1) := by decide +kernel
theorem d_Mod_loadY_48 : decode b_Mod_loadY 48 = .ok (.aload_n 0, 1) := by decide +kernel
theorem d_Mod_loadY_49 : decode b_Mod_loadY 49 = .ok (.getfield 14, 3) := by decide +kernel
theorem d_Mod_loadY_52 : decode b_Mod_loadY 52 = .ok (.iload_n 1, 1) := by decide +kernel
theorem d_Mod_loadY_53 : decode b_Mod_loadY 53 = .ok (.iaload, 1) := by decide +kernel
theorem d_Mod_loadY_54 : decode b_Mod_loadY 54 = .ok (.putfield 30, 3) := by decide +kernel
theorem d_Mod_loadY_57 : decode b_Mod_loadY 57 = .ok (.return_, 1) := by decide +kernel
theorem d_Mod_lowest_0 : decode b_Mod_lowest 0 = .ok (.iload_n 1, 1) := by decide +kernel
theorem d_Mod_lowest_1 : decode b_Mod_lowest 1 = .ok (.invokestatic 41, 3) := by decide +kernel
theorem d_Mod_lowest_4 : decode b_Mod_lowest 4 = .ok (.ifCond .eq 12, 3) := by decide +kernel
theorem d_Mod_lowest_7 : decode b_Mod_lowest 7 = .ok (.aload_n 0, 1) := by decide +kernel
theorem d_Mod_lowest_8 : decode b_Mod_lowest 8 = .ok (.getfield 14, 3) := by decide +kernel
theorem d_Mod_lowest_11 : decode b_Mod_lowest 11 = .ok (.iload_n 1, 1) := by decide +kernel
theorem d_Mod_lowest_12 : decode b_Mod_lowest 12 = .ok (.iaload, 1) := by decide +kernel
theorem d_Mod_lowest_13 : decode b_Mod_lowest 13 = .ok (.ifCond .ne 5, 3) := by decide +kernel
theorem d_Mod_lowest_16 : decode b_Mod_lowest 16 = .ok (.iconst (-1), 1) := by decide +kernel
theorem d_Mod_lowest_17 : decode b_Mod_lowest 17 = .ok (.ireturn, 1) := by decide +kernel
theorem d_Mod_lowest_18 : decode b_Mod_lowest 18 = .ok (.iconst 0, 1) := by decide +kernel
theorem d_Mod_lowest_19 : decode b_Mod_lowest 19 = .ok (.istore_n 2, 1) := by decide +kernel
theorem d_Mod_lowest_20 : decode b_Mod_lowest 20 = .ok (.aload_n 0, 1) := by decide +kernel
theorem d_Mod_lowest_21 : decode b_Mod_lowest 21 = .ok (.getfield 8, 3) := by decide +kernel
theorem d_Mod_lowest_24 : decode b_Mod_lowest 24 = .ok (.sipush 4096, 3) := by decide +kernel
theorem d_Mod_lowest_27 : decode b_Mod_lowest 27 = .ok (.iload_n 1, 1) := by decide +kernel
theorem d_Mod_lowest_28 : decode b_Mod_lowest 28 = .ok (.imul, 1) := by decide +kernel
theorem d_Mod_lowest_29 : decode b_Mod_lowest 29 = .ok (.iload_n 2, 1) := by decide +kernel
theorem d_Mod_lowest_30 : decode b_Mod_lowest 30 = .ok (.iconst 4, 1) := by decide +kernel
theorem d_Mod_lowest_31 : decode b_Mod_lowest 31 = .ok (.ishr, 1) := by decide +kernel
theorem d_Mod_lowest_32 : decode b_Mod_lowest 32 = .ok (.iadd, 1) := by decide +kernel
theorem d_Mod_lowest_33 : decode b_Mod_lowest 33 = .ok (.iaload, 1) := by decide +kernel
theorem d_Mod_lowest_34 : decode b_Mod_lowest 34 = .ok (.iload_n 2, 1) := by decide +kernel
theorem d_Mod_lowest_35 : decode b_Mod_lowest 35 = .ok (.bipush 15, 2) := by decide +kernel
theorem d_Mod_lowest_37 : decode b_Mod_lowest 37 = .ok (.iand, 1) := by decide +kernel
theorem d_Mod_lowest_38 : decode b_Mod_lowest 38 = .ok (.ishr, 1) := by decide +kernel
theorem d_Mod_lowest_39 : decode b_Mod_lowest 39 = .ok (.iconst 1, 1) := by decide +kernel
theorem d_Mod_lowest_40 : decode b_Mod_lowest 40 = .ok (.iand, 1) := by decide +kernel
theorem d_Mod_lowest_41 : decode b_Mod_lowest 41 = .ok (.ifCond .ne 9, 3) := by decide +kernel
theorem d_Mod_lowest_44 : decode b_Mod_lowest 44 = .ok (.iinc 2 1, 3) := by decide +kernel
theorem d_Mod_lowest_47 : decode b_Mod_lowest 47 = .ok (.goto (-27), 3) := by decide +kernel
theorem d_Mod_lowest_50 : decode b_Mod_lowest 50 = .ok (.iload_n 2, 1) := by decide +kernel
theorem d_Mod_lowest_51 : decode b_Mod_lowest 51 = .ok (.ireturn, 1) := by decide +kernel
theorem d_Mod_moved_0 : decode b_Mod_moved 0 = .ok (.aload_n 0, 1) := by decide +kernel
theorem d_Mod_moved_1 : decode b_Mod_moved 1 = .ok (.iload_n 2, 1) := by decide +kernel
theorem d_Mod_moved_2 : decode b_Mod_moved 2 = .ok (.invokevirtual 45, 3) := by decide +kernel
theorem d_Mod_moved_5 : decode b_Mod_moved 5 = .ok (.aload_n 0, 1) := by decide +kernel
theorem d_Mod_moved_6 : decode b_Mod_moved 6 = .ok (.invokevirtual 49, 3) := by decide +kernel
theorem d_Mod_moved_9 : decode b_Mod_moved 9 = .ok (.ldc2_w 79, 3) := by decide +kernel
theorem d_Mod_moved_12 : decode b_Mod_moved 12 = .ok (.aload_n 0, 1) := by decide +kernel
theorem d_Mod_moved_13 : decode b_Mod_moved 13 = .ok (.getfield 26, 3) := by decide +kernel
theorem d_Mod_moved_16 : decode b_Mod_moved 16 = .ok (.i2l, 1) := by decide +kernel
theorem d_Mod_moved_17 : decode b_Mod_moved 17 = .ok (.lmul, 1) := by decide +kernel
theorem d_Mod_moved_18 : decode b_Mod_moved 18 = .ok (.lstore 9, 2) := by decide +kernel
theorem d_Mod_moved_20 : decode b_Mod_moved 20 = .ok (.lload_n 3, 1) := by decide +kernel
theorem d_Mod_moved_21 : decode b_Mod_moved 21 = .ok (.lload 5, 2) := by decide +kernel
theorem d_Mod_moved_23 : decode b_Mod_moved 23 = .ok (.ladd, 1) := by decide +kernel
theorem d_Mod_moved_24 : decode b_Mod_moved 24 = .ok (.lload 9, 2) := by decide +kernel
theorem d_Mod_moved_26 : decode b_Mod_moved 26 = .ok (.lcmp, 1) := by decide +kernel
theorem d_Mod_moved_27 : decode b_Mod_moved 27 = .ok (.ifCond .ge 10, 3) := by decide +kernel
theorem d_Mod_moved_30 : decode b_Mod_moved 30 = .ok (.lload_n 3, 1) := by decide +kernel
theorem d_Mod_moved_31 : decode b_Mod_moved 31 = .ok (.lload 5, 2) := by decide +kernel
theorem d_Mod_moved_33 : decode b_Mod_moved 33 = .ok (.ladd, 1) := by decide +kernel
theorem d_Mod_moved_34 : decode b_Mod_moved 34 = .ok (.goto 5, 3) := by decide +kernel
theorem d_Mod_moved_37 : decode b_Mod_moved 37 = .ok (.lload 9, 2) := by decide +kernel
theorem d_Mod_moved_39 : decode b_Mod_moved 39 = .ok (.lstore 11, 2) := by decide +kernel
theorem d_Mod_moved_41 : decode b_Mod_moved 41 = .ok (.lload_n 3, 1) := by decide +kernel
theorem d_Mod_moved_42 : decode b_Mod_moved 42 = .ok (.lstore 13, 2) := by decide +kernel
theorem d_Mod_moved_44 : decode b_Mod_moved 44 = .ok (.lload 13, 2) := by decide +kernel
theorem d_Mod_moved_46 : decode b_Mod_moved 46 = .ok (.lload 11, 2) := by decide +kernel
theorem d_Mod_moved_48 : decode b_Mod_moved 48 = .ok (.lcmp, 1) := by decide +kernel
theorem d_Mod_moved_49 : decode b_Mod_moved 49 = .ok (.ifCond .ge 57, 3) := by decide +kernel
theorem d_Mod_moved_52 : decode b_Mod_moved 52 = .ok (.lload 13, 2) := by decide +kernel
theorem d_Mod_moved_54 : decode b_Mod_moved 54 = .ok (.lload_n 3, 1) := by decide +kernel
theorem d_Mod_moved_55 : decode b_Mod_moved 55 = .ok (.lsub, 1) := by decide +kernel
theorem d_Mod_moved_56 : decode b_Mod_moved 56 = .ok (.lload 7, 2) := by decide +kernel
theorem d_Mod_moved_58 : decode b_Mod_moved 58 = .ok (.ladd, 1) := by decide +kernel
theorem d_Mod_moved_59 : decode b_Mod_moved 59 = .ok (.l2i, 1) := by decide +kernel
theorem d_Mod_moved_60 : decode b_Mod_moved 60 = .ok (.istore 15, 2) := by decide +kernel
theorem d_Mod_moved_62 : decode b_Mod_moved 62 = .ok (.aload_n 0, 1) := by decide +kernel
theorem d_Mod_moved_63 : decode b_Mod_moved 63 = .ok (.getfield 23, 3) := by decide +kernel
theorem d_Mod_moved_66 : decode b_Mod_moved 66 = .ok (.iload 15, 2) := by decide +kernel
theorem d_Mod_moved_68 : decode b_Mod_moved 68 = .ok (.iconst 4, 1) := by decide +kernel
theorem d_Mod_moved_69 : decode b_Mod_moved 69 = .ok (.ishr, 1) := by decide +kernel
theorem d_Mod_moved_70 : decode b_Mod_moved 70 = .ok (.aload_n 0, 1) := by decide +kernel
theorem d_Mod_moved_71 : decode b_Mod_moved 71 = .ok (.getfield 23, 3) := by decide +kernel
theorem d_Mod_moved_74 : decode b_Mod_moved 74 = .ok (.iload 15, 2) := by decide +kernel
theorem d_Mod_moved_76 : decode b_Mod_moved 76 = .ok (.iconst 4, 1) := by decide +kernel
theorem d_Mod_moved_77 : decode b_Mod_moved 77 = .ok (.ishr, 1) := by decide +kernel
theorem d_Mod_moved_78 : decode b_Mod_moved 78 = .ok (.iaload, 1) := by decide +kernel
theorem d_Mod_moved_79 : decode b_Mod_moved 79 = .ok (.aload_n 0, 1) := by decide +kernel
theorem d_Mod_moved_80 : decode b_Mod_moved 80 = .ok (.getfield 17, 3) := by decide +kernel
theorem d_Mod_moved_83 : decode b_Mod_moved 83 = .ok (.lload 13, 2) := by decide +kernel
theorem d_Mod_moved_85 : decode b_Mod_moved 85 = .ok (.l2i, 1) := by decide +kernel
theorem d_Mod_moved_86 : decode b_Mod_moved 86 = .ok (.invokestatic 68, 3) := by decide +kernel
theorem d_Mod_moved_89 : decode b_Mod_moved 89 = .ok (.iload 15, 2) := by decide +kernel
theorem d_Mod_moved_91 : decode b_Mod_moved 91 = .ok (.bipush 15, 2) := by decide +kernel
theorem d_Mod_moved_93 : decode b_Mod_moved 93 = .ok (.iand, 1) := by decide +kernel
theorem d_Mod_moved_94 : decode b_Mod_moved 94 = .ok (.ishl, 1) := by decide +kernel
theorem d_Mod_moved_95 : decode b_Mod_moved 95 = .ok (.ior, 1) := by decide +kernel
theorem d_Mod_moved_96 : decode b_Mod_moved 96 = .ok (.iastore, 1) := by decide +kernel
theorem d_Mod_moved_97 : decode b_Mod_moved 97 = .ok (.lload 13, 2) := by decide +kernel
theorem d_Mod_moved_99 : decode b_Mod_moved 99 = .ok (.lconst 1, 1) := by decide +kernel
theorem d_Mod_moved_100 : decode b_Mod_moved 100 = .ok (.ladd, 1) := by decide +kernel
theorem d_Mod_moved_101 : decode b_Mod_moved 101 = .ok (.lstore 13, 2) := by decide +kernel
theorem d_Mod_moved_103 : decode b_Mod_moved 103 = .ok (.goto (-59), 3) := by decide +kernel
theorem d_Mod_moved_106 : decode b_Mod_moved 106 = .ok (.aload_n 0, 1) := by decide +kernel
theorem d_Mod_moved_107 : decode b_Mod_moved 107 = .ok (.iload_n 1, 1) := by decide +kernel
theorem d_Mod_moved_108 : decode b_Mod_moved 108 = .ok (.aload_n 0, 1) := by decide +kernel
theorem d_Mod_moved_109 : decode b_Mod_moved 109 = .ok (.getfield 23, 3) := by decide +kernel
theorem d_Mod_moved_112 : decode b_Mod_moved 112 = .ok (.sipush 8200, 3) := by decide +kernel
theorem d_Mod_moved_115 : decode b_Mod_moved 115 = .ok (.invokevirtual 54, 3) := by decide +kernel
theorem d_Mod_moved_118 : decode b_Mod_moved 118 = .ok (.ireturn, 1) := by decide +kernel
theorem d_Mod_ones_0 : decode b_Mod_ones 0 = .ok (.iload_n 1, 1) := by decide +kernel
theorem d_Mod_ones_1 : decode b_Mod_ones 1 = .ok (.invokestatic 41, 3) := by decide +kernel
theorem d_Mod_ones_4 : decode b_Mod_ones 4 = .ok (.ifCond .ne 5, 3) := by decide +kernel
theorem d_Mod_ones_7 : decode b_Mod_ones 7 = .ok (.iconst (-1), 1) := by decide +kernel
theorem d_Mod_ones_8 : decode b_Mod_ones 8 = .ok (.ireturn, 1) := by decide +kernel
theorem d_Mod_ones_9 : decode b_Mod_ones 9 = .ok (.iconst 0, 1) := by decide +kernel
theorem d_Mod_ones_10 : decode b_Mod_ones 10 = .ok (.istore_n 2, 1) := by decide +kernel
theorem d_Mod_ones_11 : decode b_Mod_ones 11 = .ok (.iconst 0, 1) := by decide +kernel
theorem d_Mod_ones_12 : decode b_Mod_ones 12 = .ok (.istore_n 3, 1) := by decide +kernel
theorem d_Mod_ones_13 : decode b_Mod_ones 13 = .ok (.iload_n 3, 1) := by decide +kernel
theorem d_Mod_ones_14 : decode b_Mod_ones 14 = .ok (.aload_n 0, 1) := by decide +kernel
theorem d_Mod_ones_15 : decode b_Mod_ones 15 = .ok (.getfield 14, 3) := by decide +kernel
theorem d_Mod_ones_18 : decode b_Mod_ones 18 = .ok (.iload_n 1, 1) := by decide +kernel
theorem d_Mod_ones_19 : decode b_Mod_ones 19 = .ok (.iaload, 1) := by decide +kernel
theorem d_Mod_ones_20 : decode b_Mod_ones 20 = .ok (.if_icmp .ge 44, 3) := by decide +kernel
theorem d_Mod_ones_23 : decode b_Mod_ones 23 = .ok (.aload_n 0, 1) := by decide +kernel
theorem d_Mod_ones_24 : decode b_Mod_ones 24 = .ok (.getfield 8, 3) := by decide +kernel
theorem d_Mod_ones_27 : decode b_Mod_ones 27 = .ok (.sipush 4096, 3) := by decide +kernel
theorem d_Mod_ones_30 : decode b_Mod_ones 30 = .ok (.iload_n 1, 1) := by decide +kernel
theorem d_Mod_ones_31 : decode b_Mod_ones 31 = .ok (.imul, 1) := by decide +kernel
theorem d_Mod_ones_32 : decode b_Mod_ones 32 = .ok (.iload_n 3, 1) := by decide +kernel
theorem d_Mod_ones_33 : decode b_Mod_ones 33 = .ok (.iadd, 1) := by decide +kernel
theorem d_Mod_ones_34 : decode b_Mod_ones 34 = .ok (.iaload, 1) := by decide +kernel
theorem d_Mod_ones_35 : decode b_Mod_ones 35 = .ok (.istore 4, 2) := by decide +kernel
theorem d_Mod_ones_37 : decode b_Mod_ones 37 = .ok (.iload 4, 2) := by decide +kernel
theorem d_Mod_ones_39 : decode b_Mod_ones 39 = .ok (.ifCond .le 19, 3) := by decide +kernel
theorem d_Mod_ones_42 : decode b_Mod_ones 42 = .ok (.iload_n 2, 1) := by decide +kernel
theorem d_Mod_ones_43 : decode b_Mod_ones 43 = .ok (.iload 4, 2) := by decide +kernel
theorem d_Mod_ones_45 : decode b_Mod_ones 45 = .ok (.iconst 1, 1) := by decide +kernel
theorem d_Mod_ones_46 : decode b_Mod_ones 46 = .ok (.iand, 1) := by decide +kernel
theorem d_Mod_ones_47 : decode b_Mod_ones 47 = .ok (.iadd, 1) := by decide +kernel
theorem d_Mod_ones_48 : decode b_Mod_ones 48 = .ok (.istore_n 2, 1) := by decide +kernel
theorem d_Mod_ones_49 : decode b_Mod_ones 49 = .ok (.iload 4, 2) := by decide +kernel
theorem d_Mod_ones_51 : decode b_Mod_ones 51 = .ok (.iconst 1, 1) := by decide +kernel
theorem d_Mod_ones_52 : decode b_Mod_ones 52 = .ok (.ishr, 1) := by decide +kernel
theorem d_Mod_ones_53 : decode b_Mod_ones 53 = .ok (.istore 4, 2) := by decide +kernel
theorem d_Mod_ones_55 : decode b_Mod_ones 55 = .ok (.goto (-18), 3) := by decide +kernel
theorem d_Mod_ones_58 : decode b_Mod_ones 58 = .ok (.iinc 3 1, 3) := by decide +kernel
theorem d_Mod_ones_61 : decode b_Mod_ones 61 = .ok (.goto (-48), 3) := by decide +kernel
theorem d_Mod_ones_64 : decode b_Mod_ones 64 = .ok (.iload_n 2, 1) := by decide +kernel
theorem d_Mod_ones_65 : decode b_Mod_ones 65 = .ok (.ireturn, 1) := by decide +kernel
theorem d_Mod_part_0 : decode b_Mod_part 0 = .ok (.iload_n 1, 1) := by decide +kernel
theorem d_Mod_part_1 : decode b_Mod_part 1 = .ok (.invokestatic 41, 3) := by decide +kernel
theorem d_Mod_part_4 : decode b_Mod_part 4 = .ok (.ifCond .eq 19, 3) := by decide +kernel
theorem d_Mod_part_7 : decode b_Mod_part 7 = .ok (.iload_n 2, 1) := by decide +kernel
theorem d_Mod_part_8 : decode b_Mod_part 8 = .ok (.invokestatic 41, 3) := by decide +kernel
theorem d_Mod_part_11 : decode b_Mod_part 11 = .ok (.ifCond .eq 12, 3) := by decide +kernel
theorem d_Mod_part_14 : decode b_Mod_part 14 = .ok (.iload_n 3, 1) := by decide +kernel
theorem d_Mod_part_15 : decode b_Mod_part 15 = .ok (.ifCond .lt 8, 3) := by decide +kernel
theorem d_Mod_part_18 : decode b_Mod_part 18 = .ok (.iload 4, 2) := by decide +kernel
theorem d_Mod_part_20 : decode b_Mod_part 20 = .ok (.ifCond .ge 5, 3) := by decide +kernel
theorem d_Mod_part_23 : decode b_Mod_part 23 = .ok (.iconst 0, 1) := by decide +kernel
theorem d_Mod_part_24 : decode b_Mod_part 24 = .ok (.ireturn, 1) := by decide +kernel
theorem d_Mod_part_25 : decode b_Mod_part 25 = .ok (.aload_n 0, 1) := by decide +kernel
theorem d_Mod_part_26 : decode b_Mod_part 26 = .ok (.iload_n 1, 1) := by decide +kernel
theorem d_Mod_part_27 : decode b_Mod_part 27 = .ok (.iload_n 2, 1) := by decide +kernel
theorem d_Mod_part_28 : decode b_Mod_part 28 = .ok (.iload_n 3, 1) := by decide +kernel
theorem d_Mod_part_29 : decode b_Mod_part 29 = .ok (.i2l, 1) := by decide +kernel
theorem d_Mod_part_30 : decode b_Mod_part 30 = .ok (.iload 4, 2) := by decide +kernel
theorem d_Mod_part_32 : decode b_Mod_part 32 = .ok (.i2l, 1) := by decide +kernel
theorem d_Mod_part_33 : decode b_Mod_part 33 = .ok (.lconst 0, 1) := by decide +kernel
theorem d_Mod_part_34 : decode b_Mod_part 34 = .ok (.invokevirtual 83, 3) := by decide +kernel
theorem d_Mod_part_37 : decode b_Mod_part 37 = .ok (.ireturn, 1) := by decide +kernel
theorem d_Mod_push_0 : decode b_Mod_push 0 = .ok (.iload_n 1, 1) := by decide +kernel
theorem d_Mod_push_1 : decode b_Mod_push 1 = .ok (.invokestatic 41, 3) := by decide +kernel
theorem d_Mod_push_4 : decode b_Mod_push 4 = .ok (.ifCond .ne 5, 3) := by decide +kernel
theorem d_Mod_push_7 : decode b_Mod_push 7 = .ok (.iconst 0, 1) := by decide +kernel
theorem d_Mod_push_8 : decode b_Mod_push 8 = .ok (.ireturn, 1) := by decide +kernel
theorem d_Mod_push_9 : decode b_Mod_push 9 = .ok (.aload_n 0, 1) := by decide +kernel
theorem d_Mod_push_10 : decode b_Mod_push 10 = .ok (.iload_n 1, 1) := by decide +kernel
theorem d_Mod_push_11 : decode b_Mod_push 11 = .ok (.invokevirtual 45, 3) := by decide +kernel
theorem d_Mod_push_14 : decode b_Mod_push 14 = .ok (.aload_n 0, 1) := by decide +kernel
theorem d_Mod_push_15 : decode b_Mod_push 15 = .ok (.invokevirtual 49, 3) := by decide +kernel
theorem d_Mod_push_18 : decode b_Mod_push 18 = .ok (.iconst 0, 1) := by decide +kernel
theorem d_Mod_push_19 : decode b_Mod_push 19 = .ok (.istore 4, 2) := by decide +kernel
theorem d_Mod_push_21 : decode b_Mod_push 21 = .ok (.iload 4, 2) := by decide +kernel
theorem d_Mod_push_23 : decode b_Mod_push 23 = .ok (.iconst 4, 1) := by decide +kernel
theorem d_Mod_push_24 : decode b_Mod_push 24 = .ok (.if_icmp .ge 28, 3) := by decide +kernel
theorem d_Mod_push_27 : decode b_Mod_push 27 = .ok (.aload_n 0, 1) := by decide +kernel
theorem d_Mod_push_28 : decode b_Mod_push 28 = .ok (.getfield 23, 3) := by decide +kernel
theorem d_Mod_push_31 : decode b_Mod_push 31 = .ok (.iload 4, 2) := by decide +kernel
theorem d_Mod_push_33 : decode b_Mod_push 33 = .ok (.lload_n 2, 1) := by decide +kernel
theorem d_Mod_push_34 : decode b_Mod_push 34 = .ok (.bipush 16, 2) := by decide +kernel
theorem d_Mod_push_36 : decode b_Mod_push 36 = .ok (.iload 4, 2) := by decide +kernel
theorem d_Mod_push_38 : decode b_Mod_push 38 = .ok (.imul, 1) := by decide +kernel
theorem d_Mod_push_39 : decode b_Mod_push 39 = .ok (.lshr, 1) := by decide +kernel
theorem d_Mod_push_40 : decode b_Mod_push 40 = .ok (.ldc2_w 52, 3) := by decide +kernel
theorem d_Mod_push_43 : decode b_Mod_push 43 = .ok (.land, 1) := by decide +kernel
theorem d_Mod_push_44 : decode b_Mod_push 44 = .ok (.l2i, 1) := by decide +kernel
theorem d_Mod_push_45 : decode b_Mod_push 45 = .ok (.iastore, 1) := by decide +kernel
theorem d_Mod_push_46 : decode b_Mod_push 46 = .ok (.iinc 4 1, 3) := by decide +kernel
theorem d_Mod_push_49 : decode b_Mod_push 49 = .ok (.goto (-28), 3) := by decide +kernel
theorem d_Mod_push_52 : decode b_Mod_push 52 = .ok (.iconst 0, 1) := by decide +kernel
theorem d_Mod_push_53 : decode b_Mod_push 53 = .ok (.istore 4, 2) := by decide +kernel
theorem d_Mod_push_55 : decode b_Mod_push 55 = .ok (.iload 4, 2) := by decide +kernel
theorem d_Mod_push_57 : decode b_Mod_push 57 = .ok (.aload_n 0, 1) := by decide +kernel
theorem d_Mod_push_58 : decode b_Mod_push 58 = .ok (.getfield 26, 3) := by decide +kernel
theorem d_Mod_push_61 : decode b_Mod_push 61 = .ok (.if_icmp .ge 25, 3) := by decide +kernel
theorem d_Mod_push_64 : decode b_Mod_push 64 = .ok (.aload_n 0, 1) := by decide +kernel
theorem d_Mod_push_65 : decode b_Mod_push 65 = .ok (.getfield 23, 3) := by decide +kernel
theorem d_Mod_push_68 : decode b_Mod_push 68 = .ok (.iload 4, 2) := by decide +kernel
theorem d_Mod_push_70 : decode b_Mod_push 70 = .ok (.iconst 4, 1) := by decide +kernel
theorem d_Mod_push_71 : decode b_Mod_push 71 = .ok (.iadd, 1) := by decide +kernel
theorem d_Mod_push_72 : decode b_Mod_push 72 = .ok (.aload_n 0, 1) := by decide +kernel
theorem d_Mod_push_73 : decode b_Mod_push 73 = .ok (.getfield 17, 3) := by decide +kernel
theorem d_Mod_push_76 : decode b_Mod_push 76 = .ok (.iload 4, 2) := by decide +kernel
theorem d_Mod_push_78 : decode b_Mod_push 78 = .ok (.iaload, 1) := by decide +kernel
theorem d_Mod_push_79 : decode b_Mod_push 79 = .ok (.iastore, 1) := by decide +kernel
theorem d_Mod_push_80 : decode b_Mod_push 80 = .ok (.iinc 4 1, 3) := by decide +kernel
theorem d_Mod_push_83 : decode b_Mod_push 83 = .ok (.goto (-28), 3) := by decide +kernel
theorem d_Mod_push_86 : decode b_Mod_push 86 = .ok (.aload_n 0, 1) := by decide +kernel
theorem d_Mod_push_87 : decode b_Mod_push 87 = .ok (.iload_n 1, 1) := by decide +kernel
theorem d_Mod_push_88 : decode b_Mod_push 88 = .ok (.aload_n 0, 1) := by decide +kernel
theorem d_Mod_push_89 : decode b_Mod_push 89 = .ok (.getfield 23, 3) := by decide +kernel
theorem d_Mod_push_92 : decode b_Mod_push 92 = .ok (.aload_n 0, 1) := by decide +kernel
theorem d_Mod_push_93 : decode b_Mod_push 93 = .ok (.getfield 26, 3) := by decide +kernel
theorem d_Mod_push_96 : decode b_Mod_push 96 = .ok (.iconst 4, 1) := by decide +kernel
theorem d_Mod_push_97 : decode b_Mod_push 97 = .ok (.iadd, 1) := by decide +kernel
theorem d_Mod_push_98 : decode b_Mod_push 98 = .ok (.invokevirtual 54, 3) := by decide +kernel
theorem d_Mod_push_101 : decode b_Mod_push 101 = .ok (.ireturn, 1) := by decide +kernel
theorem d_Mod_put_0 : decode b_Mod_put 0 = .ok (.aload_n 2, 1) := by decide +kernel
theorem d_Mod_put_1 : decode b_Mod_put 1 = .ok (.iload_n 3, 1) := by decide +kernel
theorem d_Mod_put_2 : decode b_Mod_put 2 = .ok (.invokestatic 36, 3) := by decide +kernel
theorem d_Mod_put_5 : decode b_Mod_put 5 = .ok (.istore 4, 2) := by decide +kernel
theorem d_Mod_put_7 : decode b_Mod_put 7 = .ok (.iload 4, 2) := by decide +kernel
theorem d_Mod_put_9 : decode b_Mod_put 9 = .ok (.sipush 4096, 3) := by decide +kernel
theorem d_Mod_put_12 : decode b_Mod_put 12 = .ok (.if_icmp .le 5, 3) := by decide +kernel
theorem d_Mod_put_15 : decode b_Mod_put 15 = .ok (.iconst 0, 1) := by decide +kernel
theorem d_Mod_put_16 : decode b_Mod_put 16 = .ok (.ireturn, 1) := by decide +kernel
theorem d_Mod_put_17 : decode b_Mod_put 17 = .ok (.iconst 0, 1) := by decide +kernel
theorem d_Mod_put_18 : decode b_Mod_put 18 = .ok (.istore 5, 2) := by decide +kernel
theorem d_Mod_put_20 : decode b_Mod_put 20 = .ok (.iload 5, 2) := by decide +kernel
theorem d_Mod_put_22 : decode b_Mod_put 22 = .ok (.sipush 4096, 3) := by decide +kernel
theorem d_Mod_put_25 : decode b_Mod_put 25 = .ok (.if_icmp .ge 37, 3) := by decide +kernel
theorem d_Mod_put_28 : decode b_Mod_put 28 = .ok (.aload_n 0, 1) := by decide +kernel
theorem d_Mod_put_29 : decode b_Mod_put 29 = .ok (.getfield 8, 3) := by decide +kernel
theorem d_Mod_put_32 : decode b_Mod_put 32 = .ok (.sipush 4096, 3) := by decide +kernel
theorem d_Mod_put_35 : decode b_Mod_put 35 = .ok (.iload_n 1, 1) := by decide +kernel
theorem d_Mod_put_36 : decode b_Mod_put 36 = .ok (.imul, 1) := by decide +kernel
theorem d_Mod_put_37 : decode b_Mod_put 37 = .ok (.iload 5, 2) := by decide +kernel
theorem d_Mod_put_39 : decode b_Mod_put 39 = .ok (.iadd, 1) := by decide +kernel
theorem d_Mod_put_40 : decode b_Mod_put 40 = .ok (.iload 5, 2) := by decide +kernel
theorem d_Mod_put_42 : decode b_Mod_put 42 = .ok (.iload 4, 2) := by decide +kernel
theorem d_Mod_put_44 : decode b_Mod_put 44 = .ok (.if_icmp .ge 10, 3) := by decide +kernel
theorem d_Mod_put_47 : decode b_Mod_put 47 = .ok (.aload_n 2, 1) := by decide +kernel
theorem d_Mod_put_48 : decode b_Mod_put 48 = .ok (.iload 5, 2) := by decide +kernel
theorem d_Mod_put_50 : decode b_Mod_put 50 = .ok (.iaload, 1) := by decide +kernel
theorem d_Mod_put_51 : decode b_Mod_put 51 = .ok (.goto 4, 3) := by decide +kernel
theorem d_Mod_put_54 : decode b_Mod_put 54 = .ok (.iconst 0, 1) := by decide +kernel
theorem d_Mod_put_55 : decode b_Mod_put 55 = .ok (.iastore, 1) := by decide +kernel
theorem d_Mod_put_56 : decode b_Mod_put 56 = .ok (.iinc 5 1, 3) := by decide +kernel
theorem d_Mod_put_59 : decode b_Mod_put 59 = .ok (.goto (-39), 3) := by decide +kernel
theorem d_Mod_put_62 : decode b_Mod_put 62 = .ok (.aload_n 0, 1) := by decide +kernel
theorem d_Mod_put_63 : decode b_Mod_put 63 = .ok (.getfield 14, 3) := by decide +kernel
theorem d_Mod_put_66 : decode b_Mod_put 66 = .ok (.iload_n 1, 1) := by decide +kernel
theorem d_Mod_put_67 : decode b_Mod_put 67 = .ok (.iload 4, 2) := by decide +kernel
theorem d_Mod_put_69 : decode b_Mod_put 69 = .ok (.iastore, 1) := by decide +kernel
theorem d_Mod_put_70 : decode b_Mod_put 70 = .ok (.iconst 1, 1) := by decide +kernel
theorem d_Mod_put_71 : decode b_Mod_put 71 = .ok (.ireturn, 1) := by decide +kernel
theorem d_Mod_rest_0 : decode b_Mod_rest 0 = .ok (.iload_n 1, 1) := by decide +kernel
theorem d_Mod_rest_1 : decode b_Mod_rest 1 = .ok (.invokestatic 41, 3) := by decide +kernel
theorem d_Mod_rest_4 : decode b_Mod_rest 4 = .ok (.ifCond .eq 8, 3) := by decide +kernel
theorem d_Mod_rest_7 : decode b_Mod_rest 7 = .ok (.iload_n 2, 1) := by decide +kernel
theorem d_Mod_rest_8 : decode b_Mod_rest 8 = .ok (.iconst 1, 1) := by decide +kernel
theorem d_Mod_rest_9 : decode b_Mod_rest 9 = .ok (.if_icmp .ge 5, 3) := by decide +kernel
theorem d_Mod_rest_12 : decode b_Mod_rest 12 = .ok (.iconst (-1), 1) := by decide +kernel
theorem d_Mod_rest_13 : decode b_Mod_rest 13 = .ok (.ireturn, 1) := by decide +kernel
theorem d_Mod_rest_14 : decode b_Mod_rest 14 = .ok (.lconst 0, 1) := by decide +kernel
theorem d_Mod_rest_15 : decode b_Mod_rest 15 = .ok (.lstore_n 3, 1) := by decide +kernel
theorem d_Mod_rest_16 : decode b_Mod_rest 16 = .ok (.aload_n 0, 1) := by decide +kernel
theorem d_Mod_rest_17 : decode b_Mod_rest 17 = .ok (.getfield 14, 3) := by decide +kernel
theorem d_Mod_rest_20 : decode b_Mod_rest 20 = .ok (.iload_n 1, 1) := by decide +kernel
theorem d_Mod_rest_21 : decode b_Mod_rest 21 = .ok (.iaload, 1) := by decide +kernel
theorem d_Mod_rest_22 : decode b_Mod_rest 22 = .ok (.iconst 1, 1) := by decide +kernel
theorem d_Mod_rest_23 : decode b_Mod_rest 23 = .ok (.isub, 1) := by decide +kernel
theorem d_Mod_rest_24 : decode b_Mod_rest 24 = .ok (.istore 5, 2) := by decide +kernel
theorem d_Mod_rest_26 : decode b_Mod_rest 26 = .ok (.iload 5, 2) := by decide +kernel
theorem d_Mod_rest_28 : decode b_Mod_rest 28 = .ok (.ifCond .lt 33, 3) := by decide +kernel
theorem d_Mod_rest_31 : decode b_Mod_rest 31 = .ok (.lload_n 3, 1) := by decide +kernel
theorem d_Mod_rest_32 : decode b_Mod_rest 32 = .ok (.ldc2_w 81, 3) := by decide +kernel
theorem d_Mod_rest_35 : decode b_Mod_rest 35 = .ok (.lmul, 1) := by decide +kernel
theorem d_Mod_rest_36 : decode b_Mod_rest 36 = .ok (.aload_n 0, 1) := by decide +kernel
theorem d_Mod_rest_37 : decode b_Mod_rest 37 = .ok (.getfield 8, 3) := by decide +kernel
theorem d_Mod_rest_40 : decode b_Mod_rest 40 = .ok (.sipush 4096, 3) := by decide +kernel
theorem d_Mod_rest_43 : decode b_Mod_rest 43 = .ok (.iload_n 1, 1) := by decide +kernel
theorem d_Mod_rest_44 : decode b_Mod_rest 44 = .ok (.imul, 1) := by decide +kernel
theorem d_Mod_rest_45 : decode b_Mod_rest 45 = .ok (.iload 5, 2) := by decide +kernel
theorem d_Mod_rest_47 : decode b_Mod_rest 47 = .ok (.iadd, 1) := by decide +kernel
theorem d_Mod_rest_48 : decode b_Mod_rest 48 = .ok (.iaload, 1) := by decide +kernel
theorem d_Mod_rest_49 : decode b_Mod_rest 49 = .ok (.i2l, 1) := by decide +kernel
theorem d_Mod_rest_50 : decode b_Mod_rest 50 = .ok (.ladd, 1) := by decide +kernel
theorem d_Mod_rest_51 : decode b_Mod_rest 51 = .ok (.iload_n 2, 1) := by decide +kernel
theorem d_Mod_rest_52 : decode b_Mod_rest 52 = .ok (.i2l, 1) := by decide +kernel
theorem d_Mod_rest_53 : decode b_Mod_rest 53 = .ok (.lrem, 1) := by decide +kernel
theorem d_Mod_rest_54 : decode b_Mod_rest 54 = .ok (.lstore_n 3, 1) := by decide +kernel
theorem d_Mod_rest_55 : decode b_Mod_rest 55 = .ok (.iinc 5 (-1), 3) := by decide +kernel
theorem d_Mod_rest_58 : decode b_Mod_rest 58 = .ok (.goto (-32), 3) := by decide +kernel
theorem d_Mod_rest_61 : decode b_Mod_rest 61 = .ok (.lload_n 3, 1) := by decide +kernel
theorem d_Mod_rest_62 : decode b_Mod_rest 62 = .ok (.l2i, 1) := by decide +kernel
theorem d_Mod_rest_63 : decode b_Mod_rest 63 = .ok (.ireturn, 1) := by decide +kernel
theorem d_Mod_root_0 : decode b_Mod_root 0 = .ok (.iload_n 1, 1) := by decide +kernel
theorem d_Mod_root_1 : decode b_Mod_root 1 = .ok (.invokestatic 41, 3) := by decide +kernel
theorem d_Mod_root_4 : decode b_Mod_root 4 = .ok (.ifCond .eq 22, 3) := by decide +kernel
theorem d_Mod_root_7 : decode b_Mod_root 7 = .ok (.iload_n 2, 1) := by decide +kernel
theorem d_Mod_root_8 : decode b_Mod_root 8 = .ok (.invokestatic 41, 3) := by decide +kernel
theorem d_Mod_root_11 : decode b_Mod_root 11 = .ok (.ifCond .eq 15, 3) := by decide +kernel
theorem d_Mod_root_14 : decode b_Mod_root 14 = .ok (.iload_n 3, 1) := by decide +kernel
theorem d_Mod_root_15 : decode b_Mod_root 15 = .ok (.invokestatic 41, 3) := by decide +kernel
theorem d_Mod_root_18 : decode b_Mod_root 18 = .ok (.ifCond .eq 8, 3) := by decide +kernel
theorem d_Mod_root_21 : decode b_Mod_root 21 = .ok (.iload_n 1, 1) := by decide +kernel
theorem d_Mod_root_22 : decode b_Mod_root 22 = .ok (.iload_n 2, 1) := by decide +kernel
theorem d_Mod_root_23 : decode b_Mod_root 23 = .ok (.if_icmp .ne 5, 3) := by decide +kernel
theorem d_Mod_root_26 : decode b_Mod_root 26 = .ok (.iconst 0, 1) := by decide +kernel
theorem d_Mod_root_27 : decode b_Mod_root 27 = .ok (.ireturn, 1) := by decide +kernel
theorem d_Mod_root_28 : decode b_Mod_root 28 = .ok (.aload_n 0, 1) := by decide +kernel
theorem d_Mod_root_29 : decode b_Mod_root 29 = .ok (.iload_n 3, 1) := by decide +kernel
theorem d_Mod_root_30 : decode b_Mod_root 30 = .ok (.invokevirtual 45, 3) := by decide +kernel
theorem d_Mod_root_33 : decode b_Mod_root 33 = .ok (.aload_n 0, 1) := by decide +kernel
theorem d_Mod_root_34 : decode b_Mod_root 34 = .ok (.invokevirtual 49, 3) := by decide +kernel
theorem d_Mod_root_37 : decode b_Mod_root 37 = .ok (.iconst 0, 1) := by decide +kernel
theorem d_Mod_root_38 : decode b_Mod_root 38 = .ok (.istore 4, 2) := by decide +kernel
theorem d_Mod_root_40 : decode b_Mod_root 40 = .ok (.iload 4, 2) := by decide +kernel
theorem d_Mod_root_42 : decode b_Mod_root 42 = .ok (.sipush 8200, 3) := by decide +kernel
theorem d_Mod_root_45 : decode b_Mod_root 45 = .ok (.if_icmp .ge 17, 3) := by decide +kernel
theorem d_Mod_root_48 : decode b_Mod_root 48 = .ok (.aload_n 0, 1) := by decide +kernel
theorem d_Mod_root_49 : decode b_Mod_root 49 = .ok (.getfield 20, 3) := by decide +kernel
theorem d_Mod_root_52 : decode b_Mod_root 52 = .ok (.iload 4, 2) := by decide +kernel
theorem d_Mod_root_54 : decode b_Mod_root 54 = .ok (.iconst 0, 1) := by decide +kernel
theorem d_Mod_root_55 : decode b_Mod_root 55 = .ok (.iastore, 1) := by decide +kernel
theorem d_Mod_root_56 : decode b_Mod_root 56 = .ok (.iinc 4 1, 3) := by decide +kernel
theorem d_Mod_root_59 : decode b_Mod_root 59 = .ok (.goto (-19), 3) := by decide +kernel
theorem d_Mod_root_62 : decode b_Mod_root 62 = .ok (.aload_n 0, 1) := by decide +kernel
theorem d_Mod_root_63 : decode b_Mod_root 63 = .ok (.iconst 0, 1) := by decide +kernel
theorem d_Mod_root_64 : decode b_Mod_root 64 = .ok (.putfield 30, 3) := by decide +kernel
theorem d_Mod_root_67 : decode b_Mod_root 67 = .ok (.bipush 8, 2) := by decide +kernel
theorem d_Mod_root_69 : decode b_Mod_root 69 = .ok (.aload_n 0, 1) := by decide +kernel
theorem d_Mod_root_70 : decode b_Mod_root 70 = .ok (.getfield 26, 3) := by decide +kernel
theorem d_Mod_root_73 : decode b_Mod_root 73 = .ok (.imul, 1) := by decide +kernel
theorem d_Mod_root_74 : decode b_Mod_root 74 = .ok (.iconst 1, 1) := by decide +kernel
theorem d_Mod_root_75 : decode b_Mod_root 75 = .ok (.isub, 1) := by decide +kernel
theorem d_Mod_root_76 : decode b_Mod_root 76 = .ok (.istore 4, 2) := by decide +kernel
theorem d_Mod_root_78 : decode b_Mod_root 78 = .ok (.iload 4, 2) := by decide +kernel
theorem d_Mod_root_80 : decode b_Mod_root 80 = .ok (.ifCond .lt 199, 3) := by decide +kernel
theorem d_Mod_root_83 : decode b_Mod_root 83 = .ok (.aload_n 0, 1) := by decide +kernel
theorem d_Mod_root_84 : decode b_Mod_root 84 = .ok (.aload_n 0, 1) := by decide +kernel
theorem d_Mod_root_85 : decode b_Mod_root 85 = .ok (.getfield 23, 3) := by decide +kernel
theorem d_Mod_root_88 : decode b_Mod_root 88 = .ok (.aload_n 0, 1) := by decide +kernel
theorem d_Mod_root_89 : decode b_Mod_root 89 = .ok (.getfield 33, 3) := by decide +kernel
theorem d_Mod_root_92 : decode b_Mod_root 92 = .ok (.aload_n 0, 1) := by decide +kernel
theorem d_Mod_root_93 : decode b_Mod_root 93 = .ok (.getfield 17, 3) := by decide +kernel
theorem d_Mod_root_96 : decode b_Mod_root 96 = .ok (.iconst 2, 1) := by decide +kernel
theorem d_Mod_root_97 : decode b_Mod_root 97 = .ok (.iload 4, 2) := by decide +kernel
theorem d_Mod_root_99 : decode b_Mod_root 99 = .ok (.imul, 1) := by decide +kernel
theorem d_Mod_root_100 : decode b_Mod_root 100 = .ok (.iconst 1, 1) := by decide +kernel
theorem d_Mod_root_101 : decode b_Mod_root 101 = .ok (.iadd, 1) := by decide +kernel
theorem d_Mod_root_102 : decode b_Mod_root 102 = .ok (.invokestatic 68, 3) := by decide +kernel
theorem d_Mod_root_105 : decode b_Mod_root 105 = .ok (.invokestatic 71, 3) := by decide +kernel
theorem d_Mod_root_108 : decode b_Mod_root 108 = .ok (.putfield 33, 3) := by decide +kernel
theorem d_Mod_root_111 : decode b_Mod_root 111 = .ok (.aload_n 0, 1) := by decide +kernel
theorem d_Mod_root_112 : decode b_Mod_root 112 = .ok (.aload_n 0, 1) := by decide +kernel
theorem d_Mod_root_113 : decode b_Mod_root 113 = .ok (.getfield 23, 3) := by decide +kernel
theorem d_Mod_root_116 : decode b_Mod_root 116 = .ok (.aload_n 0, 1) := by decide +kernel
theorem d_Mod_root_117 : decode b_Mod_root 117 = .ok (.getfield 33, 3) := by decide +kernel
theorem d_Mod_root_120 : decode b_Mod_root 120 = .ok (.aload_n 0, 1) := by decide +kernel
theorem d_Mod_root_121 : decode b_Mod_root 121 = .ok (.getfield 17, 3) := by decide +kernel
theorem d_Mod_root_124 : decode b_Mod_root 124 = .ok (.iconst 2, 1) := by decide +kernel
theorem d_Mod_root_125 : decode b_Mod_root 125 = .ok (.iload 4, 2) := by decide +kernel
theorem d_Mod_root_127 : decode b_Mod_root 127 = .ok (.imul, 1) := by decide +kernel
theorem d_Mod_root_128 : decode b_Mod_root 128 = .ok (.invokestatic 68, 3) := by decide +kernel
theorem d_Mod_root_131 : decode b_Mod_root 131 = .ok (.invokestatic 71, 3) := by decide +kernel
theorem d_Mod_root_134 : decode b_Mod_root 134 = .ok (.putfield 33, 3) := by decide +kernel
theorem d_Mod_root_137 : decode b_Mod_root 137 = .ok (.aload_n 0, 1) := by decide +kernel
theorem d_Mod_root_138 : decode b_Mod_root 138 = .ok (.aload_n 0, 1) := by decide +kernel
theorem d_Mod_root_139 : decode b_Mod_root 139 = .ok (.getfield 20, 3) := by decide +kernel
theorem d_Mod_root_142 : decode b_Mod_root 142 = .ok (.aload_n 0, 1) := by decide +kernel
theorem d_Mod_root_143 : decode b_Mod_root 143 = .ok (.getfield 30, 3) := by decide +kernel
theorem d_Mod_root_146 : decode b_Mod_root 146 = .ok (.iconst 0, 1) := by decide +kernel
theorem d_Mod_root_147 : decode b_Mod_root 147 = .ok (.invokestatic 71, 3) := by decide +kernel
theorem d_Mod_root_150 : decode b_Mod_root 150 = .ok (.putfield 30, 3) := by decide +kernel
theorem d_Mod_root_153 : decode b_Mod_root 153 = .ok (.aload_n 0, 1) := by decide +kernel
theorem d_Mod_root_154 : decode b_Mod_root 154 = .ok (.aload_n 0, 1) := by decide +kernel
theorem d_Mod_root_155 : decode b_Mod_root 155 = .ok (.getfield 20, 3) := by decide +kernel
theorem d_Mod_root_158 : decode b_Mod_root 158 = .ok (.aload_n 0, 1) := by decide +kernel
theorem d_Mod_root_159 : decode b_Mod_root 159 = .ok (.getfield 30, 3) := by decide +kernel
theorem d_Mod_root_162 : decode b_Mod_root 162 = .ok (.iconst 1, 1) := by decide +kernel
theorem d_Mod_root_163 : decode b_Mod_root 163 = .ok (.invokestatic 71, 3) := by decide +kernel
theorem d_Mod_root_166 : decode b_Mod_root 166 = .ok (.putfield 30, 3) := by decide +kernel
theorem d_Mod_root_169 : decode b_Mod_root 169 = .ok (.aload_n 0, 1) := by decide +kernel
theorem d_Mod_root_170 : decode b_Mod_root 170 = .ok (.getfield 23, 3) := by decide +kernel
theorem d_Mod_root_173 : decode b_Mod_root 173 = .ok (.aload_n 0, 1) := by decide +kernel
theorem d_Mod_root_174 : decode b_Mod_root 174 = .ok (.getfield 33, 3) := by decide +kernel
theorem d_Mod_root_177 : decode b_Mod_root 177 = .ok (.aload_n 0, 1) := by decide +kernel
theorem d_Mod_root_178 : decode b_Mod_root 178 = .ok (.getfield 20, 3) := by decide +kernel
theorem d_Mod_root_181 : decode b_Mod_root 181 = .ok (.aload_n 0, 1) := by decide +kernel
theorem d_Mod_root_182 : decode b_Mod_root 182 = .ok (.getfield 30, 3) := by decide +kernel
theorem d_Mod_root_185 : decode b_Mod_root 185 = .ok (.invokestatic 61, 3) := by decide +kernel
theorem d_Mod_root_188 : decode b_Mod_root 188 = .ok (.ifCond .lt 7, 3) := by decide +kernel
theorem d_Mod_root_191 : decode b_Mod_root 191 = .ok (.iconst 1, 1) := by decide +kernel
theorem d_Mod_root_192 : decode b_Mod_root 192 = .ok (.goto 4, 3) := by decide +kernel
theorem d_Mod_root_195 : decode b_Mod_root 195 = .ok (.iconst 0, 1) := by decide +kernel
theorem d_Mod_root_196 : decode b_Mod_root 196 = .ok (.istore 5, 2) := by decide +kernel
theorem d_Mod_root_198 : decode b_Mod_root 198 = .ok (.iload 5, 2) := by decide +kernel
theorem d_Mod_root_200 : decode b_Mod_root 200 = .ok (.ifCond .eq 26, 3) := by decide +kernel
theorem d_Mod_root_203 : decode b_Mod_root 203 = .ok (.aload_n 0, 1) := by decide +kernel
theorem d_Mod_root_204 : decode b_Mod_root 204 = .ok (.aload_n 0, 1) := by decide +kernel
theorem d_Mod_root_205 : decode b_Mod_root 205 = .ok (.getfield 23, 3) := by decide +kernel
theorem d_Mod_root_208 : decode b_Mod_root 208 = .ok (.aload_n 0, 1) := by decide +kernel
theorem d_Mod_root_209 : decode b_Mod_root 209 = .ok (.getfield 33, 3) := by decide +kernel
theorem d_Mod_root_212 : decode b_Mod_root 212 = .ok (.aload_n 0, 1) := by decide +kernel
theorem d_Mod_root_213 : decode b_Mod_root 213 = .ok (.getfield 20, 3) := by decide +kernel
theorem d_Mod_root_216 : decode b_Mod_root 216 = .ok (.aload_n 0, 1) := by decide +kernel
theorem d_Mod_root_217 : decode b_Mod_root 217 = .ok (.getfield 30, 3) := by decide +kernel
theorem d_Mod_root_220 : decode b_Mod_root 220 = .ok (.invokestatic 65, 3) := by decide +kernel
theorem d_Mod_root_223 : decode b_Mod_root 223 = .ok (.putfield 33, 3) := by decide +kernel
theorem d_Mod_root_226 : decode b_Mod_root 226 = .ok (.aload_n 0, 1) := by decide +kernel
theorem d_Mod_root_227 : decode b_Mod_root 227 = .ok (.invokevirtual 75, 3) := by decide +kernel
theorem d_Mod_root_230 : decode b_Mod_root 230 = .ok (.aload_n 0, 1) := by decide +kernel
theorem d_Mod_root_231 : decode b_Mod_root 231 = .ok (.getfield 20, 3) := by decide +kernel
theorem d_Mod_root_234 : decode b_Mod_root 234 = .ok (.iconst 0, 1) := by decide +kernel
theorem d_Mod_root_235 : decode b_Mod_root 235 = .ok (.aload_n 0, 1) := by decide +kernel
theorem d_Mod_root_236 : decode b_Mod_root 236 = .ok (.getfield 20, 3) := by decide +kernel
theorem d_Mod_root_239 : decode b_Mod_root 239 = .ok (.iconst 0, 1) := by decide +kernel
theorem d_Mod_root_240 : decode b_Mod_root 240 = .ok (.iaload, 1) := by decide +kernel
theorem d_Mod_root_241 : decode b_Mod_root 241 = .ok (.ldc 78, 2) := by decide +kernel
theorem d_Mod_root_243 : decode b_Mod_root 243 = .ok (.iand, 1) := by decide +kernel
theorem d_Mod_root_244 : decode b_Mod_root 244 = .ok (.iload 5, 2) := by decide +kernel
theorem d_Mod_root_246 : decode b_Mod_root 246 = .ok (.ifCond .eq 7, 3) := by decide +kernel
theorem d_Mod_root_249 : decode b_Mod_root 249 = .ok (.iconst 1, 1) := by decide +kernel
theorem d_Mod_root_250 : decode b_Mod_root 250 = .ok (.goto 4, 3) := by decide +kernel
theorem d_Mod_root_253 : decode b_Mod_root 253 = .ok (.iconst 0, 1) := by decide +kernel
theorem d_Mod_root_254 : decode b_Mod_root 254 = .ok (.ior, 1) := by decide +kernel
theorem d_Mod_root_255 : decode b_Mod_root 255 = .ok (.iastore, 1) := by decide +kernel
theorem d_Mod_root_256 : decode b_Mod_root 256 = .ok (.aload_n 0, 1) := by decide +kernel
theorem d_Mod_root_257 : decode b_Mod_root 257 = .ok (.aload_n 0, 1) := by decide +kernel
theorem d_Mod_root_258 : decode b_Mod_root 258 = .ok (.getfield 20, 3) := by decide +kernel
theorem d_Mod_root_261 : decode b_Mod_root 261 = .ok (.aload_n 0, 1) := by decide +kernel
theorem d_Mod_root_262 : decode b_Mod_root 262 = .ok (.getfield 30, 3) := by decide +kernel
theorem d_Mod_root_265 : decode b_Mod_root 265 = .ok (.iconst 1, 1) := by decide +kernel
theorem d_Mod_root_266 : decode b_Mod_root 266 = .ok (.iadd, 1) := by decide +kernel
theorem d_Mod_root_267 : decode b_Mod_root 267 = .ok (.invokestatic 36, 3) := by decide +kernel
theorem d_Mod_root_270 : decode b_Mod_root 270 = .ok (.putfield 30, 3) := by decide +kernel
theorem d_Mod_root_273 : decode b_Mod_root 273 = .ok (.iinc 4 (-1), 3) := by decide +kernel
theorem d_Mod_root_276 : decode b_Mod_root 276 = .ok (.goto (-198), 3) := by decide +kernel
theorem d_Mod_root_279 : decode b_Mod_root 279 = .ok (.aload_n 0, 1) := by decide +kernel
theorem d_Mod_root_280 : decode b_Mod_root 280 = .ok (.iload_n 1, 1) := by decide +kernel
theorem d_Mod_root_281 : decode b_Mod_root 281 = .ok (.aload_n 0, 1) := by decide +kernel
theorem d_Mod_root_282 : decode b_Mod_root 282 = .ok (.getfield 20, 3) := by decide +kernel
theorem d_Mod_root_285 : decode b_Mod_root 285 = .ok (.aload_n 0, 1) := by decide +kernel
theorem d_Mod_root_286 : decode b_Mod_root 286 = .ok (.getfield 30, 3) := by decide +kernel
theorem d_Mod_root_289 : decode b_Mod_root 289 = .ok (.invokevirtual 54, 3) := by decide +kernel
theorem d_Mod_root_292 : decode b_Mod_root 292 = .ok (.ifCond .eq 23, 3) := by decide +kernel
theorem d_Mod_root_295 : decode b_Mod_root 295 = .ok (.aload_n 0, 1) := by decide +kernel
theorem d_Mod_root_296 : decode b_Mod_root 296 = .ok (.iload_n 2, 1) := by decide +kernel
theorem d_Mod_root_297 : decode b_Mod_root 297 = .ok (.aload_n 0, 1) := by decide +kernel
theorem d_Mod_root_298 : decode b_Mod_root 298 = .ok (.getfield 23, 3) := by decide +kernel
theorem d_Mod_root_301 : decode b_Mod_root 301 = .ok (.aload_n 0, 1) := by decide +kernel
theorem d_Mod_root_302 : decode b_Mod_root 302 = .ok (.getfield 33, 3) := by decide +kernel
theorem d_Mod_root_305 : decode b_Mod_root 305 = .ok (.invokevirtual 54, 3) := by decide +kernel
theorem d_Mod_root_308 : decode b_Mod_root 308 = .ok (.ifCond .eq 7, 3) := by decide +kernel
theorem d_Mod_root_311 : decode b_Mod_root 311 = .ok (.iconst 1, 1) := by decide +kernel
theorem d_Mod_root_312 : decode b_Mod_root 312 = .ok (.goto 4, 3) := by decide +kernel
theorem d_Mod_root_315 : decode b_Mod_root 315 = .ok (.iconst 0, 1) := by decide +kernel
theorem d_Mod_root_316 : decode b_Mod_root 316 = .ok (.ireturn, 1) := by decide +kernel
theorem d_Mod_shift_0 : decode b_Mod_shift 0 = .ok (.iload_n 1, 1) := by decide +kernel
theorem d_Mod_shift_1 : decode b_Mod_shift 1 = .ok (.invokestatic 41, 3) := by decide +kernel
theorem d_Mod_shift_4 : decode b_Mod_shift 4 = .ok (.ifCond .eq 10, 3) := by decide +kernel
theorem d_Mod_shift_7 : decode b_Mod_shift 7 = .ok (.iload_n 2, 1) := by decide +kernel
theorem d_Mod_shift_8 : decode b_Mod_shift 8 = .ok (.invokestatic 41, 3) := by decide +kernel
theorem d_Mod_shift_11 : decode b_Mod_shift 11 = .ok (.ifCond .ne 5, 3) := by decide +kernel
theorem d_Mod_shift_14 : decode b_Mod_shift 14 = .ok (.iconst 0, 1) := by decide +kernel
theorem d_Mod_shift_15 : decode b_Mod_shift 15 = .ok (.ireturn, 1) := by decide +kernel
theorem d_Mod_shift_16 : decode b_Mod_shift 16 = .ok (.iload_n 3, 1) := by decide +kernel
theorem d_Mod_shift_17 : decode b_Mod_shift 17 = .ok (.ifCond .ge 17, 3) := by decide +kernel
theorem d_Mod_shift_20 : decode b_Mod_shift 20 = .ok (.aload_n 0, 1) := by decide +kernel
theorem d_Mod_shift_21 : decode b_Mod_shift 21 = .ok (.iload_n 1, 1) := by decide +kernel
theorem d_Mod_shift_22 : decode b_Mod_shift 22 = .ok (.iload_n 2, 1) := by decide +kernel
theorem d_Mod_shift_23 : decode b_Mod_shift 23 = .ok (.iload_n 3, 1) := by decide +kernel
theorem d_Mod_shift_24 : decode b_Mod_shift 24 = .ok (.i2l, 1) := by decide +kernel
theorem d_Mod_shift_25 : decode b_Mod_shift 25 = .ok (.lneg, 1) := by decide +kernel
theorem d_Mod_shift_26 : decode b_Mod_shift 26 = .ok (.ldc2_w 81, 3) := by decide +kernel
theorem d_Mod_shift_29 : decode b_Mod_shift 29 = .ok (.lconst 0, 1) := by decide +kernel
theorem d_Mod_shift_30 : decode b_Mod_shift 30 = .ok (.invokevirtual 83, 3) := by decide +kernel
theorem d_Mod_shift_33 : decode b_Mod_shift 33 = .ok (.ireturn, 1) := by decide +kernel
theorem d_Mod_shift_34 : decode b_Mod_shift 34 = .ok (.aload_n 0, 1) := by decide +kernel
theorem d_Mod_shift_35 : decode b_Mod_shift 35 = .ok (.iload_n 2, 1) := by decide +kernel
theorem d_Mod_shift_36 : decode b_Mod_shift 36 = .ok (.invokevirtual 87, 3) := by decide +kernel
theorem d_Mod_shift_39 : decode b_Mod_shift 39 = .ok (.i2l, 1) := by decide +kernel
theorem d_Mod_shift_40 : decode b_Mod_shift 40 = .ok (.lstore 4, 2) := by decide +kernel
theorem d_Mod_shift_42 : decode b_Mod_shift 42 = .ok (.lload 4, 2) := by decide +kernel
theorem d_Mod_shift_44 : decode b_Mod_shift 44 = .ok (.lconst 0, 1) := by decide +kernel
theorem d_Mod_shift_45 : decode b_Mod_shift 45 = .ok (.lcmp, 1) := by decide +kernel
theorem d_Mod_shift_46 : decode b_Mod_shift 46 = .ok (.ifCond .le 17, 3) := by decide +kernel
theorem d_Mod_shift_49 : decode b_Mod_shift 49 = .ok (.lload 4, 2) := by decide +kernel
theorem d_Mod_shift_51 : decode b_Mod_shift 51 = .ok (.iload_n 3, 1) := by decide +kernel
theorem d_Mod_shift_52 : decode b_Mod_shift 52 = .ok (.i2l, 1) := by decide +kernel
theorem d_Mod_shift_53 : decode b_Mod_shift 53 = .ok (.ladd, 1) := by decide +kernel
theorem d_Mod_shift_54 : decode b_Mod_shift 54 = .ok (.ldc2_w 81, 3) := by decide +kernel
theorem d_Mod_shift_57 : decode b_Mod_shift 57 = .ok (.lcmp, 1) := by decide +kernel
theorem d_Mod_shift_58 : decode b_Mod_shift 58 = .ok (.ifCond .le 5, 3) := by decide +kernel
theorem d_Mod_shift_61 : decode b_Mod_shift 61 = .ok (.iconst 0, 1) := by decide +kernel
theorem d_Mod_shift_62 : decode b_Mod_shift 62 = .ok (.ireturn, 1) := by decide +kernel
theorem d_Mod_shift_63 : decode b_Mod_shift 63 = .ok (.aload_n 0, 1) := by decide +kernel
theorem d_Mod_shift_64 : decode b_Mod_shift 64 = .ok (.iload_n 1, 1) := by decide +kernel
theorem d_Mod_shift_65 : decode b_Mod_shift 65 = .ok (.iload_n 2, 1) := by decide +kernel
theorem d_Mod_shift_66 : decode b_Mod_shift 66 = .ok (.lconst 0, 1) := by decide +kernel
theorem d_Mod_shift_67 : decode b_Mod_shift 67 = .ok (.lload 4, 2) := by decide +kernel
theorem d_Mod_shift_69 : decode b_Mod_shift 69 = .ok (.iload_n 3, 1) := by decide +kernel
theorem d_Mod_shift_70 : decode b_Mod_shift 70 = .ok (.i2l, 1) := by decide +kernel
theorem d_Mod_shift_71 : decode b_Mod_shift 71 = .ok (.invokevirtual 83, 3) := by decide +kernel
theorem d_Mod_shift_74 : decode b_Mod_shift 74 = .ok (.ireturn, 1) := by decide +kernel
theorem d_Mod_spread_0 : decode b_Mod_spread 0 = .ok (.iload_n 1, 1) := by decide +kernel
theorem d_Mod_spread_1 : decode b_Mod_spread 1 = .ok (.invokestatic 41, 3) := by decide +kernel
theorem d_Mod_spread_4 : decode b_Mod_spread 4 = .ok (.ifCond .eq 16, 3) := by decide +kernel
theorem d_Mod_spread_7 : decode b_Mod_spread 7 = .ok (.iload 4, 2) := by decide +kernel
theorem d_Mod_spread_9 : decode b_Mod_spread 9 = .ok (.ifCond .lt 11, 3) := by decide +kernel
theorem d_Mod_spread_12 : decode b_Mod_spread 12 = .ok (.iload 4, 2) := by decide +kernel
theorem d_Mod_spread_14 : decode b_Mod_spread 14 = .ok (.sipush 1024, 3) := by decide +kernel
theorem d_Mod_spread_17 : decode b_Mod_spread 17 = .ok (.if_icmp .le 5, 3) := by decide +kernel
theorem d_Mod_spread_20 : decode b_Mod_spread 20 = .ok (.iconst 0, 1) := by decide +kernel
theorem d_Mod_spread_21 : decode b_Mod_spread 21 = .ok (.ireturn, 1) := by decide +kernel
theorem d_Mod_spread_22 : decode b_Mod_spread 22 = .ok (.aload_n 0, 1) := by decide +kernel
theorem d_Mod_spread_23 : decode b_Mod_spread 23 = .ok (.invokevirtual 49, 3) := by decide +kernel
theorem d_Mod_spread_26 : decode b_Mod_spread 26 = .ok (.iconst 0, 1) := by decide +kernel
theorem d_Mod_spread_27 : decode b_Mod_spread 27 = .ok (.istore 5, 2) := by decide +kernel
theorem d_Mod_spread_29 : decode b_Mod_spread 29 = .ok (.iload 5, 2) := by decide +kernel
theorem d_Mod_spread_31 : decode b_Mod_spread 31 = .ok (.iconst 4, 1) := by decide +kernel
theorem d_Mod_spread_32 : decode b_Mod_spread 32 = .ok (.iload 4, 2) := by decide +kernel
theorem d_Mod_spread_34 : decode b_Mod_spread 34 = .ok (.imul, 1) := by decide +kernel
theorem d_Mod_spread_35 : decode b_Mod_spread 35 = .ok (.if_icmp .ge 30, 3) := by decide +kernel
theorem d_Mod_spread_38 : decode b_Mod_spread 38 = .ok (.aload_n 0, 1) := by decide +kernel
theorem d_Mod_spread_39 : decode b_Mod_spread 39 = .ok (.getfield 23, 3) := by decide +kernel
theorem d_Mod_spread_42 : decode b_Mod_spread 42 = .ok (.iload 5, 2) := by decide +kernel
theorem d_Mod_spread_44 : decode b_Mod_spread 44 = .ok (.lload_n 2, 1) := by decide +kernel
theorem d_Mod_spread_45 : decode b_Mod_spread 45 = .ok (.bipush 16, 2) := by decide +kernel
theorem d_Mod_spread_47 : decode b_Mod_spread 47 = .ok (.iload 5, 2) := by decide +kernel
theorem d_Mod_spread_49 : decode b_Mod_spread 49 = .ok (.iconst 4, 1) := by decide +kernel
theorem d_Mod_spread_50 : decode b_Mod_spread 50 = .ok (.irem, 1) := by decide +kernel
theorem d_Mod_spread_51 : decode b_Mod_spread 51 = .ok (.imul, 1) := by decide +kernel
theorem d_Mod_spread_52 : decode b_Mod_spread 52 = .ok (.lshr, 1) := by decide +kernel
theorem d_Mod_spread_53 : decode b_Mod_spread 53 = .ok (.ldc2_w 52, 3) := by decide +kernel
theorem d_Mod_spread_56 : decode b_Mod_spread 56 = .ok (.land, 1) := by decide +kernel
theorem d_Mod_spread_57 : decode b_Mod_spread 57 = .ok (.l2i, 1) := by decide +kernel
theorem d_Mod_spread_58 : decode b_Mod_spread 58 = .ok (.iastore, 1) := by decide +kernel
theorem d_Mod_spread_59 : decode b_Mod_spread 59 = .ok (.iinc 5 1, 3) := by decide +kernel
theorem d_Mod_spread_62 : decode b_Mod_spread 62 = .ok (.goto (-33), 3) := by decide +kernel
theorem d_Mod_spread_65 : decode b_Mod_spread 65 = .ok (.aload_n 0, 1) := by decide +kernel
theorem d_Mod_spread_66 : decode b_Mod_spread 66 = .ok (.iload_n 1, 1) := by decide +kernel
theorem d_Mod_spread_67 : decode b_Mod_spread 67 = .ok (.aload_n 0, 1) := by decide +kernel
theorem d_Mod_spread_68 : decode b_Mod_spread 68 = .ok (.getfield 23, 3) := by decide +kernel
theorem d_Mod_spread_71 : decode b_Mod_spread 71 = .ok (.iconst 4, 1) := by decide +kernel
theorem d_Mod_spread_72 : decode b_Mod_spread 72 = .ok (.iload 4, 2) := by decide +kernel
theorem d_Mod_spread_74 : decode b_Mod_spread 74 = .ok (.imul, 1) := by decide +kernel
theorem d_Mod_spread_75 : decode b_Mod_spread 75 = .ok (.invokevirtual 54, 3) := by decide +kernel
theorem d_Mod_spread_78 : decode b_Mod_spread 78 = .ok (.ireturn, 1) := by decide +kernel
theorem d_Mod_take_0 : decode b_Mod_take 0 = .ok (.iload_n 1, 1) := by decide +kernel
theorem d_Mod_take_1 : decode b_Mod_take 1 = .ok (.invokestatic 41, 3) := by decide +kernel
theorem d_Mod_take_4 : decode b_Mod_take 4 = .ok (.ifCond .eq 17, 3) := by decide +kernel
theorem d_Mod_take_7 : decode b_Mod_take 7 = .ok (.iload_n 2, 1) := by decide +kernel
theorem d_Mod_take_8 : decode b_Mod_take 8 = .ok (.invokestatic 41, 3) := by decide +kernel
theorem d_Mod_take_11 : decode b_Mod_take 11 = .ok (.ifCond .eq 10, 3) := by decide +kernel
theorem d_Mod_take_14 : decode b_Mod_take 14 = .ok (.iload_n 3, 1) := by decide +kernel
theorem d_Mod_take_15 : decode b_Mod_take 15 = .ok (.invokestatic 41, 3) := by decide +kernel
theorem d_Mod_take_18 : decode b_Mod_take 18 = .ok (.ifCond .ne 5, 3) := by decide +kernel
theorem d_Mod_take_21 : decode b_Mod_take 21 = .ok (.iconst 0, 1) := by decide +kernel
theorem d_Mod_take_22 : decode b_Mod_take 22 = .ok (.ireturn, 1) := by decide +kernel
theorem d_Mod_take_23 : decode b_Mod_take 23 = .ok (.aload_n 0, 1) := by decide +kernel
theorem d_Mod_take_24 : decode b_Mod_take 24 = .ok (.iload_n 2, 1) := by decide +kernel
theorem d_Mod_take_25 : decode b_Mod_take 25 = .ok (.invokevirtual 45, 3) := by decide +kernel
theorem d_Mod_take_28 : decode b_Mod_take 28 = .ok (.aload_n 0, 1) := by decide +kernel
theorem d_Mod_take_29 : decode b_Mod_take 29 = .ok (.iload_n 3, 1) := by decide +kernel
theorem d_Mod_take_30 : decode b_Mod_take 30 = .ok (.invokevirtual 58, 3) := by decide +kernel
theorem d_Mod_take_33 : decode b_Mod_take 33 = .ok (.aload_n 0, 1) := by decide +kernel
theorem d_Mod_take_34 : decode b_Mod_take 34 = .ok (.getfield 17, 3) := by decide +kernel
theorem d_Mod_take_37 : decode b_Mod_take 37 = .ok (.aload_n 0, 1) := by decide +kernel
theorem d_Mod_take_38 : decode b_Mod_take 38 = .ok (.getfield 26, 3) := by decide +kernel
theorem d_Mod_take_41 : decode b_Mod_take 41 = .ok (.aload_n 0, 1) := by decide +kernel
theorem d_Mod_take_42 : decode b_Mod_take 42 = .ok (.getfield 20, 3) := by decide +kernel
theorem d_Mod_take_45 : decode b_Mod_take 45 = .ok (.aload_n 0, 1) := by decide +kernel
theorem d_Mod_take_46 : decode b_Mod_take 46 = .ok (.getfield 30, 3) := by decide +kernel
theorem d_Mod_take_49 : decode b_Mod_take 49 = .ok (.invokestatic 61, 3) := by decide +kernel
theorem d_Mod_take_52 : decode b_Mod_take 52 = .ok (.ifCond .ge 5, 3) := by decide +kernel
theorem d_Mod_take_55 : decode b_Mod_take 55 = .ok (.iconst 0, 1) := by decide +kernel
theorem d_Mod_take_56 : decode b_Mod_take 56 = .ok (.ireturn, 1) := by decide +kernel
theorem d_Mod_take_57 : decode b_Mod_take 57 = .ok (.aload_n 0, 1) := by decide +kernel
theorem d_Mod_take_58 : decode b_Mod_take 58 = .ok (.aload_n 0, 1) := by decide +kernel
theorem d_Mod_take_59 : decode b_Mod_take 59 = .ok (.getfield 17, 3) := by decide +kernel
theorem d_Mod_take_62 : decode b_Mod_take 62 = .ok (.aload_n 0, 1) := by decide +kernel
theorem d_Mod_take_63 : decode b_Mod_take 63 = .ok (.getfield 26, 3) := by decide +kernel
theorem d_Mod_take_66 : decode b_Mod_take 66 = .ok (.aload_n 0, 1) := by decide +kernel
theorem d_Mod_take_67 : decode b_Mod_take 67 = .ok (.getfield 20, 3) := by decide +kernel
theorem d_Mod_take_70 : decode b_Mod_take 70 = .ok (.aload_n 0, 1) := by decide +kernel
theorem d_Mod_take_71 : decode b_Mod_take 71 = .ok (.getfield 30, 3) := by decide +kernel
theorem d_Mod_take_74 : decode b_Mod_take 74 = .ok (.invokestatic 65, 3) := by decide +kernel
theorem d_Mod_take_77 : decode b_Mod_take 77 = .ok (.putfield 26, 3) := by decide +kernel
theorem d_Mod_take_80 : decode b_Mod_take 80 = .ok (.aload_n 0, 1) := by decide +kernel
theorem d_Mod_take_81 : decode b_Mod_take 81 = .ok (.iload_n 1, 1) := by decide +kernel
theorem d_Mod_take_82 : decode b_Mod_take 82 = .ok (.aload_n 0, 1) := by decide +kernel
theorem d_Mod_take_83 : decode b_Mod_take 83 = .ok (.getfield 17, 3) := by decide +kernel
theorem d_Mod_take_86 : decode b_Mod_take 86 = .ok (.aload_n 0, 1) := by decide +kernel
theorem d_Mod_take_87 : decode b_Mod_take 87 = .ok (.getfield 26, 3) := by decide +kernel
theorem d_Mod_take_90 : decode b_Mod_take 90 = .ok (.invokevirtual 54, 3) := by decide +kernel
theorem d_Mod_take_93 : decode b_Mod_take 93 = .ok (.ireturn, 1) := by decide +kernel
theorem d_Mod_times_0 : decode b_Mod_times 0 = .ok (.iload_n 1, 1) := by decide +kernel
theorem d_Mod_times_1 : decode b_Mod_times 1 = .ok (.invokestatic 41, 3) := by decide +kernel
theorem d_Mod_times_4 : decode b_Mod_times 4 = .ok (.ifCond .eq 17, 3) := by decide +kernel
theorem d_Mod_times_7 : decode b_Mod_times 7 = .ok (.iload_n 2, 1) := by decide +kernel
theorem d_Mod_times_8 : decode b_Mod_times 8 = .ok (.invokestatic 41, 3) := by decide +kernel
theorem d_Mod_times_11 : decode b_Mod_times 11 = .ok (.ifCond .eq 10, 3) := by decide +kernel
theorem d_Mod_times_14 : decode b_Mod_times 14 = .ok (.iload_n 3, 1) := by decide +kernel
theorem d_Mod_times_15 : decode b_Mod_times 15 = .ok (.invokestatic 41, 3) := by decide +kernel
theorem d_Mod_times_18 : decode b_Mod_times 18 = .ok (.ifCond .ne 5, 3) := by decide +kernel
theorem d_Mod_times_21 : decode b_Mod_times 21 = .ok (.iconst 0, 1) := by decide +kernel
theorem d_Mod_times_22 : decode b_Mod_times 22 = .ok (.ireturn, 1) := by decide +kernel
theorem d_Mod_times_23 : decode b_Mod_times 23 = .ok (.aload_n 0, 1) := by decide +kernel
theorem d_Mod_times_24 : decode b_Mod_times 24 = .ok (.iload_n 2, 1) := by decide +kernel
theorem d_Mod_times_25 : decode b_Mod_times 25 = .ok (.invokevirtual 45, 3) := by decide +kernel
theorem d_Mod_times_28 : decode b_Mod_times 28 = .ok (.aload_n 0, 1) := by decide +kernel
theorem d_Mod_times_29 : decode b_Mod_times 29 = .ok (.iload_n 3, 1) := by decide +kernel
theorem d_Mod_times_30 : decode b_Mod_times 30 = .ok (.invokevirtual 58, 3) := by decide +kernel
theorem d_Mod_times_33 : decode b_Mod_times 33 = .ok (.aload_n 0, 1) := by decide +kernel
theorem d_Mod_times_34 : decode b_Mod_times 34 = .ok (.invokevirtual 49, 3) := by decide +kernel
theorem d_Mod_times_37 : decode b_Mod_times 37 = .ok (.iconst 0, 1) := by decide +kernel
theorem d_Mod_times_38 : decode b_Mod_times 38 = .ok (.istore 4, 2) := by decide +kernel
theorem d_Mod_times_40 : decode b_Mod_times 40 = .ok (.iload 4, 2) := by decide +kernel
theorem d_Mod_times_42 : decode b_Mod_times 42 = .ok (.aload_n 0, 1) := by decide +kernel
theorem d_Mod_times_43 : decode b_Mod_times 43 = .ok (.getfield 26, 3) := by decide +kernel
theorem d_Mod_times_46 : decode b_Mod_times 46 = .ok (.if_icmp .ge 88, 3) := by decide +kernel
theorem d_Mod_times_49 : decode b_Mod_times 49 = .ok (.lconst 0, 1) := by decide +kernel
theorem d_Mod_times_50 : decode b_Mod_times 50 = .ok (.lstore 5, 2) := by decide +kernel
theorem d_Mod_times_52 : decode b_Mod_times 52 = .ok (.iconst 0, 1) := by decide +kernel
theorem d_Mod_times_53 : decode b_Mod_times 53 = .ok (.istore 7, 2) := by decide +kernel
theorem d_Mod_times_55 : decode b_Mod_times 55 = .ok (.iload 7, 2) := by decide +kernel
theorem d_Mod_times_57 : decode b_Mod_times 57 = .ok (.aload_n 0, 1) := by decide +kernel
theorem d_Mod_times_58 : decode b_Mod_times 58 = .ok (.getfield 30, 3) := by decide +kernel
theorem d_Mod_times_61 : decode b_Mod_times 61 = .ok (.if_icmp .gt 67, 3) := by decide +kernel
theorem d_Mod_times_64 : decode b_Mod_times 64 = .ok (.aload_n 0, 1) := by decide +kernel
theorem d_Mod_times_65 : decode b_Mod_times 65 = .ok (.getfield 17, 3) := by decide +kernel
theorem d_Mod_times_68 : decode b_Mod_times 68 = .ok (.iload 4, 2) := by decide +kernel
theorem d_Mod_times_70 : decode b_Mod_times 70 = .ok (.iaload, 1) := by decide +kernel
theorem d_Mod_times_71 : decode b_Mod_times 71 = .ok (.i2l, 1) := by decide +kernel
theorem d_Mod_times_72 : decode b_Mod_times 72 = .ok (.aload_n 0, 1) := by decide +kernel
theorem d_Mod_times_73 : decode b_Mod_times 73 = .ok (.getfield 20, 3) := by decide +kernel
theorem d_Mod_times_76 : decode b_Mod_times 76 = .ok (.iload 7, 2) := by decide +kernel
theorem d_Mod_times_78 : decode b_Mod_times 78 = .ok (.iaload, 1) := by decide +kernel
theorem d_Mod_times_79 : decode b_Mod_times 79 = .ok (.i2l, 1) := by decide +kernel
theorem d_Mod_times_80 : decode b_Mod_times 80 = .ok (.lmul, 1) := by decide +kernel
theorem d_Mod_times_81 : decode b_Mod_times 81 = .ok (.aload_n 0, 1) := by decide +kernel
theorem d_Mod_times_82 : decode b_Mod_times 82 = .ok (.getfield 23, 3) := by decide +kernel
theorem d_Mod_times_85 : decode b_Mod_times 85 = .ok (.iload 4, 2) := by decide +kernel
theorem d_Mod_times_87 : decode b_Mod_times 87 = .ok (.iload 7, 2) := by decide +kernel
theorem d_Mod_times_89 : decode b_Mod_times 89 = .ok (.iadd, 1) := by decide +kernel
theorem d_Mod_times_90 : decode b_Mod_times 90 = .ok (.iaload, 1) := by decide +kernel
theorem d_Mod_times_91 : decode b_Mod_times 91 = .ok (.i2l, 1) := by decide +kernel
theorem d_Mod_times_92 : decode b_Mod_times 92 = .ok (.ladd, 1) := by decide +kernel
theorem d_Mod_times_93 : decode b_Mod_times 93 = .ok (.lload 5, 2) := by decide +kernel
theorem d_Mod_times_95 : decode b_Mod_times 95 = .ok (.ladd, 1) := by decide +kernel
theorem d_Mod_times_96 : decode b_Mod_times 96 = .ok (.lstore 8, 2) := by decide +kernel
theorem d_Mod_times_98 : decode b_Mod_times 98 = .ok (.aload_n 0, 1) := by decide +kernel
theorem d_Mod_times_99 : decode b_Mod_times 99 = .ok (.getfield 23, 3) := by decide +kernel
theorem d_Mod_times_102 : decode b_Mod_times 102 = .ok (.iload 4, 2) := by decide +kernel
theorem d_Mod_times_104 : decode b_Mod_times 104 = .ok (.iload 7, 2) := by decide +kernel
theorem d_Mod_times_106 : decode b_Mod_times 106 = .ok (.iadd, 1) := by decide +kernel
theorem d_Mod_times_107 : decode b_Mod_times 107 = .ok (.lload 8, 2) := by decide +kernel
theorem d_Mod_times_109 : decode b_Mod_times 109 = .ok (.ldc2_w 52, 3) := by decide +kernel
theorem d_Mod_times_112 : decode b_Mod_times 112 = .ok (.land, 1) := by decide +kernel
theorem d_Mod_times_113 : decode b_Mod_times 113 = .ok (.l2i, 1) := by decide +kernel
theorem d_Mod_times_114 : decode b_Mod_times 114 = .ok (.iastore, 1) := by decide +kernel
theorem d_Mod_times_115 : decode b_Mod_times 115 = .ok (.lload 8, 2) := by decide +kernel
theorem d_Mod_times_117 : decode b_Mod_times 117 = .ok (.bipush 16, 2) := by decide +kernel
theorem d_Mod_times_119 : decode b_Mod_times 119 = .ok (.lshr, 1) := by decide +kernel
theorem d_Mod_times_120 : decode b_Mod_times 120 = .ok (.lstore 5, 2) := by decide +kernel
theorem d_Mod_times_122 : decode b_Mod_times 122 = .ok (.iinc 7 1, 3) := by decide +kernel
theorem d_Mod_times_125 : decode b_Mod_times 125 = .ok (.goto (-70), 3) := by decide +kernel
theorem d_Mod_times_128 : decode b_Mod_times 128 = .ok (.iinc 4 1, 3) := by decide +kernel
theorem d_Mod_times_131 : decode b_Mod_times 131 = .ok (.goto (-91), 3) := by decide +kernel
theorem d_Mod_times_134 : decode b_Mod_times 134 = .ok (.aload_n 0, 1) := by decide +kernel
theorem d_Mod_times_135 : decode b_Mod_times 135 = .ok (.iload_n 1, 1) := by decide +kernel
theorem d_Mod_times_136 : decode b_Mod_times 136 = .ok (.aload_n 0, 1) := by decide +kernel
theorem d_Mod_times_137 : decode b_Mod_times 137 = .ok (.getfield 23, 3) := by decide +kernel
theorem d_Mod_times_140 : decode b_Mod_times 140 = .ok (.aload_n 0, 1) := by decide +kernel
theorem d_Mod_times_141 : decode b_Mod_times 141 = .ok (.getfield 26, 3) := by decide +kernel
theorem d_Mod_times_144 : decode b_Mod_times 144 = .ok (.aload_n 0, 1) := by decide +kernel
theorem d_Mod_times_145 : decode b_Mod_times 145 = .ok (.getfield 30, 3) := by decide +kernel
theorem d_Mod_times_148 : decode b_Mod_times 148 = .ok (.iadd, 1) := by decide +kernel
theorem d_Mod_times_149 : decode b_Mod_times 149 = .ok (.iconst 1, 1) := by decide +kernel
theorem d_Mod_times_150 : decode b_Mod_times 150 = .ok (.iadd, 1) := by decide +kernel
theorem d_Mod_times_151 : decode b_Mod_times 151 = .ok (.invokevirtual 54, 3) := by decide +kernel
theorem d_Mod_times_154 : decode b_Mod_times 154 = .ok (.ireturn, 1) := by decide +kernel
theorem d_Mod_trim_0 : decode b_Mod_trim 0 = .ok (.iload_n 1, 1) := by decide +kernel
theorem d_Mod_trim_1 : decode b_Mod_trim 1 = .ok (.istore_n 2, 1) := by decide +kernel
theorem d_Mod_trim_2 : decode b_Mod_trim 2 = .ok (.iload_n 2, 1) := by decide +kernel
theorem d_Mod_trim_3 : decode b_Mod_trim 3 = .ok (.ifCond .le 17, 3) := by decide +kernel
theorem d_Mod_trim_6 : decode b_Mod_trim 6 = .ok (.aload_n 0, 1) := by decide +kernel
theorem d_Mod_trim_7 : decode b_Mod_trim 7 = .ok (.iload_n 2, 1) := by decide +kernel
theorem d_Mod_trim_8 : decode b_Mod_trim 8 = .ok (.iconst 1, 1) := by decide +kernel
theorem d_Mod_trim_9 : decode b_Mod_trim 9 = .ok (.isub, 1) := by decide +kernel
theorem d_Mod_trim_10 : decode b_Mod_trim 10 = .ok (.iaload, 1) := by decide +kernel
theorem d_Mod_trim_11 : decode b_Mod_trim 11 = .ok (.ifCond .ne 9, 3) := by decide +kernel
theorem d_Mod_trim_14 : decode b_Mod_trim 14 = .ok (.iinc 2 (-1), 3) := by decide +kernel
theorem d_Mod_trim_17 : decode b_Mod_trim 17 = .ok (.goto (-15), 3) := by decide +kernel
theorem d_Mod_trim_20 : decode b_Mod_trim 20 = .ok (.iload_n 2, 1) := by decide +kernel
theorem d_Mod_trim_21 : decode b_Mod_trim 21 = .ok (.ireturn, 1) := by decide +kernel
theorem d_Mod_twice_0 : decode b_Mod_twice 0 = .ok (.iload_n 2, 1) := by decide +kernel
theorem d_Mod_twice_1 : decode b_Mod_twice 1 = .ok (.istore_n 3, 1) := by decide +kernel
theorem d_Mod_twice_2 : decode b_Mod_twice 2 = .ok (.iconst 0, 1) := by decide +kernel
theorem d_Mod_twice_3 : decode b_Mod_twice 3 = .ok (.istore 4, 2) := by decide +kernel
theorem d_Mod_twice_5 : decode b_Mod_twice 5 = .ok (.iload 4, 2) := by decide +kernel
theorem d_Mod_twice_7 : decode b_Mod_twice 7 = .ok (.iload_n 1, 1) := by decide +kernel
theorem d_Mod_twice_8 : decode b_Mod_twice 8 = .ok (.if_icmp .ge 34, 3) := by decide +kernel
theorem d_Mod_twice_11 : decode b_Mod_twice 11 = .ok (.iconst 2, 1) := by decide +kernel
theorem d_Mod_twice_12 : decode b_Mod_twice 12 = .ok (.aload_n 0, 1) := by decide +kernel
theorem d_Mod_twice_13 : decode b_Mod_twice 13 = .ok (.iload 4, 2) := by decide +kernel
theorem d_Mod_twice_15 : decode b_Mod_twice 15 = .ok (.iaload, 1) := by decide +kernel
theorem d_Mod_twice_16 : decode b_Mod_twice 16 = .ok (.imul, 1) := by decide +kernel
theorem d_Mod_twice_17 : decode b_Mod_twice 17 = .ok (.iload_n 3, 1) := by decide +kernel
theorem d_Mod_twice_18 : decode b_Mod_twice 18 = .ok (.iadd, 1) := by decide +kernel
theorem d_Mod_twice_19 : decode b_Mod_twice 19 = .ok (.istore 5, 2) := by decide +kernel
theorem d_Mod_twice_21 : decode b_Mod_twice 21 = .ok (.iload 5, 2) := by decide +kernel
theorem d_Mod_twice_23 : decode b_Mod_twice 23 = .ok (.bipush 16, 2) := by decide +kernel
theorem d_Mod_twice_25 : decode b_Mod_twice 25 = .ok (.ishr, 1) := by decide +kernel
theorem d_Mod_twice_26 : decode b_Mod_twice 26 = .ok (.istore_n 3, 1) := by decide +kernel
theorem d_Mod_twice_27 : decode b_Mod_twice 27 = .ok (.aload_n 0, 1) := by decide +kernel
theorem d_Mod_twice_28 : decode b_Mod_twice 28 = .ok (.iload 4, 2) := by decide +kernel
theorem d_Mod_twice_30 : decode b_Mod_twice 30 = .ok (.iload 5, 2) := by decide +kernel
theorem d_Mod_twice_32 : decode b_Mod_twice 32 = .ok (.ldc 40, 2) := by decide +kernel
theorem d_Mod_twice_34 : decode b_Mod_twice 34 = .ok (.iand, 1) := by decide +kernel
theorem d_Mod_twice_35 : decode b_Mod_twice 35 = .ok (.iastore, 1) := by decide +kernel
theorem d_Mod_twice_36 : decode b_Mod_twice 36 = .ok (.iinc 4 1, 3) := by decide +kernel
theorem d_Mod_twice_39 : decode b_Mod_twice 39 = .ok (.goto (-34), 3) := by decide +kernel
theorem d_Mod_twice_42 : decode b_Mod_twice 42 = .ok (.aload_n 0, 1) := by decide +kernel
theorem d_Mod_twice_43 : decode b_Mod_twice 43 = .ok (.iload_n 1, 1) := by decide +kernel
theorem d_Mod_twice_44 : decode b_Mod_twice 44 = .ok (.iload_n 3, 1) := by decide +kernel
theorem d_Mod_twice_45 : decode b_Mod_twice 45 = .ok (.iastore, 1) := by decide +kernel
theorem d_Mod_twice_46 : decode b_Mod_twice 46 = .ok (.iload_n 3, 1) := by decide +kernel
theorem d_Mod_twice_47 : decode b_Mod_twice 47 = .ok (.ifCond .le 9, 3) := by decide +kernel
theorem d_Mod_twice_50 : decode b_Mod_twice 50 = .ok (.iload_n 1, 1) := by decide +kernel
theorem d_Mod_twice_51 : decode b_Mod_twice 51 = .ok (.iconst 1, 1) := by decide +kernel
theorem d_Mod_twice_52 : decode b_Mod_twice 52 = .ok (.iadd, 1) := by decide +kernel
theorem d_Mod_twice_53 : decode b_Mod_twice 53 = .ok (.goto 4, 3) := by decide +kernel
theorem d_Mod_twice_56 : decode b_Mod_twice 56 = .ok (.iload_n 1, 1) := by decide +kernel
theorem d_Mod_twice_57 : decode b_Mod_twice 57 = .ok (.ireturn, 1) := by decide +kernel
theorem d_Mod_word_0 : decode b_Mod_word 0 = .ok (.iload_n 1, 1) := by decide +kernel
theorem d_Mod_word_1 : decode b_Mod_word 1 = .ok (.invokestatic 41, 3) := by decide +kernel
theorem d_Mod_word_4 : decode b_Mod_word 4 = .ok (.ifCond .eq 14, 3) := by decide +kernel
theorem d_Mod_word_7 : decode b_Mod_word 7 = .ok (.iload_n 2, 1) := by decide +kernel
theorem d_Mod_word_8 : decode b_Mod_word 8 = .ok (.ifCond .lt 10, 3) := by decide +kernel
theorem d_Mod_word_11 : decode b_Mod_word 11 = .ok (.iload_n 2, 1) := by decide +kernel
theorem d_Mod_word_12 : decode b_Mod_word 12 = .ok (.sipush 2048, 3) := by decide +kernel
theorem d_Mod_word_15 : decode b_Mod_word 15 = .ok (.if_icmp .lt 5, 3) := by decide +kernel
theorem d_Mod_word_18 : decode b_Mod_word 18 = .ok (.iconst 0, 1) := by decide +kernel
theorem d_Mod_word_19 : decode b_Mod_word 19 = .ok (.ireturn, 1) := by decide +kernel
theorem d_Mod_word_20 : decode b_Mod_word 20 = .ok (.aload_n 0, 1) := by decide +kernel
theorem d_Mod_word_21 : decode b_Mod_word 21 = .ok (.getfield 8, 3) := by decide +kernel
theorem d_Mod_word_24 : decode b_Mod_word 24 = .ok (.sipush 4096, 3) := by decide +kernel
theorem d_Mod_word_27 : decode b_Mod_word 27 = .ok (.iload_n 1, 1) := by decide +kernel
theorem d_Mod_word_28 : decode b_Mod_word 28 = .ok (.imul, 1) := by decide +kernel
theorem d_Mod_word_29 : decode b_Mod_word 29 = .ok (.iconst 2, 1) := by decide +kernel
theorem d_Mod_word_30 : decode b_Mod_word 30 = .ok (.iload_n 2, 1) := by decide +kernel
theorem d_Mod_word_31 : decode b_Mod_word 31 = .ok (.imul, 1) := by decide +kernel
theorem d_Mod_word_32 : decode b_Mod_word 32 = .ok (.iadd, 1) := by decide +kernel
theorem d_Mod_word_33 : decode b_Mod_word 33 = .ok (.iaload, 1) := by decide +kernel
theorem d_Mod_word_34 : decode b_Mod_word 34 = .ok (.aload_n 0, 1) := by decide +kernel
theorem d_Mod_word_35 : decode b_Mod_word 35 = .ok (.getfield 8, 3) := by decide +kernel
theorem d_Mod_word_38 : decode b_Mod_word 38 = .ok (.sipush 4096, 3) := by decide +kernel
theorem d_Mod_word_41 : decode b_Mod_word 41 = .ok (.iload_n 1, 1) := by decide +kernel
theorem d_Mod_word_42 : decode b_Mod_word 42 = .ok (.imul, 1) := by decide +kernel
theorem d_Mod_word_43 : decode b_Mod_word 43 = .ok (.iconst 2, 1) := by decide +kernel
theorem d_Mod_word_44 : decode b_Mod_word 44 = .ok (.iload_n 2, 1) := by decide +kernel
theorem d_Mod_word_45 : decode b_Mod_word 45 = .ok (.imul, 1) := by decide +kernel
theorem d_Mod_word_46 : decode b_Mod_word 46 = .ok (.iadd, 1) := by decide +kernel
theorem d_Mod_word_47 : decode b_Mod_word 47 = .ok (.iconst 1, 1) := by decide +kernel
theorem d_Mod_word_48 : decode b_Mod_word 48 = .ok (.iadd, 1) := by decide +kernel
theorem d_Mod_word_49 : decode b_Mod_word 49 = .ok (.iaload, 1) := by decide +kernel
theorem d_Mod_word_50 : decode b_Mod_word 50 = .ok (.bipush 16, 2) := by decide +kernel
theorem d_Mod_word_52 : decode b_Mod_word 52 = .ok (.ishl, 1) := by decide +kernel
theorem d_Mod_word_53 : decode b_Mod_word 53 = .ok (.ior, 1) := by decide +kernel
theorem d_Mod_word_54 : decode b_Mod_word 54 = .ok (.ireturn, 1) := by decide +kernel
end
section
theorem d_Root_find_0 : decode b_Root_find 0 = .ok (.aload_n 0, 1) := by decide +kernel
theorem d_Root_find_1 : decode b_Root_find 1 = .ok (.getfield 9, 3) := by decide +kernel
theorem d_Root_find_4 : decode b_Root_find 4 = .ok (.iconst 1, 1) := by decide +kernel
theorem d_Root_find_5 : decode b_Root_find 5 = .ok (.iadd, 1) := by decide +kernel
theorem d_Root_find_6 : decode b_Root_find 6 = .ok (.iconst 2, 1) := by decide +kernel
theorem d_Root_find_7 : decode b_Root_find 7 = .ok (.idiv, 1) := by decide +kernel
theorem d_Root_find_8 : decode b_Root_find 8 = .ok (.istore 4, 2) := by decide +kernel
theorem d_Root_find_10 : decode b_Root_find 10 = .ok (.aload_n 1, 1) := by decide +kernel
theorem d_Root_find_11 : decode b_Root_find 11 = .ok (.invokevirtual 15, 3) := by decide +kernel
theorem d_Root_find_14 : decode b_Root_find 14 = .ok (.aload_n 2, 1) := by decide +kernel
theorem d_Root_find_15 : decode b_Root_find 15 = .ok (.invokevirtual 15, 3) := by decide +kernel
theorem d_Root_find_18 : decode b_Root_find 18 = .ok (.aload_n 3, 1) := by decide +kernel
theorem d_Root_find_19 : decode b_Root_find 19 = .ok (.invokevirtual 15, 3) := by decide +kernel
theorem d_Root_find_22 : decode b_Root_find 22 = .ok (.iload 4, 2) := by decide +kernel
theorem d_Root_find_24 : decode b_Root_find 24 = .ok (.ifCond .ne 4, 3) := by decide +kernel
theorem d_Root_find_27 : decode b_Root_find 27 = .ok (.return_, 1) := by decide +kernel
theorem d_Root_find_28 : decode b_Root_find 28 = .ok (.bipush 64, 2) := by decide +kernel
theorem d_Root_find_30 : decode b_Root_find 30 = .ok (.iload 4, 2) := by decide +kernel
theorem d_Root_find_32 : decode b_Root_find 32 = .ok (.imul, 1) := by decide +kernel
theorem d_Root_find_33 : decode b_Root_find 33 = .ok (.aload_n 0, 1) := by decide +kernel
theorem d_Root_find_34 : decode b_Root_find 34 = .ok (.invokevirtual 18, 3) := by decide +kernel
theorem d_Root_find_37 : decode b_Root_find 37 = .ok (.isub, 1) := by decide +kernel
theorem d_Root_find_38 : decode b_Root_find 38 = .ok (.iconst 2, 1) := by decide +kernel
theorem d_Root_find_39 : decode b_Root_find 39 = .ok (.idiv, 1) := by decide +kernel
theorem d_Root_find_40 : decode b_Root_find 40 = .ok (.istore 5, 2) := by decide +kernel
theorem d_Root_find_42 : decode b_Root_find 42 = .ok (.aload_n 2, 1) := by decide +kernel
theorem d_Root_find_43 : decode b_Root_find 43 = .ok (.aload_n 0, 1) := by decide +kernel
theorem d_Root_find_44 : decode b_Root_find 44 = .ok (.iconst 2, 1) := by decide +kernel
theorem d_Root_find_45 : decode b_Root_find 45 = .ok (.iload 5, 2) := by decide +kernel
theorem d_Root_find_47 : decode b_Root_find 47 = .ok (.imul, 1) := by decide +kernel
theorem d_Root_find_48 : decode b_Root_find 48 = .ok (.invokevirtual 22, 3) := by decide +kernel
theorem d_Root_find_51 : decode b_Root_find 51 = .ok (.aload_n 2, 1) := by decide +kernel
theorem d_Root_find_52 : decode b_Root_find 52 = .ok (.getfield 26, 3) := by decide +kernel
theorem d_Root_find_55 : decode b_Root_find 55 = .ok (.aload_n 3, 1) := by decide +kernel
theorem d_Root_find_56 : decode b_Root_find 56 = .ok (.getfield 26, 3) := by decide +kernel
theorem d_Root_find_59 : decode b_Root_find 59 = .ok (.iload 4, 2) := by decide +kernel
theorem d_Root_find_61 : decode b_Root_find 61 = .ok (.invokestatic 30, 3) := by decide +kernel
theorem d_Root_find_64 : decode b_Root_find 64 = .ok (.iload 4, 2) := by decide +kernel
theorem d_Root_find_66 : decode b_Root_find 66 = .ok (.iconst 2, 1) := by decide +kernel
theorem d_Root_find_67 : decode b_Root_find 67 = .ok (.isub, 1) := by decide +kernel
theorem d_Root_find_68 : decode b_Root_find 68 = .ok (.istore 6, 2) := by decide +kernel
theorem d_Root_find_70 : decode b_Root_find 70 = .ok (.iload 6, 2) := by decide +kernel
theorem d_Root_find_72 : decode b_Root_find 72 = .ok (.ifCond .lt 24, 3) := by decide +kernel
theorem d_Root_find_75 : decode b_Root_find 75 = .ok (.aload_n 2, 1) := by decide +kernel
theorem d_Root_find_76 : decode b_Root_find 76 = .ok (.getfield 26, 3) := by decide +kernel
theorem d_Root_find_79 : decode b_Root_find 79 = .ok (.aload_n 3, 1) := by decide +kernel
theorem d_Root_find_80 : decode b_Root_find 80 = .ok (.getfield 26, 3) := by decide +kernel
theorem d_Root_find_83 : decode b_Root_find 83 = .ok (.iload 6, 2) := by decide +kernel
theorem d_Root_find_85 : decode b_Root_find 85 = .ok (.iload 4, 2) := by decide +kernel
theorem d_Root_find_87 : decode b_Root_find 87 = .ok (.invokestatic 36, 3) := by decide +kernel
theorem d_Root_find_90 : decode b_Root_find 90 = .ok (.iinc 6 (-1), 3) := by decide +kernel
theorem d_Root_find_93 : decode b_Root_find 93 = .ok (.goto (-23), 3) := by decide +kernel
theorem d_Root_find_96 : decode b_Root_find 96 = .ok (.aload_n 1, 1) := by decide +kernel
theorem d_Root_find_97 : decode b_Root_find 97 = .ok (.aload_n 2, 1) := by decide +kernel
theorem d_Root_find_98 : decode b_Root_find 98 = .ok (.aload_n 3, 1) := by decide +kernel
theorem d_Root_find_99 : decode b_Root_find 99 = .ok (.iload 4, 2) := by decide +kernel
theorem d_Root_find_101 : decode b_Root_find 101 = .ok (.iload 5, 2) := by decide +kernel
theorem d_Root_find_103 : decode b_Root_find 103 = .ok (.invokestatic 40, 3) := by decide +kernel
theorem d_Root_find_106 : decode b_Root_find 106 = .ok (.return_, 1) := by decide +kernel
theorem d_Root_firstWord_0 : decode b_Root_firstWord 0 = .ok (.iconst 2, 1) := by decide +kernel
theorem d_Root_firstWord_1 : decode b_Root_firstWord 1 = .ok (.iload_n 2, 1) := by decide +kernel
theorem d_Root_firstWord_2 : decode b_Root_firstWord 2 = .ok (.imul, 1) := by decide +kernel
theorem d_Root_firstWord_3 : decode b_Root_firstWord 3 = .ok (.iconst 1, 1) := by decide +kernel
theorem d_Root_firstWord_4 : decode b_Root_firstWord 4 = .ok (.isub, 1) := by decide +kernel
theorem d_Root_firstWord_5 : decode b_Root_firstWord 5 = .ok (.istore_n 3, 1) := by decide +kernel
theorem d_Root_firstWord_6 : decode b_Root_firstWord 6 = .ok (.aload_n 0, 1) := by decide +kernel
theorem d_Root_firstWord_7 : decode b_Root_firstWord 7 = .ok (.iload_n 3, 1) := by decide +kernel
theorem d_Root_firstWord_8 : decode b_Root_firstWord 8 = .ok (.iaload, 1) := by decide +kernel
theorem d_Root_firstWord_9 : decode b_Root_firstWord 9 = .ok (.i2l, 1) := by decide +kernel
theorem d_Root_firstWord_10 : decode b_Root_firstWord 10 = .ok (.bipush 32, 2) := by decide +kernel
theorem d_Root_firstWord_12 : decode b_Root_firstWord 12 = .ok (.lshl, 1) := by decide +kernel
theorem d_Root_firstWord_13 : decode b_Root_firstWord 13 = .ok (.aload_n 0, 1) := by decide +kernel
theorem d_Root_firstWord_14 : decode b_Root_firstWord 14 = .ok (.iload_n 3, 1) := by decide +kernel
theorem d_Root_firstWord_15 : decode b_Root_firstWord 15 = .ok (.iconst 1, 1) := by decide +kernel
theorem d_Root_firstWord_16 : decode b_Root_firstWord 16 = .ok (.isub, 1) := by decide +kernel
theorem d_Root_firstWord_17 : decode b_Root_firstWord 17 = .ok (.iaload, 1) := by decide +kernel
theorem d_Root_firstWord_18 : decode b_Root_firstWord 18 = .ok (.i2l, 1) := by decide +kernel
theorem d_Root_firstWord_19 : decode b_Root_firstWord 19 = .ok (.ldc2_w 44, 3) := by decide +kernel
theorem d_Root_firstWord_22 : decode b_Root_firstWord 22 = .ok (.land, 1) := by decide +kernel
theorem d_Root_firstWord_23 : decode b_Root_firstWord 23 = .ok (.lor, 1) := by decide +kernel
theorem d_Root_firstWord_24 : decode b_Root_firstWord 24 = .ok (.lstore 4, 2) := by decide +kernel
theorem d_Root_firstWord_26 : decode b_Root_firstWord 26 = .ok (.lload 4, 2) := by decide +kernel
theorem d_Root_firstWord_28 : decode b_Root_firstWord 28 = .ok (.invokestatic 46, 3) := by decide +kernel
theorem d_Root_firstWord_31 : decode b_Root_firstWord 31 = .ok (.lstore 6, 2) := by decide +kernel
theorem d_Root_firstWord_33 : decode b_Root_firstWord 33 = .ok (.lload 4, 2) := by decide +kernel
theorem d_Root_firstWord_35 : decode b_Root_firstWord 35 = .ok (.lload 6, 2) := by decide +kernel
theorem d_Root_firstWord_37 : decode b_Root_firstWord 37 = .ok (.lload 6, 2) := by decide +kernel
theorem d_Root_firstWord_39 : decode b_Root_firstWord 39 = .ok (.lmul, 1) := by decide +kernel
theorem d_Root_firstWord_40 : decode b_Root_firstWord 40 = .ok (.lsub, 1) := by decide +kernel
theorem d_Root_firstWord_41 : decode b_Root_firstWord 41 = .ok (.lstore 8, 2) := by decide +kernel
theorem d_Root_firstWord_43 : decode b_Root_firstWord 43 = .ok (.aload_n 0, 1) := by decide +kernel
theorem d_Root_firstWord_44 : decode b_Root_firstWord 44 = .ok (.iload_n 3, 1) := by decide +kernel
theorem d_Root_firstWord_45 : decode b_Root_firstWord 45 = .ok (.iconst 1, 1) := by decide +kernel
theorem d_Root_firstWord_46 : decode b_Root_firstWord 46 = .ok (.isub, 1) := by decide +kernel
theorem d_Root_firstWord_47 : decode b_Root_firstWord 47 = .ok (.lload 8, 2) := by decide +kernel
theorem d_Root_firstWord_49 : decode b_Root_firstWord 49 = .ok (.l2i, 1) := by decide +kernel
theorem d_Root_firstWord_50 : decode b_Root_firstWord 50 = .ok (.iastore, 1) := by decide +kernel
theorem d_Root_firstWord_51 : decode b_Root_firstWord 51 = .ok (.aload_n 0, 1) := by decide +kernel
theorem d_Root_firstWord_52 : decode b_Root_firstWord 52 = .ok (.iload_n 3, 1) := by decide +kernel
theorem d_Root_firstWord_53 : decode b_Root_firstWord 53 = .ok (.lload 8, 2) := by decide +kernel
theorem d_Root_firstWord_55 : decode b_Root_firstWord 55 = .ok (.bipush 32, 2) := by decide +kernel
theorem d_Root_firstWord_57 : decode b_Root_firstWord 57 = .ok (.lushr, 1) := by decide +kernel
theorem d_Root_firstWord_58 : decode b_Root_firstWord 58 = .ok (.l2i, 1) := by decide +kernel
theorem d_Root_firstWord_59 : decode b_Root_firstWord 59 = .ok (.iastore, 1) := by decide +kernel
theorem d_Root_firstWord_60 : decode b_Root_firstWord 60 = .ok (.aload_n 1, 1) := by decide +kernel
theorem d_Root_firstWord_61 : decode b_Root_firstWord 61 = .ok (.iload_n 2, 1) := by decide +kernel
theorem d_Root_firstWord_62 : decode b_Root_firstWord 62 = .ok (.iconst 1, 1) := by decide +kernel
theorem d_Root_firstWord_63 : decode b_Root_firstWord 63 = .ok (.isub, 1) := by decide +kernel
theorem d_Root_firstWord_64 : decode b_Root_firstWord 64 = .ok (.lload 6, 2) := by decide +kernel
theorem d_Root_firstWord_66 : decode b_Root_firstWord 66 = .ok (.invokestatic 50, 3) := by decide +kernel
theorem d_Root_firstWord_69 : decode b_Root_firstWord 69 = .ok (.return_, 1) := by decide +kernel
theorem d_Root_guessWord_0 : decode b_Root_guessWord 0 = .ok (.aload_n 0, 1) := by decide +kernel
theorem d_Root_guessWord_1 : decode b_Root_guessWord 1 = .ok (.iload_n 2, 1) := by decide +kernel
theorem d_Root_guessWord_2 : decode b_Root_guessWord 2 = .ok (.iaload, 1) := by decide +kernel
theorem d_Root_guessWord_3 : decode b_Root_guessWord 3 = .ok (.aload_n 0, 1) := by decide +kernel
theorem d_Root_guessWord_4 : decode b_Root_guessWord 4 = .ok (.iload_n 2, 1) := by decide +kernel
theorem d_Root_guessWord_5 : decode b_Root_guessWord 5 = .ok (.iconst 1, 1) := by decide +kernel
theorem d_Root_guessWord_6 : decode b_Root_guessWord 6 = .ok (.isub, 1) := by decide +kernel
theorem d_Root_guessWord_7 : decode b_Root_guessWord 7 = .ok (.iaload, 1) := by decide +kernel
theorem d_Root_guessWord_8 : decode b_Root_guessWord 8 = .ok (.invokestatic 73, 3) := by decide +kernel
theorem d_Root_guessWord_11 : decode b_Root_guessWord 11 = .ok (.istore 4, 2) := by decide +kernel
theorem d_Root_guessWord_13 : decode b_Root_guessWord 13 = .ok (.aload_n 0, 1) := by decide +kernel
theorem d_Root_guessWord_14 : decode b_Root_guessWord 14 = .ok (.iload_n 2, 1) := by decide +kernel
theorem d_Root_guessWord_15 : decode b_Root_guessWord 15 = .ok (.iconst 1, 1) := by decide +kernel
theorem d_Root_guessWord_16 : decode b_Root_guessWord 16 = .ok (.isub, 1) := by decide +kernel
theorem d_Root_guessWord_17 : decode b_Root_guessWord 17 = .ok (.iaload, 1) := by decide +kernel
theorem d_Root_guessWord_18 : decode b_Root_guessWord 18 = .ok (.aload_n 0, 1) := by decide +kernel
theorem d_Root_guessWord_19 : decode b_Root_guessWord 19 = .ok (.iload_n 2, 1) := by decide +kernel
theorem d_Root_guessWord_20 : decode b_Root_guessWord 20 = .ok (.iconst 2, 1) := by decide +kernel
theorem d_Root_guessWord_21 : decode b_Root_guessWord 21 = .ok (.isub, 1) := by decide +kernel
theorem d_Root_guessWord_22 : decode b_Root_guessWord 22 = .ok (.iaload, 1) := by decide +kernel
theorem d_Root_guessWord_23 : decode b_Root_guessWord 23 = .ok (.invokestatic 73, 3) := by decide +kernel
theorem d_Root_guessWord_26 : decode b_Root_guessWord 26 = .ok (.istore 5, 2) := by decide +kernel
theorem d_Root_guessWord_28 : decode b_Root_guessWord 28 = .ok (.aload_n 0, 1) := by decide +kernel
theorem d_Root_guessWord_29 : decode b_Root_guessWord 29 = .ok (.iload_n 2, 1) := by decide +kernel
theorem d_Root_guessWord_30 : decode b_Root_guessWord 30 = .ok (.iconst 2, 1) := by decide +kernel
theorem d_Root_guessWord_31 : decode b_Root_guessWord 31 = .ok (.isub, 1) := by decide +kernel
theorem d_Root_guessWord_32 : decode b_Root_guessWord 32 = .ok (.iaload, 1) := by decide +kernel
theorem d_Root_guessWord_33 : decode b_Root_guessWord 33 = .ok (.aload_n 0, 1) := by decide +kernel
theorem d_Root_guessWord_34 : decode b_Root_guessWord 34 = .ok (.iload_n 2, 1) := by decide +kernel
theorem d_Root_guessWord_35 : decode b_Root_guessWord 35 = .ok (.iconst 3, 1) := by decide +kernel
theorem d_Root_guessWord_36 : decode b_Root_guessWord 36 = .ok (.isub, 1) := by decide +kernel
theorem d_Root_guessWord_37 : decode b_Root_guessWord 37 = .ok (.iaload, 1) := by decide +kernel
theorem d_Root_guessWord_38 : decode b_Root_guessWord 38 = .ok (.invokestatic 73, 3) := by decide +kernel
theorem d_Root_guessWord_41 : decode b_Root_guessWord 41 = .ok (.istore 6, 2) := by decide +kernel
theorem d_Root_guessWord_43 : decode b_Root_guessWord 43 = .ok (.aload_n 1, 1) := by decide +kernel
theorem d_Root_guessWord_44 : decode b_Root_guessWord 44 = .ok (.iload_n 3, 1) := by decide +kernel
theorem d_Root_guessWord_45 : decode b_Root_guessWord 45 = .ok (.iaload, 1) := by decide +kernel
theorem d_Root_guessWord_46 : decode b_Root_guessWord 46 = .ok (.aload_n 1, 1) := by decide +kernel
theorem d_Root_guessWord_47 : decode b_Root_guessWord 47 = .ok (.iload_n 3, 1) := by decide +kernel
theorem d_Root_guessWord_48 : decode b_Root_guessWord 48 = .ok (.iconst 1, 1) := by decide +kernel
theorem d_Root_guessWord_49 : decode b_Root_guessWord 49 = .ok (.isub, 1) := by decide +kernel
theorem d_Root_guessWord_50 : decode b_Root_guessWord 50 = .ok (.iaload, 1) := by decide +kernel
theorem d_Root_guessWord_51 : decode b_Root_guessWord 51 = .ok (.invokestatic 73, 3) := by decide +kernel
theorem d_Root_guessWord_54 : decode b_Root_guessWord 54 = .ok (.istore 7, 2) := by decide +kernel
theorem d_Root_guessWord_56 : decode b_Root_guessWord 56 = .ok (.aload_n 1, 1) := by decide +kernel
theorem d_Root_guessWord_57 : decode b_Root_guessWord 57 = .ok (.iload_n 3, 1) := by decide +kernel
theorem d_Root_guessWord_58 : decode b_Root_guessWord 58 = .ok (.iconst 1, 1) := by decide +kernel
theorem d_Root_guessWord_59 : decode b_Root_guessWord 59 = .ok (.isub, 1) := by decide +kernel
theorem d_Root_guessWord_60 : decode b_Root_guessWord 60 = .ok (.iaload, 1) := by decide +kernel
theorem d_Root_guessWord_61 : decode b_Root_guessWord 61 = .ok (.aload_n 1, 1) := by decide +kernel
theorem d_Root_guessWord_62 : decode b_Root_guessWord 62 = .ok (.iload_n 3, 1) := by decide +kernel
theorem d_Root_guessWord_63 : decode b_Root_guessWord 63 = .ok (.iconst 2, 1) := by decide +kernel
theorem d_Root_guessWord_64 : decode b_Root_guessWord 64 = .ok (.isub, 1) := by decide +kernel
theorem d_Root_guessWord_65 : decode b_Root_guessWord 65 = .ok (.iaload, 1) := by decide +kernel
theorem d_Root_guessWord_66 : decode b_Root_guessWord 66 = .ok (.invokestatic 73, 3) := by decide +kernel
theorem d_Root_guessWord_69 : decode b_Root_guessWord 69 = .ok (.istore 8, 2) := by decide +kernel
theorem d_Root_guessWord_71 : decode b_Root_guessWord 71 = .ok (.iload 4, 2) := by decide +kernel
theorem d_Root_guessWord_73 : decode b_Root_guessWord 73 = .ok (.iload 5, 2) := by decide +kernel
theorem d_Root_guessWord_75 : decode b_Root_guessWord 75 = .ok (.iload 6, 2) := by decide +kernel
theorem d_Root_guessWord_77 : decode b_Root_guessWord 77 = .ok (.iload 7, 2) := by decide +kernel
theorem d_Root_guessWord_79 : decode b_Root_guessWord 79 = .ok (.iload 8, 2) := by decide +kernel
theorem d_Root_guessWord_81 : decode b_Root_guessWord 81 = .ok (.invokestatic 77, 3) := by decide +kernel
theorem d_Root_guessWord_84 : decode b_Root_guessWord 84 = .ok (.lreturn, 1) := by decide +kernel
theorem d_Root_nextWord_0 : decode b_Root_nextWord 0 = .ok (.iload_n 2, 1) := by decide +kernel
theorem d_Root_nextWord_1 : decode b_Root_nextWord 1 = .ok (.iload_n 3, 1) := by decide +kernel
theorem d_Root_nextWord_2 : decode b_Root_nextWord 2 = .ok (.iadd, 1) := by decide +kernel
theorem d_Root_nextWord_3 : decode b_Root_nextWord 3 = .ok (.iconst 1, 1) := by decide +kernel
theorem d_Root_nextWord_4 : decode b_Root_nextWord 4 = .ok (.iadd, 1) := by decide +kernel
theorem d_Root_nextWord_5 : decode b_Root_nextWord 5 = .ok (.istore 4, 2) := by decide +kernel
theorem d_Root_nextWord_7 : decode b_Root_nextWord 7 = .ok (.iload_n 3, 1) := by decide +kernel
theorem d_Root_nextWord_8 : decode b_Root_nextWord 8 = .ok (.iload_n 2, 1) := by decide +kernel
theorem d_Root_nextWord_9 : decode b_Root_nextWord 9 = .ok (.isub, 1) := by decide +kernel
theorem d_Root_nextWord_10 : decode b_Root_nextWord 10 = .ok (.iconst 1, 1) := by decide +kernel
theorem d_Root_nextWord_11 : decode b_Root_nextWord 11 = .ok (.iadd, 1) := by decide +kernel
theorem d_Root_nextWord_12 : decode b_Root_nextWord 12 = .ok (.istore 5, 2) := by decide +kernel
theorem d_Root_nextWord_14 : decode b_Root_nextWord 14 = .ok (.aload_n 0, 1) := by decide +kernel
theorem d_Root_nextWord_15 : decode b_Root_nextWord 15 = .ok (.aload_n 1, 1) := by decide +kernel
theorem d_Root_nextWord_16 : decode b_Root_nextWord 16 = .ok (.iload 4, 2) := by decide +kernel
theorem d_Root_nextWord_18 : decode b_Root_nextWord 18 = .ok (.iload_n 3, 1) := by decide +kernel
theorem d_Root_nextWord_19 : decode b_Root_nextWord 19 = .ok (.invokestatic 60, 3) := by decide +kernel
theorem d_Root_nextWord_22 : decode b_Root_nextWord 22 = .ok (.lstore 6, 2) := by decide +kernel
theorem d_Root_nextWord_24 : decode b_Root_nextWord 24 = .ok (.aload_n 1, 1) := by decide +kernel
theorem d_Root_nextWord_25 : decode b_Root_nextWord 25 = .ok (.iload_n 2, 1) := by decide +kernel
theorem d_Root_nextWord_26 : decode b_Root_nextWord 26 = .ok (.lload 6, 2) := by decide +kernel
theorem d_Root_nextWord_28 : decode b_Root_nextWord 28 = .ok (.l2i, 1) := by decide +kernel
theorem d_Root_nextWord_29 : decode b_Root_nextWord 29 = .ok (.iastore, 1) := by decide +kernel
theorem d_Root_nextWord_30 : decode b_Root_nextWord 30 = .ok (.aload_n 0, 1) := by decide +kernel
theorem d_Root_nextWord_31 : decode b_Root_nextWord 31 = .ok (.iload 4, 2) := by decide +kernel
theorem d_Root_nextWord_33 : decode b_Root_nextWord 33 = .ok (.iaload, 1) := by decide +kernel
theorem d_Root_nextWord_34 : decode b_Root_nextWord 34 = .ok (.i2l, 1) := by decide +kernel
theorem d_Root_nextWord_35 : decode b_Root_nextWord 35 = .ok (.ldc2_w 44, 3) := by decide +kernel
theorem d_Root_nextWord_38 : decode b_Root_nextWord 38 = .ok (.land, 1) := by decide +kernel
theorem d_Root_nextWord_39 : decode b_Root_nextWord 39 = .ok (.aload_n 0, 1) := by decide +kernel
theorem d_Root_nextWord_40 : decode b_Root_nextWord 40 = .ok (.iconst 2, 1) := by decide +kernel
theorem d_Root_nextWord_41 : decode b_Root_nextWord 41 = .ok (.iload_n 2, 1) := by decide +kernel
theorem d_Root_nextWord_42 : decode b_Root_nextWord 42 = .ok (.imul, 1) := by decide +kernel
theorem d_Root_nextWord_43 : decode b_Root_nextWord 43 = .ok (.aload_n 1, 1) := by decide +kernel
theorem d_Root_nextWord_44 : decode b_Root_nextWord 44 = .ok (.iload_n 2, 1) := by decide +kernel
theorem d_Root_nextWord_45 : decode b_Root_nextWord 45 = .ok (.iload 5, 2) := by decide +kernel
theorem d_Root_nextWord_47 : decode b_Root_nextWord 47 = .ok (.lload 6, 2) := by decide +kernel
theorem d_Root_nextWord_49 : decode b_Root_nextWord 49 = .ok (.invokestatic 64, 3) := by decide +kernel
theorem d_Root_nextWord_52 : decode b_Root_nextWord 52 = .ok (.lsub, 1) := by decide +kernel
theorem d_Root_nextWord_53 : decode b_Root_nextWord 53 = .ok (.lstore 8, 2) := by decide +kernel
theorem d_Root_nextWord_55 : decode b_Root_nextWord 55 = .ok (.aload_n 1, 1) := by decide +kernel
theorem d_Root_nextWord_56 : decode b_Root_nextWord 56 = .ok (.iload_n 2, 1) := by decide +kernel
theorem d_Root_nextWord_57 : decode b_Root_nextWord 57 = .ok (.iconst 0, 1) := by decide +kernel
theorem d_Root_nextWord_58 : decode b_Root_nextWord 58 = .ok (.iastore, 1) := by decide +kernel
theorem d_Root_nextWord_59 : decode b_Root_nextWord 59 = .ok (.iconst 0, 1) := by decide +kernel
theorem d_Root_nextWord_60 : decode b_Root_nextWord 60 = .ok (.istore 10, 2) := by decide +kernel
theorem d_Root_nextWord_62 : decode b_Root_nextWord 62 = .ok (.iload 10, 2) := by decide +kernel
theorem d_Root_nextWord_64 : decode b_Root_nextWord 64 = .ok (.iconst 3, 1) := by decide +kernel
theorem d_Root_nextWord_65 : decode b_Root_nextWord 65 = .ok (.if_icmp .ge 46, 3) := by decide +kernel
theorem d_Root_nextWord_68 : decode b_Root_nextWord 68 = .ok (.lload 8, 2) := by decide +kernel
theorem d_Root_nextWord_70 : decode b_Root_nextWord 70 = .ok (.lconst 0, 1) := by decide +kernel
theorem d_Root_nextWord_71 : decode b_Root_nextWord 71 = .ok (.lcmp, 1) := by decide +kernel
theorem d_Root_nextWord_72 : decode b_Root_nextWord 72 = .ok (.ifCond .ge 39, 3) := by decide +kernel
theorem d_Root_nextWord_75 : decode b_Root_nextWord 75 = .ok (.lload 6, 2) := by decide +kernel
theorem d_Root_nextWord_77 : decode b_Root_nextWord 77 = .ok (.lconst 1, 1) := by decide +kernel
theorem d_Root_nextWord_78 : decode b_Root_nextWord 78 = .ok (.lsub, 1) := by decide +kernel
theorem d_Root_nextWord_79 : decode b_Root_nextWord 79 = .ok (.lstore 6, 2) := by decide +kernel
theorem d_Root_nextWord_81 : decode b_Root_nextWord 81 = .ok (.lload 8, 2) := by decide +kernel
theorem d_Root_nextWord_83 : decode b_Root_nextWord 83 = .ok (.aload_n 0, 1) := by decide +kernel
theorem d_Root_nextWord_84 : decode b_Root_nextWord 84 = .ok (.iconst 2, 1) := by decide +kernel
theorem d_Root_nextWord_85 : decode b_Root_nextWord 85 = .ok (.iload_n 2, 1) := by decide +kernel
theorem d_Root_nextWord_86 : decode b_Root_nextWord 86 = .ok (.imul, 1) := by decide +kernel
theorem d_Root_nextWord_87 : decode b_Root_nextWord 87 = .ok (.aload_n 1, 1) := by decide +kernel
theorem d_Root_nextWord_88 : decode b_Root_nextWord 88 = .ok (.iload_n 2, 1) := by decide +kernel
theorem d_Root_nextWord_89 : decode b_Root_nextWord 89 = .ok (.iload 5, 2) := by decide +kernel
theorem d_Root_nextWord_91 : decode b_Root_nextWord 91 = .ok (.ldc2_w 68, 3) := by decide +kernel
theorem d_Root_nextWord_94 : decode b_Root_nextWord 94 = .ok (.lload 6, 2) := by decide +kernel
theorem d_Root_nextWord_96 : decode b_Root_nextWord 96 = .ok (.lmul, 1) := by decide +kernel
theorem d_Root_nextWord_97 : decode b_Root_nextWord 97 = .ok (.lconst 1, 1) := by decide +kernel
theorem d_Root_nextWord_98 : decode b_Root_nextWord 98 = .ok (.ladd, 1) := by decide +kernel
theorem d_Root_nextWord_99 : decode b_Root_nextWord 99 = .ok (.invokestatic 70, 3) := by decide +kernel
theorem d_Root_nextWord_102 : decode b_Root_nextWord 102 = .ok (.ladd, 1) := by decide +kernel
theorem d_Root_nextWord_103 : decode b_Root_nextWord 103 = .ok (.lstore 8, 2) := by decide +kernel
theorem d_Root_nextWord_105 : decode b_Root_nextWord 105 = .ok (.iinc 10 1, 3) := by decide +kernel
theorem d_Root_nextWord_108 : decode b_Root_nextWord 108 = .ok (.goto (-46), 3) := by decide +kernel
theorem d_Root_nextWord_111 : decode b_Root_nextWord 111 = .ok (.aload_n 0, 1) := by decide +kernel
theorem d_Root_nextWord_112 : decode b_Root_nextWord 112 = .ok (.iload 4, 2) := by decide +kernel
theorem d_Root_nextWord_114 : decode b_Root_nextWord 114 = .ok (.lload 8, 2) := by decide +kernel
theorem d_Root_nextWord_116 : decode b_Root_nextWord 116 = .ok (.l2i, 1) := by decide +kernel
theorem d_Root_nextWord_117 : decode b_Root_nextWord 117 = .ok (.iastore, 1) := by decide +kernel
theorem d_Root_nextWord_118 : decode b_Root_nextWord 118 = .ok (.aload_n 1, 1) := by decide +kernel
theorem d_Root_nextWord_119 : decode b_Root_nextWord 119 = .ok (.iload_n 2, 1) := by decide +kernel
theorem d_Root_nextWord_120 : decode b_Root_nextWord 120 = .ok (.lload 6, 2) := by decide +kernel
theorem d_Root_nextWord_122 : decode b_Root_nextWord 122 = .ok (.invokestatic 50, 3) := by decide +kernel
theorem d_Root_nextWord_125 : decode b_Root_nextWord 125 = .ok (.return_, 1) := by decide +kernel
theorem d_Root_putWord_0 : decode b_Root_putWord 0 = .ok (.aload_n 0, 1) := by decide +kernel
theorem d_Root_putWord_1 : decode b_Root_putWord 1 = .ok (.iload_n 1, 1) := by decide +kernel
theorem d_Root_putWord_2 : decode b_Root_putWord 2 = .ok (.lload_n 2, 1) := by decide +kernel
theorem d_Root_putWord_3 : decode b_Root_putWord 3 = .ok (.iconst 1, 1) := by decide +kernel
theorem d_Root_putWord_4 : decode b_Root_putWord 4 = .ok (.lshl, 1) := by decide +kernel
theorem d_Root_putWord_5 : decode b_Root_putWord 5 = .ok (.l2i, 1) := by decide +kernel
theorem d_Root_putWord_6 : decode b_Root_putWord 6 = .ok (.iastore, 1) := by decide +kernel
theorem d_Root_putWord_7 : decode b_Root_putWord 7 = .ok (.aload_n 0, 1) := by decide +kernel
theorem d_Root_putWord_8 : decode b_Root_putWord 8 = .ok (.iload_n 1, 1) := by decide +kernel
theorem d_Root_putWord_9 : decode b_Root_putWord 9 = .ok (.iconst 1, 1) := by decide +kernel
theorem d_Root_putWord_10 : decode b_Root_putWord 10 = .ok (.iadd, 1) := by decide +kernel
theorem d_Root_putWord_11 : decode b_Root_putWord 11 = .ok (.dup2, 1) := by decide +kernel
theorem d_Root_putWord_12 : decode b_Root_putWord 12 = .ok (.iaload, 1) := by decide +kernel
theorem d_Root_putWord_13 : decode b_Root_putWord 13 = .ok (.lload_n 2, 1) := by decide +kernel
theorem d_Root_putWord_14 : decode b_Root_putWord 14 = .ok (.bipush 31, 2) := by decide +kernel
theorem d_Root_putWord_16 : decode b_Root_putWord 16 = .ok (.lushr, 1) := by decide +kernel
theorem d_Root_putWord_17 : decode b_Root_putWord 17 = .ok (.l2i, 1) := by decide +kernel
theorem d_Root_putWord_18 : decode b_Root_putWord 18 = .ok (.ior, 1) := by decide +kernel
theorem d_Root_putWord_19 : decode b_Root_putWord 19 = .ok (.iastore, 1) := by decide +kernel
theorem d_Root_putWord_20 : decode b_Root_putWord 20 = .ok (.return_, 1) := by decide +kernel
theorem d_Root_rootOfPair_0 : decode b_Root_rootOfPair 0 = .ok (.lconst 0, 1) := by decide +kernel
theorem d_Root_rootOfPair_1 : decode b_Root_rootOfPair 1 = .ok (.lstore_n 2, 1) := by decide +kernel
theorem d_Root_rootOfPair_2 : decode b_Root_rootOfPair 2 = .ok (.bipush 31, 2) := by decide +kernel
theorem d_Root_rootOfPair_4 : decode b_Root_rootOfPair 4 = .ok (.istore 4, 2) := by decide +kernel
theorem d_Root_rootOfPair_6 : decode b_Root_rootOfPair 6 = .ok (.iload 4, 2) := by decide +kernel
theorem d_Root_rootOfPair_8 : decode b_Root_rootOfPair 8 = .ok (.ifCond .lt 32, 3) := by decide +kernel
theorem d_Root_rootOfPair_11 : decode b_Root_rootOfPair 11 = .ok (.lload_n 2, 1) := by decide +kernel
theorem d_Root_rootOfPair_12 : decode b_Root_rootOfPair 12 = .ok (.lconst 1, 1) := by decide +kernel
theorem d_Root_rootOfPair_13 : decode b_Root_rootOfPair 13 = .ok (.iload 4, 2) := by decide +kernel
theorem d_Root_rootOfPair_15 : decode b_Root_rootOfPair 15 = .ok (.lshl, 1) := by decide +kernel
theorem d_Root_rootOfPair_16 : decode b_Root_rootOfPair 16 = .ok (.lor, 1) := by decide +kernel
theorem d_Root_rootOfPair_17 : decode b_Root_rootOfPair 17 = .ok (.lstore 5, 2) := by decide +kernel
theorem d_Root_rootOfPair_19 : decode b_Root_rootOfPair 19 = .ok (.lload 5, 2) := by decide +kernel
theorem d_Root_rootOfPair_21 : decode b_Root_rootOfPair 21 = .ok (.lload 5, 2) := by decide +kernel
theorem d_Root_rootOfPair_23 : decode b_Root_rootOfPair 23 = .ok (.lmul, 1) := by decide +kernel
theorem d_Root_rootOfPair_24 : decode b_Root_rootOfPair 24 = .ok (.lload_n 0, 1) := by decide +kernel
theorem d_Root_rootOfPair_25 : decode b_Root_rootOfPair 25 = .ok (.invokestatic 54, 3) := by decide +kernel
theorem d_Root_rootOfPair_28 : decode b_Root_rootOfPair 28 = .ok (.ifCond .ne 6, 3) := by decide +kernel
theorem d_Root_rootOfPair_31 : decode b_Root_rootOfPair 31 = .ok (.lload 5, 2) := by decide +kernel
theorem d_Root_rootOfPair_33 : decode b_Root_rootOfPair 33 = .ok (.lstore_n 2, 1) := by decide +kernel
theorem d_Root_rootOfPair_34 : decode b_Root_rootOfPair 34 = .ok (.iinc 4 (-1), 3) := by decide +kernel
theorem d_Root_rootOfPair_37 : decode b_Root_rootOfPair 37 = .ok (.goto (-31), 3) := by decide +kernel
theorem d_Root_rootOfPair_40 : decode b_Root_rootOfPair 40 = .ok (.lload_n 2, 1) := by decide +kernel
theorem d_Root_rootOfPair_41 : decode b_Root_rootOfPair 41 = .ok (.lreturn, 1) := by decide +kernel
theorem d_Root_shiftBack_0 : decode b_Root_shiftBack 0 = .ok (.aload_n 2, 1) := by decide +kernel
theorem d_Root_shiftBack_1 : decode b_Root_shiftBack 1 = .ok (.getfield 26, 3) := by decide +kernel
theorem d_Root_shiftBack_4 : decode b_Root_shiftBack 4 = .ok (.iconst 1, 1) := by decide +kernel
theorem d_Root_shiftBack_5 : decode b_Root_shiftBack 5 = .ok (.iaload, 1) := by decide +kernel
theorem d_Root_shiftBack_6 : decode b_Root_shiftBack 6 = .ok (.aload_n 2, 1) := by decide +kernel
theorem d_Root_shiftBack_7 : decode b_Root_shiftBack 7 = .ok (.getfield 26, 3) := by decide +kernel
theorem d_Root_shiftBack_10 : decode b_Root_shiftBack 10 = .ok (.iconst 0, 1) := by decide +kernel
theorem d_Root_shiftBack_11 : decode b_Root_shiftBack 11 = .ok (.iaload, 1) := by decide +kernel
theorem d_Root_shiftBack_12 : decode b_Root_shiftBack 12 = .ok (.invokestatic 73, 3) := by decide +kernel
theorem d_Root_shiftBack_15 : decode b_Root_shiftBack 15 = .ok (.iconst 1, 1) := by decide +kernel
theorem d_Root_shiftBack_16 : decode b_Root_shiftBack 16 = .ok (.iload 4, 2) := by decide +kernel
theorem d_Root_shiftBack_18 : decode b_Root_shiftBack 18 = .ok (.ishl, 1) := by decide +kernel
theorem d_Root_shiftBack_19 : decode b_Root_shiftBack 19 = .ok (.iconst 1, 1) := by decide +kernel
theorem d_Root_shiftBack_20 : decode b_Root_shiftBack 20 = .ok (.isub, 1) := by decide +kernel
theorem d_Root_shiftBack_21 : decode b_Root_shiftBack 21 = .ok (.iand, 1) := by decide +kernel
theorem d_Root_shiftBack_22 : decode b_Root_shiftBack 22 = .ok (.istore 5, 2) := by decide +kernel
theorem d_Root_shiftBack_24 : decode b_Root_shiftBack 24 = .ok (.aload_n 1, 1) := by decide +kernel
theorem d_Root_shiftBack_25 : decode b_Root_shiftBack 25 = .ok (.getfield 26, 3) := by decide +kernel
theorem d_Root_shiftBack_28 : decode b_Root_shiftBack 28 = .ok (.iconst 0, 1) := by decide +kernel
theorem d_Root_shiftBack_29 : decode b_Root_shiftBack 29 = .ok (.aload_n 2, 1) := by decide +kernel
theorem d_Root_shiftBack_30 : decode b_Root_shiftBack 30 = .ok (.getfield 26, 3) := by decide +kernel
theorem d_Root_shiftBack_33 : decode b_Root_shiftBack 33 = .ok (.iload_n 3, 1) := by decide +kernel
theorem d_Root_shiftBack_34 : decode b_Root_shiftBack 34 = .ok (.iconst 1, 1) := by decide +kernel
theorem d_Root_shiftBack_35 : decode b_Root_shiftBack 35 = .ok (.iadd, 1) := by decide +kernel
theorem d_Root_shiftBack_36 : decode b_Root_shiftBack 36 = .ok (.iload 5, 2) := by decide +kernel
theorem d_Root_shiftBack_38 : decode b_Root_shiftBack 38 = .ok (.i2l, 1) := by decide +kernel
theorem d_Root_shiftBack_39 : decode b_Root_shiftBack 39 = .ok (.invokestatic 81, 3) := by decide +kernel
theorem d_Root_shiftBack_42 : decode b_Root_shiftBack 42 = .ok (.pop2, 1) := by decide +kernel
theorem d_Root_shiftBack_43 : decode b_Root_shiftBack 43 = .ok (.aload_n 1, 1) := by decide +kernel
theorem d_Root_shiftBack_44 : decode b_Root_shiftBack 44 = .ok (.iload_n 3, 1) := by decide +kernel
theorem d_Root_shiftBack_45 : decode b_Root_shiftBack 45 = .ok (.iconst 1, 1) := by decide +kernel
theorem d_Root_shiftBack_46 : decode b_Root_shiftBack 46 = .ok (.iadd, 1) := by decide +kernel
theorem d_Root_shiftBack_47 : decode b_Root_shiftBack 47 = .ok (.invokevirtual 85, 3) := by decide +kernel
theorem d_Root_shiftBack_50 : decode b_Root_shiftBack 50 = .ok (.aload_n 1, 1) := by decide +kernel
theorem d_Root_shiftBack_51 : decode b_Root_shiftBack 51 = .ok (.aload_n 1, 1) := by decide +kernel
theorem d_Root_shiftBack_52 : decode b_Root_shiftBack 52 = .ok (.iconst 2, 1) := by decide +kernel
theorem d_Root_shiftBack_53 : decode b_Root_shiftBack 53 = .ok (.iload 4, 2) := by decide +kernel
theorem d_Root_shiftBack_55 : decode b_Root_shiftBack 55 = .ok (.imul, 1) := by decide +kernel
theorem d_Root_shiftBack_56 : decode b_Root_shiftBack 56 = .ok (.invokevirtual 89, 3) := by decide +kernel
theorem d_Root_shiftBack_59 : decode b_Root_shiftBack 59 = .ok (.aload_n 2, 1) := by decide +kernel
theorem d_Root_shiftBack_60 : decode b_Root_shiftBack 60 = .ok (.iload_n 3, 1) := by decide +kernel
theorem d_Root_shiftBack_61 : decode b_Root_shiftBack 61 = .ok (.iconst 1, 1) := by decide +kernel
theorem d_Root_shiftBack_62 : decode b_Root_shiftBack 62 = .ok (.iadd, 1) := by decide +kernel
theorem d_Root_shiftBack_63 : decode b_Root_shiftBack 63 = .ok (.invokevirtual 85, 3) := by decide +kernel
theorem d_Root_shiftBack_66 : decode b_Root_shiftBack 66 = .ok (.aload_n 0, 1) := by decide +kernel
theorem d_Root_shiftBack_67 : decode b_Root_shiftBack 67 = .ok (.aload_n 2, 1) := by decide +kernel
theorem d_Root_shiftBack_68 : decode b_Root_shiftBack 68 = .ok (.iload 4, 2) := by decide +kernel
theorem d_Root_shiftBack_70 : decode b_Root_shiftBack 70 = .ok (.iconst 1, 1) := by decide +kernel
theorem d_Root_shiftBack_71 : decode b_Root_shiftBack 71 = .ok (.iadd, 1) := by decide +kernel
theorem d_Root_shiftBack_72 : decode b_Root_shiftBack 72 = .ok (.invokevirtual 89, 3) := by decide +kernel
theorem d_Root_shiftBack_75 : decode b_Root_shiftBack 75 = .ok (.return_, 1) := by decide +kernel
end
section
theorem d_Rows_addMultiple_0 : decode b_Rows_addMultiple 0 = .ok (.lconst 0, 1) := by decide +kernel
theorem d_Rows_addMultiple_1 : decode b_Rows_addMultiple 1 = .ok (.lstore 6, 2) := by decide +kernel
theorem d_Rows_addMultiple_3 : decode b_Rows_addMultiple 3 = .ok (.iconst 0, 1) := by decide +kernel
theorem d_Rows_addMultiple_4 : decode b_Rows_addMultiple 4 = .ok (.istore 8, 2) := by decide +kernel
theorem d_Rows_addMultiple_6 : decode b_Rows_addMultiple 6 = .ok (.iload 8, 2) := by decide +kernel
theorem d_Rows_addMultiple_8 : decode b_Rows_addMultiple 8 = .ok (.iload_n 3, 1) := by decide +kernel
theorem d_Rows_addMultiple_9 : decode b_Rows_addMultiple 9 = .ok (.if_icmp .ge 54, 3) := by decide +kernel
theorem d_Rows_addMultiple_12 : decode b_Rows_addMultiple 12 = .ok (.lload 6, 2) := by decide +kernel
theorem d_Rows_addMultiple_14 : decode b_Rows_addMultiple 14 = .ok (.lload 4, 2) := by decide +kernel
theorem d_Rows_addMultiple_16 : decode b_Rows_addMultiple 16 = .ok (.aload_n 2, 1) := by decide +kernel
theorem d_Rows_addMultiple_17 : decode b_Rows_addMultiple 17 = .ok (.iload 8, 2) := by decide +kernel
theorem d_Rows_addMultiple_19 : decode b_Rows_addMultiple 19 = .ok (.iaload, 1) := by decide +kernel
theorem d_Rows_addMultiple_20 : decode b_Rows_addMultiple 20 = .ok (.i2l, 1) := by decide +kernel
theorem d_Rows_addMultiple_21 : decode b_Rows_addMultiple 21 = .ok (.ldc2_w 9, 3) := by decide +kernel
theorem d_Rows_addMultiple_24 : decode b_Rows_addMultiple 24 = .ok (.land, 1) := by decide +kernel
theorem d_Rows_addMultiple_25 : decode b_Rows_addMultiple 25 = .ok (.lmul, 1) := by decide +kernel
theorem d_Rows_addMultiple_26 : decode b_Rows_addMultiple 26 = .ok (.aload_n 0, 1) := by decide +kernel
theorem d_Rows_addMultiple_27 : decode b_Rows_addMultiple 27 = .ok (.iload_n 1, 1) := by decide +kernel
theorem d_Rows_addMultiple_28 : decode b_Rows_addMultiple 28 = .ok (.iload 8, 2) := by decide +kernel
theorem d_Rows_addMultiple_30 : decode b_Rows_addMultiple 30 = .ok (.iadd, 1) := by decide +kernel
theorem d_Rows_addMultiple_31 : decode b_Rows_addMultiple 31 = .ok (.iaload, 1) := by decide +kernel
theorem d_Rows_addMultiple_32 : decode b_Rows_addMultiple 32 = .ok (.i2l, 1) := by decide +kernel
theorem d_Rows_addMultiple_33 : decode b_Rows_addMultiple 33 = .ok (.ldc2_w 9, 3) := by decide +kernel
theorem d_Rows_addMultiple_36 : decode b_Rows_addMultiple 36 = .ok (.land, 1) := by decide +kernel
theorem d_Rows_addMultiple_37 : decode b_Rows_addMultiple 37 = .ok (.ladd, 1) := by decide +kernel
theorem d_Rows_addMultiple_38 : decode b_Rows_addMultiple 38 = .ok (.ladd, 1) := by decide +kernel
theorem d_Rows_addMultiple_39 : decode b_Rows_addMultiple 39 = .ok (.lstore 6, 2) := by decide +kernel
theorem d_Rows_addMultiple_41 : decode b_Rows_addMultiple 41 = .ok (.aload_n 0, 1) := by decide +kernel
theorem d_Rows_addMultiple_42 : decode b_Rows_addMultiple 42 = .ok (.iload_n 1, 1) := by decide +kernel
theorem d_Rows_addMultiple_43 : decode b_Rows_addMultiple 43 = .ok (.iload 8, 2) := by decide +kernel
theorem d_Rows_addMultiple_45 : decode b_Rows_addMultiple 45 = .ok (.iadd, 1) := by decide +kernel
theorem d_Rows_addMultiple_46 : decode b_Rows_addMultiple 46 = .ok (.lload 6, 2) := by decide +kernel
theorem d_Rows_addMultiple_48 : decode b_Rows_addMultiple 48 = .ok (.l2i, 1) := by decide +kernel
theorem d_Rows_addMultiple_49 : decode b_Rows_addMultiple 49 = .ok (.iastore, 1) := by decide +kernel
theorem d_Rows_addMultiple_50 : decode b_Rows_addMultiple 50 = .ok (.lload 6, 2) := by decide +kernel
theorem d_Rows_addMultiple_52 : decode b_Rows_addMultiple 52 = .ok (.bipush 32, 2) := by decide +kernel
theorem d_Rows_addMultiple_54 : decode b_Rows_addMultiple 54 = .ok (.lushr, 1) := by decide +kernel
theorem d_Rows_addMultiple_55 : decode b_Rows_addMultiple 55 = .ok (.lstore 6, 2) := by decide +kernel
theorem d_Rows_addMultiple_57 : decode b_Rows_addMultiple 57 = .ok (.iinc 8 1, 3) := by decide +kernel
theorem d_Rows_addMultiple_60 : decode b_Rows_addMultiple 60 = .ok (.goto (-54), 3) := by decide +kernel
theorem d_Rows_addMultiple_63 : decode b_Rows_addMultiple 63 = .ok (.lload 6, 2) := by decide +kernel
theorem d_Rows_addMultiple_65 : decode b_Rows_addMultiple 65 = .ok (.lreturn, 1) := by decide +kernel
theorem d_Rows_addStretch_0 : decode b_Rows_addStretch 0 = .ok (.lload 5, 2) := by decide +kernel
theorem d_Rows_addStretch_2 : decode b_Rows_addStretch 2 = .ok (.lstore 7, 2) := by decide +kernel
theorem d_Rows_addStretch_4 : decode b_Rows_addStretch 4 = .ok (.iconst 0, 1) := by decide +kernel
theorem d_Rows_addStretch_5 : decode b_Rows_addStretch 5 = .ok (.istore 9, 2) := by decide +kernel
theorem d_Rows_addStretch_7 : decode b_Rows_addStretch 7 = .ok (.iload 9, 2) := by decide +kernel
theorem d_Rows_addStretch_9 : decode b_Rows_addStretch 9 = .ok (.iload 4, 2) := by decide +kernel
theorem d_Rows_addStretch_11 : decode b_Rows_addStretch 11 = .ok (.if_icmp .ge 53, 3) := by decide +kernel
theorem d_Rows_addStretch_14 : decode b_Rows_addStretch 14 = .ok (.lload 7, 2) := by decide +kernel
theorem d_Rows_addStretch_16 : decode b_Rows_addStretch 16 = .ok (.aload_n 0, 1) := by decide +kernel
theorem d_Rows_addStretch_17 : decode b_Rows_addStretch 17 = .ok (.iload_n 1, 1) := by decide +kernel
theorem d_Rows_addStretch_18 : decode b_Rows_addStretch 18 = .ok (.iload 9, 2) := by decide +kernel
theorem d_Rows_addStretch_20 : decode b_Rows_addStretch 20 = .ok (.iadd, 1) := by decide +kernel
theorem d_Rows_addStretch_21 : decode b_Rows_addStretch 21 = .ok (.iaload, 1) := by decide +kernel
theorem d_Rows_addStretch_22 : decode b_Rows_addStretch 22 = .ok (.i2l, 1) := by decide +kernel
theorem d_Rows_addStretch_23 : decode b_Rows_addStretch 23 = .ok (.ldc2_w 9, 3) := by decide +kernel
theorem d_Rows_addStretch_26 : decode b_Rows_addStretch 26 = .ok (.land, 1) := by decide +kernel
theorem d_Rows_addStretch_27 : decode b_Rows_addStretch 27 = .ok (.aload_n 2, 1) := by decide +kernel
theorem d_Rows_addStretch_28 : decode b_Rows_addStretch 28 = .ok (.iload_n 3, 1) := by decide +kernel
theorem d_Rows_addStretch_29 : decode b_Rows_addStretch 29 = .ok (.iload 9, 2) := by decide +kernel
theorem d_Rows_addStretch_31 : decode b_Rows_addStretch 31 = .ok (.iadd, 1) := by decide +kernel
theorem d_Rows_addStretch_32 : decode b_Rows_addStretch 32 = .ok (.iaload, 1) := by decide +kernel
theorem d_Rows_addStretch_33 : decode b_Rows_addStretch 33 = .ok (.i2l, 1) := by decide +kernel
theorem d_Rows_addStretch_34 : decode b_Rows_addStretch 34 = .ok (.ldc2_w 9, 3) := by decide +kernel
theorem d_Rows_addStretch_37 : decode b_Rows_addStretch 37 = .ok (.land, 1) := by decide +kernel
theorem d_Rows_addStretch_38 : decode b_Rows_addStretch 38 = .ok (.ladd, 1) := by decide +kernel
theorem d_Rows_addStretch_39 : decode b_Rows_addStretch 39 = .ok (.ladd, 1) := by decide +kernel
theorem d_Rows_addStretch_40 : decode b_Rows_addStretch 40 = .ok (.lstore 7, 2) := by decide +kernel
theorem d_Rows_addStretch_42 : decode b_Rows_addStretch 42 = .ok (.aload_n 0, 1) := by decide +kernel
theorem d_Rows_addStretch_43 : decode b_Rows_addStretch 43 = .ok (.iload_n 1, 1) := by decide +kernel
theorem d_Rows_addStretch_44 : decode b_Rows_addStretch 44 = .ok (.iload 9, 2) := by decide +kernel
theorem d_Rows_addStretch_46 : decode b_Rows_addStretch 46 = .ok (.iadd, 1) := by decide +kernel
theorem d_Rows_addStretch_47 : decode b_Rows_addStretch 47 = .ok (.lload 7, 2) := by decide +kernel
theorem d_Rows_addStretch_49 : decode b_Rows_addStretch 49 = .ok (.l2i, 1) := by decide +kernel
theorem d_Rows_addStretch_50 : decode b_Rows_addStretch 50 = .ok (.iastore, 1) := by decide +kernel
theorem d_Rows_addStretch_51 : decode b_Rows_addStretch 51 = .ok (.lload 7, 2) := by decide +kernel
theorem d_Rows_addStretch_53 : decode b_Rows_addStretch 53 = .ok (.bipush 32, 2) := by decide +kernel
theorem d_Rows_addStretch_55 : decode b_Rows_addStretch 55 = .ok (.lushr, 1) := by decide +kernel
theorem d_Rows_addStretch_56 : decode b_Rows_addStretch 56 = .ok (.lstore 7, 2) := by decide +kernel
theorem d_Rows_addStretch_58 : decode b_Rows_addStretch 58 = .ok (.iinc 9 1, 3) := by decide +kernel
theorem d_Rows_addStretch_61 : decode b_Rows_addStretch 61 = .ok (.goto (-54), 3) := by decide +kernel
theorem d_Rows_addStretch_64 : decode b_Rows_addStretch 64 = .ok (.lload 7, 2) := by decide +kernel
theorem d_Rows_addStretch_66 : decode b_Rows_addStretch 66 = .ok (.lreturn, 1) := by decide +kernel
theorem d_Rows_guess_0 : decode b_Rows_guess 0 = .ok (.iload_n 3, 1) := by decide +kernel
theorem d_Rows_guess_1 : decode b_Rows_guess 1 = .ok (.i2l, 1) := by decide +kernel
theorem d_Rows_guess_2 : decode b_Rows_guess 2 = .ok (.ldc2_w 9, 3) := by decide +kernel
theorem d_Rows_guess_5 : decode b_Rows_guess 5 = .ok (.land, 1) := by decide +kernel
theorem d_Rows_guess_6 : decode b_Rows_guess 6 = .ok (.lstore 5, 2) := by decide +kernel
theorem d_Rows_guess_8 : decode b_Rows_guess 8 = .ok (.lload 5, 2) := by decide +kernel
theorem d_Rows_guess_10 : decode b_Rows_guess 10 = .ok (.lconst 0, 1) := by decide +kernel
theorem d_Rows_guess_11 : decode b_Rows_guess 11 = .ok (.lcmp, 1) := by decide +kernel
theorem d_Rows_guess_12 : decode b_Rows_guess 12 = .ok (.ifCond .ne 7, 3) := by decide +kernel
theorem d_Rows_guess_15 : decode b_Rows_guess 15 = .ok (.ldc2_w 9, 3) := by decide +kernel
theorem d_Rows_guess_18 : decode b_Rows_guess 18 = .ok (.lreturn, 1) := by decide +kernel
theorem d_Rows_guess_19 : decode b_Rows_guess 19 = .ok (.iload_n 0, 1) := by decide +kernel
theorem d_Rows_guess_20 : decode b_Rows_guess 20 = .ok (.i2l, 1) := by decide +kernel
theorem d_Rows_guess_21 : decode b_Rows_guess 21 = .ok (.bipush 32, 2) := by decide +kernel
theorem d_Rows_guess_23 : decode b_Rows_guess 23 = .ok (.lshl, 1) := by decide +kernel
theorem d_Rows_guess_24 : decode b_Rows_guess 24 = .ok (.iload_n 1, 1) := by decide +kernel
theorem d_Rows_guess_25 : decode b_Rows_guess 25 = .ok (.i2l, 1) := by decide +kernel
theorem d_Rows_guess_26 : decode b_Rows_guess 26 = .ok (.ldc2_w 9, 3) := by decide +kernel
theorem d_Rows_guess_29 : decode b_Rows_guess 29 = .ok (.land, 1) := by decide +kernel
theorem d_Rows_guess_30 : decode b_Rows_guess 30 = .ok (.lor, 1) := by decide +kernel
theorem d_Rows_guess_31 : decode b_Rows_guess 31 = .ok (.lstore 7, 2) := by decide +kernel
theorem d_Rows_guess_33 : decode b_Rows_guess 33 = .ok (.lload 7, 2) := by decide +kernel
theorem d_Rows_guess_35 : decode b_Rows_guess 35 = .ok (.iconst 1, 1) := by decide +kernel
theorem d_Rows_guess_36 : decode b_Rows_guess 36 = .ok (.lushr, 1) := by decide +kernel
theorem d_Rows_guess_37 : decode b_Rows_guess 37 = .ok (.lload 5, 2) := by decide +kernel
theorem d_Rows_guess_39 : decode b_Rows_guess 39 = .ok (.ldiv, 1) := by decide +kernel
theorem d_Rows_guess_40 : decode b_Rows_guess 40 = .ok (.iconst 1, 1) := by decide +kernel
theorem d_Rows_guess_41 : decode b_Rows_guess 41 = .ok (.lshl, 1) := by decide +kernel
theorem d_Rows_guess_42 : decode b_Rows_guess 42 = .ok (.lstore 9, 2) := by decide +kernel
theorem d_Rows_guess_44 : decode b_Rows_guess 44 = .ok (.lload 9, 2) := by decide +kernel
theorem d_Rows_guess_46 : decode b_Rows_guess 46 = .ok (.lload 7, 2) := by decide +kernel
theorem d_Rows_guess_48 : decode b_Rows_guess 48 = .ok (.lload 9, 2) := by decide +kernel
theorem d_Rows_guess_50 : decode b_Rows_guess 50 = .ok (.lload 5, 2) := by decide +kernel
theorem d_Rows_guess_52 : decode b_Rows_guess 52 = .ok (.lmul, 1) := by decide +kernel
theorem d_Rows_guess_53 : decode b_Rows_guess 53 = .ok (.lsub, 1) := by decide +kernel
theorem d_Rows_guess_54 : decode b_Rows_guess 54 = .ok (.lload 5, 2) := by decide +kernel
theorem d_Rows_guess_56 : decode b_Rows_guess 56 = .ok (.lcmp, 1) := by decide +kernel
theorem d_Rows_guess_57 : decode b_Rows_guess 57 = .ok (.ifCond .lt 7, 3) := by decide +kernel
theorem d_Rows_guess_60 : decode b_Rows_guess 60 = .ok (.lconst 1, 1) := by decide +kernel
theorem d_Rows_guess_61 : decode b_Rows_guess 61 = .ok (.goto 4, 3) := by decide +kernel
theorem d_Rows_guess_64 : decode b_Rows_guess 64 = .ok (.lconst 0, 1) := by decide +kernel
theorem d_Rows_guess_65 : decode b_Rows_guess 65 = .ok (.ladd, 1) := by decide +kernel
theorem d_Rows_guess_66 : decode b_Rows_guess 66 = .ok (.lstore 9, 2) := by decide +kernel
theorem d_Rows_guess_68 : decode b_Rows_guess 68 = .ok (.lload 9, 2) := by decide +kernel
theorem d_Rows_guess_70 : decode b_Rows_guess 70 = .ok (.ldc2_w 9, 3) := by decide +kernel
theorem d_Rows_guess_73 : decode b_Rows_guess 73 = .ok (.invokestatic 11, 3) := by decide +kernel
theorem d_Rows_guess_76 : decode b_Rows_guess 76 = .ok (.lstore 9, 2) := by decide +kernel
theorem d_Rows_guess_78 : decode b_Rows_guess 78 = .ok (.lload 7, 2) := by decide +kernel
theorem d_Rows_guess_80 : decode b_Rows_guess 80 = .ok (.lload 9, 2) := by decide +kernel
theorem d_Rows_guess_82 : decode b_Rows_guess 82 = .ok (.lload 5, 2) := by decide +kernel
theorem d_Rows_guess_84 : decode b_Rows_guess 84 = .ok (.lmul, 1) := by decide +kernel
theorem d_Rows_guess_85 : decode b_Rows_guess 85 = .ok (.lsub, 1) := by decide +kernel
theorem d_Rows_guess_86 : decode b_Rows_guess 86 = .ok (.lstore 11, 2) := by decide +kernel
theorem d_Rows_guess_88 : decode b_Rows_guess 88 = .ok (.iconst 0, 1) := by decide +kernel
theorem d_Rows_guess_89 : decode b_Rows_guess 89 = .ok (.istore 13, 2) := by decide +kernel
theorem d_Rows_guess_91 : decode b_Rows_guess 91 = .ok (.iload 13, 2) := by decide +kernel
theorem d_Rows_guess_93 : decode b_Rows_guess 93 = .ok (.iconst 2, 1) := by decide +kernel
theorem d_Rows_guess_94 : decode b_Rows_guess 94 = .ok (.if_icmp .ge 62, 3) := by decide +kernel
theorem d_Rows_guess_97 : decode b_Rows_guess 97 = .ok (.lload 11, 2) := by decide +kernel
theorem d_Rows_guess_99 : decode b_Rows_guess 99 = .ok (.ldc2_w 9, 3) := by decide +kernel
theorem d_Rows_guess_102 : decode b_Rows_guess 102 = .ok (.lcmp, 1) := by decide +kernel
theorem d_Rows_guess_103 : decode b_Rows_guess 103 = .ok (.ifCond .gt 53, 3) := by decide +kernel
theorem d_Rows_guess_106 : decode b_Rows_guess 106 = .ok (.lload 9, 2) := by decide +kernel
theorem d_Rows_guess_108 : decode b_Rows_guess 108 = .ok (.iload 4, 2) := by decide +kernel
theorem d_Rows_guess_110 : decode b_Rows_guess 110 = .ok (.i2l, 1) := by decide +kernel
theorem d_Rows_guess_111 : decode b_Rows_guess 111 = .ok (.ldc2_w 9, 3) := by decide +kernel
theorem d_Rows_guess_114 : decode b_Rows_guess 114 = .ok (.land, 1) := by decide +kernel
theorem d_Rows_guess_115 : decode b_Rows_guess 115 = .ok (.lmul, 1) := by decide +kernel
theorem d_Rows_guess_116 : decode b_Rows_guess 116 = .ok (.lload 11, 2) := by decide +kernel
theorem d_Rows_guess_118 : decode b_Rows_guess 118 = .ok (.bipush 32, 2) := by decide +kernel
theorem d_Rows_guess_120 : decode b_Rows_guess 120 = .ok (.lshl, 1) := by decide +kernel
theorem d_Rows_guess_121 : decode b_Rows_guess 121 = .ok (.iload_n 2, 1) := by decide +kernel
theorem d_Rows_guess_122 : decode b_Rows_guess 122 = .ok (.i2l, 1) := by decide +kernel
theorem d_Rows_guess_123 : decode b_Rows_guess 123 = .ok (.ldc2_w 9, 3) := by decide +kernel
theorem d_Rows_guess_126 : decode b_Rows_guess 126 = .ok (.land, 1) := by decide +kernel
theorem d_Rows_guess_127 : decode b_Rows_guess 127 = .ok (.lor, 1) := by decide +kernel
theorem d_Rows_guess_128 : decode b_Rows_guess 128 = .ok (.invokestatic 17, 3) := by decide +kernel
theorem d_Rows_guess_131 : decode b_Rows_guess 131 = .ok (.ifCond .ne 6, 3) := by decide +kernel
theorem d_Rows_guess_134 : decode b_Rows_guess 134 = .ok (.goto 22, 3) := by decide +kernel
theorem d_Rows_guess_137 : decode b_Rows_guess 137 = .ok (.lload 9, 2) := by decide +kernel
theorem d_Rows_guess_139 : decode b_Rows_guess 139 = .ok (.lconst 1, 1) := by decide +kernel
theorem d_Rows_guess_140 : decode b_Rows_guess 140 = .ok (.lsub, 1) := by decide +kernel
theorem d_Rows_guess_141 : decode b_Rows_guess 141 = .ok (.lstore 9, 2) := by decide +kernel
theorem d_Rows_guess_143 : decode b_Rows_guess 143 = .ok (.lload 11, 2) := by decide +kernel
theorem d_Rows_guess_145 : decode b_Rows_guess 145 = .ok (.lload 5, 2) := by decide +kernel
theorem d_Rows_guess_147 : decode b_Rows_guess 147 = .ok (.ladd, 1) := by decide +kernel
theorem d_Rows_guess_148 : decode b_Rows_guess 148 = .ok (.lstore 11, 2) := by decide +kernel
theorem d_Rows_guess_150 : decode b_Rows_guess 150 = .ok (.iinc 13 1, 3) := by decide +kernel
theorem d_Rows_guess_153 : decode b_Rows_guess 153 = .ok (.goto (-62), 3) := by decide +kernel
theorem d_Rows_guess_156 : decode b_Rows_guess 156 = .ok (.lload 9, 2) := by decide +kernel
theorem d_Rows_guess_158 : decode b_Rows_guess 158 = .ok (.lreturn, 1) := by decide +kernel
theorem d_Rows_halved_0 : decode b_Rows_halved 0 = .ok (.iload_n 0, 1) := by decide +kernel
theorem d_Rows_halved_1 : decode b_Rows_halved 1 = .ok (.bipush 31, 2) := by decide +kernel
theorem d_Rows_halved_3 : decode b_Rows_halved 3 = .ok (.ishl, 1) := by decide +kernel
theorem d_Rows_halved_4 : decode b_Rows_halved 4 = .ok (.iload_n 1, 1) := by decide +kernel
theorem d_Rows_halved_5 : decode b_Rows_halved 5 = .ok (.iconst 1, 1) := by decide +kernel
theorem d_Rows_halved_6 : decode b_Rows_halved 6 = .ok (.iushr, 1) := by decide +kernel
theorem d_Rows_halved_7 : decode b_Rows_halved 7 = .ok (.ior, 1) := by decide +kernel
theorem d_Rows_halved_8 : decode b_Rows_halved 8 = .ok (.ireturn, 1) := by decide +kernel
theorem d_Rows_isAbove_0 : decode b_Rows_isAbove 0 = .ok (.lload_n 0, 1) := by decide +kernel
theorem d_Rows_isAbove_1 : decode b_Rows_isAbove 1 = .ok (.ldc2_w 23, 3) := by decide +kernel
theorem d_Rows_isAbove_4 : decode b_Rows_isAbove 4 = .ok (.lxor, 1) := by decide +kernel
theorem d_Rows_isAbove_5 : decode b_Rows_isAbove 5 = .ok (.lload_n 2, 1) := by decide +kernel
theorem d_Rows_isAbove_6 : decode b_Rows_isAbove 6 = .ok (.ldc2_w 23, 3) := by decide +kernel
theorem d_Rows_isAbove_9 : decode b_Rows_isAbove 9 = .ok (.lxor, 1) := by decide +kernel
theorem d_Rows_isAbove_10 : decode b_Rows_isAbove 10 = .ok (.lcmp, 1) := by decide +kernel
theorem d_Rows_isAbove_11 : decode b_Rows_isAbove 11 = .ok (.ifCond .le 7, 3) := by decide +kernel
theorem d_Rows_isAbove_14 : decode b_Rows_isAbove 14 = .ok (.iconst 1, 1) := by decide +kernel
theorem d_Rows_isAbove_15 : decode b_Rows_isAbove 15 = .ok (.goto 4, 3) := by decide +kernel
theorem d_Rows_isAbove_18 : decode b_Rows_isAbove 18 = .ok (.iconst 0, 1) := by decide +kernel
theorem d_Rows_isAbove_19 : decode b_Rows_isAbove 19 = .ok (.ireturn, 1) := by decide +kernel
theorem d_Rows_takeMultiple_0 : decode b_Rows_takeMultiple 0 = .ok (.lconst 0, 1) := by decide +kernel
theorem d_Rows_takeMultiple_1 : decode b_Rows_takeMultiple 1 = .ok (.lstore 7, 2) := by decide +kernel
theorem d_Rows_takeMultiple_3 : decode b_Rows_takeMultiple 3 = .ok (.iconst 0, 1) := by decide +kernel
theorem d_Rows_takeMultiple_4 : decode b_Rows_takeMultiple 4 = .ok (.istore 9, 2) := by decide +kernel
theorem d_Rows_takeMultiple_6 : decode b_Rows_takeMultiple 6 = .ok (.iload 9, 2) := by decide +kernel
theorem d_Rows_takeMultiple_8 : decode b_Rows_takeMultiple 8 = .ok (.iload 4, 2) := by decide +kernel
theorem d_Rows_takeMultiple_10 : decode b_Rows_takeMultiple 10 = .ok (.if_icmp .ge 70, 3) := by decide +kernel
theorem d_Rows_takeMultiple_13 : decode b_Rows_takeMultiple 13 = .ok (.lload 7, 2) := by decide +kernel
theorem d_Rows_takeMultiple_15 : decode b_Rows_takeMultiple 15 = .ok (.lload 5, 2) := by decide +kernel
theorem d_Rows_takeMultiple_17 : decode b_Rows_takeMultiple 17 = .ok (.aload_n 2, 1) := by decide +kernel
theorem d_Rows_takeMultiple_18 : decode b_Rows_takeMultiple 18 = .ok (.iload_n 3, 1) := by decide +kernel
theorem d_Rows_takeMultiple_19 : decode b_Rows_takeMultiple 19 = .ok (.iload 9, 2) := by decide +kernel
theorem d_Rows_takeMultiple_21 : decode b_Rows_takeMultiple 21 = .ok (.iadd, 1) := by decide +kernel
theorem d_Rows_takeMultiple_22 : decode b_Rows_takeMultiple 22 = .ok (.iaload, 1) := by decide +kernel
theorem d_Rows_takeMultiple_23 : decode b_Rows_takeMultiple 23 = .ok (.i2l, 1) := by decide +kernel
theorem d_Rows_takeMultiple_24 : decode b_Rows_takeMultiple 24 = .ok (.ldc2_w 9, 3) := by decide +kernel
theorem d_Rows_takeMultiple_27 : decode b_Rows_takeMultiple 27 = .ok (.land, 1) := by decide +kernel
theorem d_Rows_takeMultiple_28 : decode b_Rows_takeMultiple 28 = .ok (.lmul, 1) := by decide +kernel
theorem d_Rows_takeMultiple_29 : decode b_Rows_takeMultiple 29 = .ok (.ladd, 1) := by decide +kernel
theorem d_Rows_takeMultiple_30 : decode b_Rows_takeMultiple 30 = .ok (.lstore 7, 2) := by decide +kernel
theorem d_Rows_takeMultiple_32 : decode b_Rows_takeMultiple 32 = .ok (.aload_n 0, 1) := by decide +kernel
theorem d_Rows_takeMultiple_33 : decode b_Rows_takeMultiple 33 = .ok (.iload_n 1, 1) := by decide +kernel
theorem d_Rows_takeMultiple_34 : decode b_Rows_takeMultiple 34 = .ok (.iload 9, 2) := by decide +kernel
theorem d_Rows_takeMultiple_36 : decode b_Rows_takeMultiple 36 = .ok (.iadd, 1) := by decide +kernel
theorem d_Rows_takeMultiple_37 : decode b_Rows_takeMultiple 37 = .ok (.iaload, 1) := by decide +kernel
theorem d_Rows_takeMultiple_38 : decode b_Rows_takeMultiple 38 = .ok (.i2l, 1) := by decide +kernel
theorem d_Rows_takeMultiple_39 : decode b_Rows_takeMultiple 39 = .ok (.ldc2_w 9, 3) := by decide +kernel
theorem d_Rows_takeMultiple_42 : decode b_Rows_takeMultiple 42 = .ok (.land, 1) := by decide +kernel
theorem d_Rows_takeMultiple_43 : decode b_Rows_takeMultiple 43 = .ok (.lload 7, 2) := by decide +kernel
theorem d_Rows_takeMultiple_45 : decode b_Rows_takeMultiple 45 = .ok (.ldc2_w 9, 3) := by decide +kernel
theorem d_Rows_takeMultiple_48 : decode b_Rows_takeMultiple 48 = .ok (.land, 1) := by decide +kernel
theorem d_Rows_takeMultiple_49 : decode b_Rows_takeMultiple 49 = .ok (.lsub, 1) := by decide +kernel
theorem d_Rows_takeMultiple_50 : decode b_Rows_takeMultiple 50 = .ok (.lstore 10, 2) := by decide +kernel
theorem d_Rows_takeMultiple_52 : decode b_Rows_takeMultiple 52 = .ok (.aload_n 0, 1) := by decide +kernel
theorem d_Rows_takeMultiple_53 : decode b_Rows_takeMultiple 53 = .ok (.iload_n 1, 1) := by decide +kernel
theorem d_Rows_takeMultiple_54 : decode b_Rows_takeMultiple 54 = .ok (.iload 9, 2) := by decide +kernel
theorem d_Rows_takeMultiple_56 : decode b_Rows_takeMultiple 56 = .ok (.iadd, 1) := by decide +kernel
theorem d_Rows_takeMultiple_57 : decode b_Rows_takeMultiple 57 = .ok (.lload 10, 2) := by decide +kernel
theorem d_Rows_takeMultiple_59 : decode b_Rows_takeMultiple 59 = .ok (.l2i, 1) := by decide +kernel
theorem d_Rows_takeMultiple_60 : decode b_Rows_takeMultiple 60 = .ok (.iastore, 1) := by decide +kernel
theorem d_Rows_takeMultiple_61 : decode b_Rows_takeMultiple 61 = .ok (.lload 7, 2) := by decide +kernel
theorem d_Rows_takeMultiple_63 : decode b_Rows_takeMultiple 63 = .ok (.bipush 32, 2) := by decide +kernel
theorem d_Rows_takeMultiple_65 : decode b_Rows_takeMultiple 65 = .ok (.lushr, 1) := by decide +kernel
theorem d_Rows_takeMultiple_66 : decode b_Rows_takeMultiple 66 = .ok (.lload 10, 2) := by decide +kernel
theorem d_Rows_takeMultiple_68 : decode b_Rows_takeMultiple 68 = .ok (.bipush 63, 2) := by decide +kernel
theorem d_Rows_takeMultiple_70 : decode b_Rows_takeMultiple 70 = .ok (.lushr, 1) := by decide +kernel
theorem d_Rows_takeMultiple_71 : decode b_Rows_takeMultiple 71 = .ok (.ladd, 1) := by decide +kernel
theorem d_Rows_takeMultiple_72 : decode b_Rows_takeMultiple 72 = .ok (.lstore 7, 2) := by decide +kernel
theorem d_Rows_takeMultiple_74 : decode b_Rows_takeMultiple 74 = .ok (.iinc 9 1, 3) := by decide +kernel
theorem d_Rows_takeMultiple_77 : decode b_Rows_takeMultiple 77 = .ok (.goto (-71), 3) := by decide +kernel
theorem d_Rows_takeMultiple_80 : decode b_Rows_takeMultiple 80 = .ok (.lload 7, 2) := by decide +kernel
theorem d_Rows_takeMultiple_82 : decode b_Rows_takeMultiple 82 = .ok (.lreturn, 1) := by decide +kernel
end
section
theorem d_Whole_become_0 : decode b_Whole_become 0 = .ok (.aload_n 1, 1) := by decide +kernel
theorem d_Whole_become_1 : decode b_Whole_become 1 = .ok (.getfield 9, 3) := by decide +kernel
theorem d_Whole_become_4 : decode b_Whole_become 4 = .ok (.iconst 0, 1) := by decide +kernel
theorem d_Whole_become_5 : decode b_Whole_become 5 = .ok (.aload_n 0, 1) := by decide +kernel
theorem d_Whole_become_6 : decode b_Whole_become 6 = .ok (.getfield 9, 3) := by decide +kernel
theorem d_Whole_become_9 : decode b_Whole_become 9 = .ok (.iconst 0, 1) := by decide +kernel
theorem d_Whole_become_10 : decode b_Whole_become 10 = .ok (.aload_n 1, 1) := by decide +kernel
theorem d_Whole_become_11 : decode b_Whole_become 11 = .ok (.getfield 15, 3) := by decide +kernel
theorem d_Whole_become_14 : decode b_Whole_become 14 = .ok (.invokestatic 23, 3) := by decide +kernel
theorem d_Whole_become_17 : decode b_Whole_become 17 = .ok (.aload_n 0, 1) := by decide +kernel
theorem d_Whole_become_18 : decode b_Whole_become 18 = .ok (.aload_n 1, 1) := by decide +kernel
theorem d_Whole_become_19 : decode b_Whole_become 19 = .ok (.getfield 15, 3) := by decide +kernel
theorem d_Whole_become_22 : decode b_Whole_become 22 = .ok (.invokevirtual 19, 3) := by decide +kernel
theorem d_Whole_become_25 : decode b_Whole_become 25 = .ok (.return_, 1) := by decide +kernel
theorem d_Whole_becomeDifference_0 : decode b_Whole_becomeDifference 0 = .ok (.aload_n 1, 1) := by decide +kernel
theorem d_Whole_becomeDifference_1 : decode b_Whole_becomeDifference 1 = .ok (.getfield 15, 3) := by decide +kernel
theorem d_Whole_becomeDifference_4 : decode b_Whole_becomeDifference 4 = .ok (.istore_n 3, 1) := by decide +kernel
theorem d_Whole_becomeDifference_5 : decode b_Whole_becomeDifference 5 = .ok (.lconst 0, 1) := by decide +kernel
theorem d_Whole_becomeDifference_6 : decode b_Whole_becomeDifference 6 = .ok (.lstore 4, 2) := by decide +kernel
theorem d_Whole_becomeDifference_8 : decode b_Whole_becomeDifference 8 = .ok (.iconst 0, 1) := by decide +kernel
theorem d_Whole_becomeDifference_9 : decode b_Whole_becomeDifference 9 = .ok (.istore 6, 2) := by decide +kernel
theorem d_Whole_becomeDifference_11 : decode b_Whole_becomeDifference 11 = .ok (.iload 6, 2) := by decide +kernel
theorem d_Whole_becomeDifference_13 : decode b_Whole_becomeDifference 13 = .ok (.iload_n 3, 1) := by decide +kernel
theorem d_Whole_becomeDifference_14 : decode b_Whole_becomeDifference 14 = .ok (.if_icmp .ge 56, 3) := by decide +kernel
theorem d_Whole_becomeDifference_17 : decode b_Whole_becomeDifference 17 = .ok (.aload_n 1, 1) := by decide +kernel
theorem d_Whole_becomeDifference_18 : decode b_Whole_becomeDifference 18 = .ok (.getfield 9, 3) := by decide +kernel
theorem d_Whole_becomeDifference_21 : decode b_Whole_becomeDifference 21 = .ok (.iload 6, 2) := by decide +kernel
theorem d_Whole_becomeDifference_23 : decode b_Whole_becomeDifference 23 = .ok (.iaload, 1) := by decide +kernel
theorem d_Whole_becomeDifference_24 : decode b_Whole_becomeDifference 24 = .ok (.i2l, 1) := by decide +kernel
theorem d_Whole_becomeDifference_25 : decode b_Whole_becomeDifference 25 = .ok (.ldc2_w 35, 3) := by decide +kernel
theorem d_Whole_becomeDifference_28 : decode b_Whole_becomeDifference 28 = .ok (.land, 1) := by decide +kernel
theorem d_Whole_becomeDifference_29 : decode b_Whole_becomeDifference 29 = .ok (.aload_n 2, 1) := by decide +kernel
theorem d_Whole_becomeDifference_30 : decode b_Whole_becomeDifference 30 = .ok (.getfield 9, 3) := by decide +kernel
theorem d_Whole_becomeDifference_33 : decode b_Whole_becomeDifference 33 = .ok (.iload 6, 2) := by decide +kernel
theorem d_Whole_becomeDifference_35 : decode b_Whole_becomeDifference 35 = .ok (.iaload, 1) := by decide +kernel
theorem d_Whole_becomeDifference_36 : decode b_Whole_becomeDifference 36 = .ok (.i2l, 1) := by decide +kernel
theorem d_Whole_becomeDifference_37 : decode b_Whole_becomeDifference 37 = .ok (.ldc2_w 35, 3) := by decide +kernel
theorem d_Whole_becomeDifference_40 : decode b_Whole_becomeDifference 40 = .ok (.land, 1) := by decide +kernel
theorem d_Whole_becomeDifference_41 : decode b_Whole_becomeDifference 41 = .ok (.lsub, 1) := by decide +kernel
theorem d_Whole_becomeDifference_42 : decode b_Whole_becomeDifference 42 = .ok (.lload 4, 2) := by decide +kernel
theorem d_Whole_becomeDifference_44 : decode b_Whole_becomeDifference 44 = .ok (.lsub, 1) := by decide +kernel
theorem d_Whole_becomeDifference_45 : decode b_Whole_becomeDifference 45 = .ok (.lstore 7, 2) := by decide +kernel
theorem d_Whole_becomeDifference_47 : decode b_Whole_becomeDifference 47 = .ok (.aload_n 0, 1) := by decide +kernel
theorem d_Whole_becomeDifference_48 : decode b_Whole_becomeDifference 48 = .ok (.getfield 9, 3) := by decide +kernel
theorem d_Whole_becomeDifference_51 : decode b_Whole_becomeDifference 51 = .ok (.iload 6, 2) := by decide +kernel
theorem d_Whole_becomeDifference_53 : decode b_Whole_becomeDifference 53 = .ok (.lload 7, 2) := by decide +kernel
theorem d_Whole_becomeDifference_55 : decode b_Whole_becomeDifference 55 = .ok (.l2i, 1) := by decide +kernel
theorem d_Whole_becomeDifference_56 : decode b_Whole_becomeDifference 56 = .ok (.iastore, 1) := by decide +kernel
theorem d_Whole_becomeDifference_57 : decode b_Whole_becomeDifference 57 = .ok (.lload 7, 2) := by decide +kernel
theorem d_Whole_becomeDifference_59 : decode b_Whole_becomeDifference 59 = .ok (.bipush 63, 2) := by decide +kernel
theorem d_Whole_becomeDifference_61 : decode b_Whole_becomeDifference 61 = .ok (.lushr, 1) := by decide +kernel
theorem d_Whole_becomeDifference_62 : decode b_Whole_becomeDifference 62 = .ok (.lstore 4, 2) := by decide +kernel
theorem d_Whole_becomeDifference_64 : decode b_Whole_becomeDifference 64 = .ok (.iinc 6 1, 3) := by decide +kernel
theorem d_Whole_becomeDifference_67 : decode b_Whole_becomeDifference 67 = .ok (.goto (-56), 3) := by decide +kernel
theorem d_Whole_becomeDifference_70 : decode b_Whole_becomeDifference 70 = .ok (.aload_n 0, 1) := by decide +kernel
theorem d_Whole_becomeDifference_71 : decode b_Whole_becomeDifference 71 = .ok (.iload_n 3, 1) := by decide +kernel
theorem d_Whole_becomeDifference_72 : decode b_Whole_becomeDifference 72 = .ok (.invokevirtual 19, 3) := by decide +kernel
theorem d_Whole_becomeDifference_75 : decode b_Whole_becomeDifference 75 = .ok (.return_, 1) := by decide +kernel
theorem d_Whole_becomePairs_0 : decode b_Whole_becomePairs 0 = .ok (.iconst 0, 1) := by decide +kernel
theorem d_Whole_becomePairs_1 : decode b_Whole_becomePairs 1 = .ok (.istore 4, 2) := by decide +kernel
theorem d_Whole_becomePairs_3 : decode b_Whole_becomePairs 3 = .ok (.iload 4, 2) := by decide +kernel
theorem d_Whole_becomePairs_5 : decode b_Whole_becomePairs 5 = .ok (.iload_n 3, 1) := by decide +kernel
theorem d_Whole_becomePairs_6 : decode b_Whole_becomePairs 6 = .ok (.if_icmp .ge 36, 3) := by decide +kernel
theorem d_Whole_becomePairs_9 : decode b_Whole_becomePairs 9 = .ok (.aload_n 0, 1) := by decide +kernel
theorem d_Whole_becomePairs_10 : decode b_Whole_becomePairs 10 = .ok (.getfield 9, 3) := by decide +kernel
theorem d_Whole_becomePairs_13 : decode b_Whole_becomePairs 13 = .ok (.iconst 2, 1) := by decide +kernel
theorem d_Whole_becomePairs_14 : decode b_Whole_becomePairs 14 = .ok (.iload 4, 2) := by decide +kernel
theorem d_Whole_becomePairs_16 : decode b_Whole_becomePairs 16 = .ok (.imul, 1) := by decide +kernel
theorem d_Whole_becomePairs_17 : decode b_Whole_becomePairs 17 = .ok (.lload_n 1, 1) := by decide +kernel
theorem d_Whole_becomePairs_18 : decode b_Whole_becomePairs 18 = .ok (.l2i, 1) := by decide +kernel
theorem d_Whole_becomePairs_19 : decode b_Whole_becomePairs 19 = .ok (.iastore, 1) := by decide +kernel
theorem d_Whole_becomePairs_20 : decode b_Whole_becomePairs 20 = .ok (.aload_n 0, 1) := by decide +kernel
theorem d_Whole_becomePairs_21 : decode b_Whole_becomePairs 21 = .ok (.getfield 9, 3) := by decide +kernel
theorem d_Whole_becomePairs_24 : decode b_Whole_becomePairs 24 = .ok (.iconst 2, 1) := by decide +kernel
theorem d_Whole_becomePairs_25 : decode b_Whole_becomePairs 25 = .ok (.iload 4, 2) := by decide +kernel
theorem d_Whole_becomePairs_27 : decode b_Whole_becomePairs 27 = .ok (.imul, 1) := by decide +kernel
theorem d_Whole_becomePairs_28 : decode b_Whole_becomePairs 28 = .ok (.iconst 1, 1) := by decide +kernel
theorem d_Whole_becomePairs_29 : decode b_Whole_becomePairs 29 = .ok (.iadd, 1) := by decide +kernel
theorem d_Whole_becomePairs_30 : decode b_Whole_becomePairs 30 = .ok (.lload_n 1, 1) := by decide +kernel
theorem d_Whole_becomePairs_31 : decode b_Whole_becomePairs 31 = .ok (.bipush 32, 2) := by decide +kernel
theorem d_Whole_becomePairs_33 : decode b_Whole_becomePairs 33 = .ok (.lushr, 1) := by decide +kernel
theorem d_Whole_becomePairs_34 : decode b_Whole_becomePairs 34 = .ok (.l2i, 1) := by decide +kernel
theorem d_Whole_becomePairs_35 : decode b_Whole_becomePairs 35 = .ok (.iastore, 1) := by decide +kernel
theorem d_Whole_becomePairs_36 : decode b_Whole_becomePairs 36 = .ok (.iinc 4 1, 3) := by decide +kernel
theorem d_Whole_becomePairs_39 : decode b_Whole_becomePairs 39 = .ok (.goto (-36), 3) := by decide +kernel
theorem d_Whole_becomePairs_42 : decode b_Whole_becomePairs 42 = .ok (.aload_n 0, 1) := by decide +kernel
theorem d_Whole_becomePairs_43 : decode b_Whole_becomePairs 43 = .ok (.iconst 2, 1) := by decide +kernel
theorem d_Whole_becomePairs_44 : decode b_Whole_becomePairs 44 = .ok (.iload_n 3, 1) := by decide +kernel
theorem d_Whole_becomePairs_45 : decode b_Whole_becomePairs 45 = .ok (.imul, 1) := by decide +kernel
theorem d_Whole_becomePairs_46 : decode b_Whole_becomePairs 46 = .ok (.invokevirtual 19, 3) := by decide +kernel
theorem d_Whole_becomePairs_49 : decode b_Whole_becomePairs 49 = .ok (.return_, 1) := by decide +kernel
theorem d_Whole_becomeProduct_0 : decode b_Whole_becomeProduct 0 = .ok (.aload_n 0, 1) := by decide +kernel
theorem d_Whole_becomeProduct_1 : decode b_Whole_becomeProduct 1 = .ok (.invokevirtual 37, 3) := by decide +kernel
theorem d_Whole_becomeProduct_4 : decode b_Whole_becomeProduct 4 = .ok (.iconst 0, 1) := by decide +kernel
theorem d_Whole_becomeProduct_5 : decode b_Whole_becomeProduct 5 = .ok (.istore_n 3, 1) := by decide +kernel
theorem d_Whole_becomeProduct_6 : decode b_Whole_becomeProduct 6 = .ok (.iload_n 3, 1) := by decide +kernel
theorem d_Whole_becomeProduct_7 : decode b_Whole_becomeProduct 7 = .ok (.aload_n 1, 1) := by decide +kernel
theorem d_Whole_becomeProduct_8 : decode b_Whole_becomeProduct 8 = .ok (.getfield 15, 3) := by decide +kernel
theorem d_Whole_becomeProduct_11 : decode b_Whole_becomeProduct 11 = .ok (.if_icmp .ge 61, 3) := by decide +kernel
theorem d_Whole_becomeProduct_14 : decode b_Whole_becomeProduct 14 = .ok (.aload_n 1, 1) := by decide +kernel
theorem d_Whole_becomeProduct_15 : decode b_Whole_becomeProduct 15 = .ok (.getfield 9, 3) := by decide +kernel
theorem d_Whole_becomeProduct_18 : decode b_Whole_becomeProduct 18 = .ok (.iload_n 3, 1) := by decide +kernel
theorem d_Whole_becomeProduct_19 : decode b_Whole_becomeProduct 19 = .ok (.iaload, 1) := by decide +kernel
theorem d_Whole_becomeProduct_20 : decode b_Whole_becomeProduct 20 = .ok (.ifCond .eq 46, 3) := by decide +kernel
theorem d_Whole_becomeProduct_23 : decode b_Whole_becomeProduct 23 = .ok (.aload_n 0, 1) := by decide +kernel
theorem d_Whole_becomeProduct_24 : decode b_Whole_becomeProduct 24 = .ok (.getfield 9, 3) := by decide +kernel
theorem d_Whole_becomeProduct_27 : decode b_Whole_becomeProduct 27 = .ok (.iload_n 3, 1) := by decide +kernel
theorem d_Whole_becomeProduct_28 : decode b_Whole_becomeProduct 28 = .ok (.aload_n 2, 1) := by decide +kernel
theorem d_Whole_becomeProduct_29 : decode b_Whole_becomeProduct 29 = .ok (.getfield 9, 3) := by decide +kernel
theorem d_Whole_becomeProduct_32 : decode b_Whole_becomeProduct 32 = .ok (.aload_n 2, 1) := by decide +kernel
theorem d_Whole_becomeProduct_33 : decode b_Whole_becomeProduct 33 = .ok (.getfield 15, 3) := by decide +kernel
theorem d_Whole_becomeProduct_36 : decode b_Whole_becomeProduct 36 = .ok (.aload_n 1, 1) := by decide +kernel
theorem d_Whole_becomeProduct_37 : decode b_Whole_becomeProduct 37 = .ok (.getfield 9, 3) := by decide +kernel
theorem d_Whole_becomeProduct_40 : decode b_Whole_becomeProduct 40 = .ok (.iload_n 3, 1) := by decide +kernel
theorem d_Whole_becomeProduct_41 : decode b_Whole_becomeProduct 41 = .ok (.iaload, 1) := by decide +kernel
theorem d_Whole_becomeProduct_42 : decode b_Whole_becomeProduct 42 = .ok (.i2l, 1) := by decide +kernel
theorem d_Whole_becomeProduct_43 : decode b_Whole_becomeProduct 43 = .ok (.ldc2_w 35, 3) := by decide +kernel
theorem d_Whole_becomeProduct_46 : decode b_Whole_becomeProduct 46 = .ok (.land, 1) := by decide +kernel
theorem d_Whole_becomeProduct_47 : decode b_Whole_becomeProduct 47 = .ok (.invokestatic 40, 3) := by decide +kernel
theorem d_Whole_becomeProduct_50 : decode b_Whole_becomeProduct 50 = .ok (.lstore 4, 2) := by decide +kernel
theorem d_Whole_becomeProduct_52 : decode b_Whole_becomeProduct 52 = .ok (.aload_n 0, 1) := by decide +kernel
theorem d_Whole_becomeProduct_53 : decode b_Whole_becomeProduct 53 = .ok (.getfield 9, 3) := by decide +kernel
theorem d_Whole_becomeProduct_56 : decode b_Whole_becomeProduct 56 = .ok (.iload_n 3, 1) := by decide +kernel
theorem d_Whole_becomeProduct_57 : decode b_Whole_becomeProduct 57 = .ok (.aload_n 2, 1) := by decide +kernel
theorem d_Whole_becomeProduct_58 : decode b_Whole_becomeProduct 58 = .ok (.getfield 15, 3) := by decide +kernel
theorem d_Whole_becomeProduct_61 : decode b_Whole_becomeProduct 61 = .ok (.iadd, 1) := by decide +kernel
theorem d_Whole_becomeProduct_62 : decode b_Whole_becomeProduct 62 = .ok (.lload 4, 2) := by decide +kernel
theorem d_Whole_becomeProduct_64 : decode b_Whole_becomeProduct 64 = .ok (.l2i, 1) := by decide +kernel
theorem d_Whole_becomeProduct_65 : decode b_Whole_becomeProduct 65 = .ok (.iastore, 1) := by decide +kernel
theorem d_Whole_becomeProduct_66 : decode b_Whole_becomeProduct 66 = .ok (.iinc 3 1, 3) := by decide +kernel
theorem d_Whole_becomeProduct_69 : decode b_Whole_becomeProduct 69 = .ok (.goto (-63), 3) := by decide +kernel
theorem d_Whole_becomeProduct_72 : decode b_Whole_becomeProduct 72 = .ok (.aload_n 0, 1) := by decide +kernel
theorem d_Whole_becomeProduct_73 : decode b_Whole_becomeProduct 73 = .ok (.aload_n 1, 1) := by decide +kernel
theorem d_Whole_becomeProduct_74 : decode b_Whole_becomeProduct 74 = .ok (.getfield 15, 3) := by decide +kernel
theorem d_Whole_becomeProduct_77 : decode b_Whole_becomeProduct 77 = .ok (.aload_n 2, 1) := by decide +kernel
theorem d_Whole_becomeProduct_78 : decode b_Whole_becomeProduct 78 = .ok (.getfield 15, 3) := by decide +kernel
theorem d_Whole_becomeProduct_81 : decode b_Whole_becomeProduct 81 = .ok (.iadd, 1) := by decide +kernel
theorem d_Whole_becomeProduct_82 : decode b_Whole_becomeProduct 82 = .ok (.invokevirtual 19, 3) := by decide +kernel
theorem d_Whole_becomeProduct_85 : decode b_Whole_becomeProduct 85 = .ok (.return_, 1) := by decide +kernel
theorem d_Whole_becomeShiftedLeft_0 : decode b_Whole_becomeShiftedLeft 0 = .ok (.iload_n 2, 1) := by decide +kernel
theorem d_Whole_becomeShiftedLeft_1 : decode b_Whole_becomeShiftedLeft 1 = .ok (.iconst 5, 1) := by decide +kernel
theorem d_Whole_becomeShiftedLeft_2 : decode b_Whole_becomeShiftedLeft 2 = .ok (.iushr, 1) := by decide +kernel
theorem d_Whole_becomeShiftedLeft_3 : decode b_Whole_becomeShiftedLeft 3 = .ok (.istore_n 3, 1) := by decide +kernel
theorem d_Whole_becomeShiftedLeft_4 : decode b_Whole_becomeShiftedLeft 4 = .ok (.iload_n 2, 1) := by decide +kernel
theorem d_Whole_becomeShiftedLeft_5 : decode b_Whole_becomeShiftedLeft 5 = .ok (.bipush 31, 2) := by decide +kernel
theorem d_Whole_becomeShiftedLeft_7 : decode b_Whole_becomeShiftedLeft 7 = .ok (.iand, 1) := by decide +kernel
theorem d_Whole_becomeShiftedLeft_8 : decode b_Whole_becomeShiftedLeft 8 = .ok (.istore 4, 2) := by decide +kernel
theorem d_Whole_becomeShiftedLeft_10 : decode b_Whole_becomeShiftedLeft 10 = .ok (.aload_n 0, 1) := by decide +kernel
theorem d_Whole_becomeShiftedLeft_11 : decode b_Whole_becomeShiftedLeft 11 = .ok (.invokevirtual 37, 3) := by decide +kernel
theorem d_Whole_becomeShiftedLeft_14 : decode b_Whole_becomeShiftedLeft 14 = .ok (.lconst 0, 1) := by decide +kernel
theorem d_Whole_becomeShiftedLeft_15 : decode b_Whole_becomeShiftedLeft 15 = .ok (.lstore 5, 2) := by decide +kernel
theorem d_Whole_becomeShiftedLeft_17 : decode b_Whole_becomeShiftedLeft 17 = .ok (.iconst 0, 1) := by decide +kernel
theorem d_Whole_becomeShiftedLeft_18 : decode b_Whole_becomeShiftedLeft 18 = .ok (.istore 7, 2) := by decide +kernel
theorem d_Whole_becomeShiftedLeft_20 : decode b_Whole_becomeShiftedLeft 20 = .ok (.iload 7, 2) := by decide +kernel
theorem d_Whole_becomeShiftedLeft_22 : decode b_Whole_becomeShiftedLeft 22 = .ok (.aload_n 1, 1) := by decide +kernel
theorem d_Whole_becomeShiftedLeft_23 : decode b_Whole_becomeShiftedLeft 23 = .ok (.getfield 15, 3) := by decide +kernel
theorem d_Whole_becomeShiftedLeft_26 : decode b_Whole_becomeShiftedLeft 26 = .ok (.if_icmp .ge 48, 3) := by decide +kernel
theorem d_Whole_becomeShiftedLeft_29 : decode b_Whole_becomeShiftedLeft 29 = .ok (.lload 5, 2) := by decide +kernel
theorem d_Whole_becomeShiftedLeft_31 : decode b_Whole_becomeShiftedLeft 31 = .ok (.aload_n 1, 1) := by decide +kernel
theorem d_Whole_becomeShiftedLeft_32 : decode b_Whole_becomeShiftedLeft 32 = .ok (.getfield 9, 3) := by decide +kernel
theorem d_Whole_becomeShiftedLeft_35 : decode b_Whole_becomeShiftedLeft 35 = .ok (.iload 7, 2) := by decide +kernel
theorem d_Whole_becomeShiftedLeft_37 : decode b_Whole_becomeShiftedLeft 37 = .ok (.iaload, 1) := by decide +kernel
theorem d_Whole_becomeShiftedLeft_38 : decode b_Whole_becomeShiftedLeft 38 = .ok (.i2l, 1) := by decide +kernel
theorem d_Whole_becomeShiftedLeft_39 : decode b_Whole_becomeShiftedLeft 39 = .ok (.ldc2_w 35, 3) := by decide +kernel
theorem d_Whole_becomeShiftedLeft_42 : decode b_Whole_becomeShiftedLeft 42 = .ok (.land, 1) := by decide +kernel
theorem d_Whole_becomeShiftedLeft_43 : decode b_Whole_becomeShiftedLeft 43 = .ok (.iload 4, 2) := by decide +kernel
theorem d_Whole_becomeShiftedLeft_45 : decode b_Whole_becomeShiftedLeft 45 = .ok (.lshl, 1) := by decide +kernel
theorem d_Whole_becomeShiftedLeft_46 : decode b_Whole_becomeShiftedLeft 46 = .ok (.lor, 1) := by decide +kernel
theorem d_Whole_becomeShiftedLeft_47 : decode b_Whole_becomeShiftedLeft 47 = .ok (.lstore 5, 2) := by decide +kernel
theorem d_Whole_becomeShiftedLeft_49 : decode b_Whole_becomeShiftedLeft 49 = .ok (.aload_n 0, 1) := by decide +kernel
theorem d_Whole_becomeShiftedLeft_50 : decode b_Whole_becomeShiftedLeft 50 = .ok (.getfield 9, 3) := by decide +kernel
theorem d_Whole_becomeShiftedLeft_53 : decode b_Whole_becomeShiftedLeft 53 = .ok (.iload 7, 2) := by decide +kernel
theorem d_Whole_becomeShiftedLeft_55 : decode b_Whole_becomeShiftedLeft 55 = .ok (.iload_n 3, 1) := by decide +kernel
theorem d_Whole_becomeShiftedLeft_56 : decode b_Whole_becomeShiftedLeft 56 = .ok (.iadd, 1) := by decide +kernel
theorem d_Whole_becomeShiftedLeft_57 : decode b_Whole_becomeShiftedLeft 57 = .ok (.lload 5, 2) := by decide +kernel
theorem d_Whole_becomeShiftedLeft_59 : decode b_Whole_becomeShiftedLeft 59 = .ok (.l2i, 1) := by decide +kernel
theorem d_Whole_becomeShiftedLeft_60 : decode b_Whole_becomeShiftedLeft 60 = .ok (.iastore, 1) := by decide +kernel
theorem d_Whole_becomeShiftedLeft_61 : decode b_Whole_becomeShiftedLeft 61 = .ok (.lload 5, 2) := by decide +kernel
theorem d_Whole_becomeShiftedLeft_63 : decode b_Whole_becomeShiftedLeft 63 = .ok (.bipush 32, 2) := by decide +kernel
theorem d_Whole_becomeShiftedLeft_65 : decode b_Whole_becomeShiftedLeft 65 = .ok (.lushr, 1) := by decide +kernel
theorem d_Whole_becomeShiftedLeft_66 : decode b_Whole_becomeShiftedLeft 66 = .ok (.lstore 5, 2) := by decide +kernel
theorem d_Whole_becomeShiftedLeft_68 : decode b_Whole_becomeShiftedLeft 68 = .ok (.iinc 7 1, 3) := by decide +kernel
theorem d_Whole_becomeShiftedLeft_71 : decode b_Whole_becomeShiftedLeft 71 = .ok (.goto (-51), 3) := by decide +kernel
theorem d_Whole_becomeShiftedLeft_74 : decode b_Whole_becomeShiftedLeft 74 = .ok (.aload_n 0, 1) := by decide +kernel
theorem d_Whole_becomeShiftedLeft_75 : decode b_Whole_becomeShiftedLeft 75 = .ok (.getfield 9, 3) := by decide +kernel
theorem d_Whole_becomeShiftedLeft_78 : decode b_Whole_becomeShiftedLeft 78 = .ok (.aload_n 1, 1) := by decide +kernel
theorem d_Whole_becomeShiftedLeft_79 : decode b_Whole_becomeShiftedLeft 79 = .ok (.getfield 15, 3) := by decide +kernel
theorem d_Whole_becomeShiftedLeft_82 : decode b_Whole_becomeShiftedLeft 82 = .ok (.iload_n 3, 1) := by decide +kernel
theorem d_Whole_becomeShiftedLeft_83 : decode b_Whole_becomeShiftedLeft 83 = .ok (.iadd, 1) := by decide +kernel
theorem d_Whole_becomeShiftedLeft_84 : decode b_Whole_becomeShiftedLeft 84 = .ok (.lload 5, 2) := by decide +kernel
theorem d_Whole_becomeShiftedLeft_86 : decode b_Whole_becomeShiftedLeft 86 = .ok (.l2i, 1) := by decide +kernel
theorem d_Whole_becomeShiftedLeft_87 : decode b_Whole_becomeShiftedLeft 87 = .ok (.iastore, 1) := by decide +kernel
theorem d_Whole_becomeShiftedLeft_88 : decode b_Whole_becomeShiftedLeft 88 = .ok (.aload_n 0, 1) := by decide +kernel
theorem d_Whole_becomeShiftedLeft_89 : decode b_Whole_becomeShiftedLeft 89 = .ok (.aload_n 1, 1) := by decide +kernel
theorem d_Whole_becomeShiftedLeft_90 : decode b_Whole_becomeShiftedLeft 90 = .ok (.getfield 15, 3) := by decide +kernel
theorem d_Whole_becomeShiftedLeft_93 : decode b_Whole_becomeShiftedLeft 93 = .ok (.iload_n 3, 1) := by decide +kernel
theorem d_Whole_becomeShiftedLeft_94 : decode b_Whole_becomeShiftedLeft 94 = .ok (.iadd, 1) := by decide +kernel
theorem d_Whole_becomeShiftedLeft_95 : decode b_Whole_becomeShiftedLeft 95 = .ok (.iconst 1, 1) := by decide +kernel
theorem d_Whole_becomeShiftedLeft_96 : decode b_Whole_becomeShiftedLeft 96 = .ok (.iadd, 1) := by decide +kernel
theorem d_Whole_becomeShiftedLeft_97 : decode b_Whole_becomeShiftedLeft 97 = .ok (.invokevirtual 19, 3) := by decide +kernel
theorem d_Whole_becomeShiftedLeft_100 : decode b_Whole_becomeShiftedLeft 100 = .ok (.return_, 1) := by decide +kernel
theorem d_Whole_becomeShiftedRight_0 : decode b_Whole_becomeShiftedRight 0 = .ok (.iload_n 2, 1) := by decide +kernel
theorem d_Whole_becomeShiftedRight_1 : decode b_Whole_becomeShiftedRight 1 = .ok (.iconst 5, 1) := by decide +kernel
theorem d_Whole_becomeShiftedRight_2 : decode b_Whole_becomeShiftedRight 2 = .ok (.iushr, 1) := by decide +kernel
theorem d_Whole_becomeShiftedRight_3 : decode b_Whole_becomeShiftedRight 3 = .ok (.istore_n 3, 1) := by decide +kernel
theorem d_Whole_becomeShiftedRight_4 : decode b_Whole_becomeShiftedRight 4 = .ok (.iload_n 2, 1) := by decide +kernel
theorem d_Whole_becomeShiftedRight_5 : decode b_Whole_becomeShiftedRight 5 = .ok (.bipush 31, 2) := by decide +kernel
theorem d_Whole_becomeShiftedRight_7 : decode b_Whole_becomeShiftedRight 7 = .ok (.iand, 1) := by decide +kernel
theorem d_Whole_becomeShiftedRight_8 : decode b_Whole_becomeShiftedRight 8 = .ok (.istore 4, 2) := by decide +kernel
theorem d_Whole_becomeShiftedRight_10 : decode b_Whole_becomeShiftedRight 10 = .ok (.iconst 0, 1) := by decide +kernel
theorem d_Whole_becomeShiftedRight_11 : decode b_Whole_becomeShiftedRight 11 = .ok (.aload_n 1, 1) := by decide +kernel
theorem d_Whole_becomeShiftedRight_12 : decode b_Whole_becomeShiftedRight 12 = .ok (.getfield 15, 3) := by decide +kernel
theorem d_Whole_becomeShiftedRight_15 : decode b_Whole_becomeShiftedRight 15 = .ok (.iload_n 3, 1) := by decide +kernel
theorem d_Whole_becomeShiftedRight_16 : decode b_Whole_becomeShiftedRight 16 = .ok (.isub, 1) := by decide +kernel
theorem d_Whole_becomeShiftedRight_17 : decode b_Whole_becomeShiftedRight 17 = .ok (.invokestatic 29, 3) := by decide +kernel
theorem d_Whole_becomeShiftedRight_20 : decode b_Whole_becomeShiftedRight 20 = .ok (.istore 5, 2) := by decide +kernel
theorem d_Whole_becomeShiftedRight_22 : decode b_Whole_becomeShiftedRight 22 = .ok (.iconst 0, 1) := by decide +kernel
theorem d_Whole_becomeShiftedRight_23 : decode b_Whole_becomeShiftedRight 23 = .ok (.istore 6, 2) := by decide +kernel
theorem d_Whole_becomeShiftedRight_25 : decode b_Whole_becomeShiftedRight 25 = .ok (.iload 6, 2) := by decide +kernel
theorem d_Whole_becomeShiftedRight_27 : decode b_Whole_becomeShiftedRight 27 = .ok (.iload 5, 2) := by decide +kernel
theorem d_Whole_becomeShiftedRight_29 : decode b_Whole_becomeShiftedRight 29 = .ok (.if_icmp .ge 54, 3) := by decide +kernel
theorem d_Whole_becomeShiftedRight_32 : decode b_Whole_becomeShiftedRight 32 = .ok (.aload_n 1, 1) := by decide +kernel
theorem d_Whole_becomeShiftedRight_33 : decode b_Whole_becomeShiftedRight 33 = .ok (.getfield 9, 3) := by decide +kernel
theorem d_Whole_becomeShiftedRight_36 : decode b_Whole_becomeShiftedRight 36 = .ok (.iload 6, 2) := by decide +kernel
theorem d_Whole_becomeShiftedRight_38 : decode b_Whole_becomeShiftedRight 38 = .ok (.iload_n 3, 1) := by decide +kernel
theorem d_Whole_becomeShiftedRight_39 : decode b_Whole_becomeShiftedRight 39 = .ok (.iadd, 1) := by decide +kernel
theorem d_Whole_becomeShiftedRight_40 : decode b_Whole_becomeShiftedRight 40 = .ok (.iconst 1, 1) := by decide +kernel
theorem d_Whole_becomeShiftedRight_41 : decode b_Whole_becomeShiftedRight 41 = .ok (.iadd, 1) := by decide +kernel
theorem d_Whole_becomeShiftedRight_42 : decode b_Whole_becomeShiftedRight 42 = .ok (.iaload, 1) := by decide +kernel
theorem d_Whole_becomeShiftedRight_43 : decode b_Whole_becomeShiftedRight 43 = .ok (.i2l, 1) := by decide +kernel
theorem d_Whole_becomeShiftedRight_44 : decode b_Whole_becomeShiftedRight 44 = .ok (.bipush 32, 2) := by decide +kernel
theorem d_Whole_becomeShiftedRight_46 : decode b_Whole_becomeShiftedRight 46 = .ok (.lshl, 1) := by decide +kernel
theorem d_Whole_becomeShiftedRight_47 : decode b_Whole_becomeShiftedRight 47 = .ok (.aload_n 1, 1) := by decide +kernel
theorem d_Whole_becomeShiftedRight_48 : decode b_Whole_becomeShiftedRight 48 = .ok (.getfield 9, 3) := by decide +kernel
theorem d_Whole_becomeShiftedRight_51 : decode b_Whole_becomeShiftedRight 51 = .ok (.iload 6, 2) := by decide +kernel
theorem d_Whole_becomeShiftedRight_53 : decode b_Whole_becomeShiftedRight 53 = .ok (.iload_n 3, 1) := by decide +kernel
theorem d_Whole_becomeShiftedRight_54 : decode b_Whole_becomeShiftedRight 54 = .ok (.iadd, 1) := by decide +kernel
theorem d_Whole_becomeShiftedRight_55 : decode b_Whole_becomeShiftedRight 55 = .ok (.iaload, 1) := by decide +kernel
theorem d_Whole_becomeShiftedRight_56 : decode b_Whole_becomeShiftedRight 56 = .ok (.i2l, 1) := by decide +kernel
theorem d_Whole_becomeShiftedRight_57 : decode b_Whole_becomeShiftedRight 57 = .ok (.ldc2_w 35, 3) := by decide +kernel
theorem d_Whole_becomeShiftedRight_60 : decode b_Whole_becomeShiftedRight 60 = .ok (.land, 1) := by decide +kernel
theorem d_Whole_becomeShiftedRight_61 : decode b_Whole_becomeShiftedRight 61 = .ok (.lor, 1) := by decide +kernel
theorem d_Whole_becomeShiftedRight_62 : decode b_Whole_becomeShiftedRight 62 = .ok (.lstore 7, 2) := by decide +kernel
theorem d_Whole_becomeShiftedRight_64 : decode b_Whole_becomeShiftedRight 64 = .ok (.aload_n 0, 1) := by decide +kernel
theorem d_Whole_becomeShiftedRight_65 : decode b_Whole_becomeShiftedRight 65 = .ok (.getfield 9, 3) := by decide +kernel
theorem d_Whole_becomeShiftedRight_68 : decode b_Whole_becomeShiftedRight 68 = .ok (.iload 6, 2) := by decide +kernel
theorem d_Whole_becomeShiftedRight_70 : decode b_Whole_becomeShiftedRight 70 = .ok (.lload 7, 2) := by decide +kernel
theorem d_Whole_becomeShiftedRight_72 : decode b_Whole_becomeShiftedRight 72 = .ok (.iload 4, 2) := by decide +kernel
theorem d_Whole_becomeShiftedRight_74 : decode b_Whole_becomeShiftedRight 74 = .ok (.lushr, 1) := by decide +kernel
theorem d_Whole_becomeShiftedRight_75 : decode b_Whole_becomeShiftedRight 75 = .ok (.l2i, 1) := by decide +kernel
theorem d_Whole_becomeShiftedRight_76 : decode b_Whole_becomeShiftedRight 76 = .ok (.iastore, 1) := by decide +kernel
theorem d_Whole_becomeShiftedRight_77 : decode b_Whole_becomeShiftedRight 77 = .ok (.iinc 6 1, 3) := by decide +kernel
theorem d_Whole_becomeShiftedRight_80 : decode b_Whole_becomeShiftedRight 80 = .ok (.goto (-55), 3) := by decide +kernel
theorem d_Whole_becomeShiftedRight_83 : decode b_Whole_becomeShiftedRight 83 = .ok (.aload_n 0, 1) := by decide +kernel
theorem d_Whole_becomeShiftedRight_84 : decode b_Whole_becomeShiftedRight 84 = .ok (.iload 5, 2) := by decide +kernel
theorem d_Whole_becomeShiftedRight_86 : decode b_Whole_becomeShiftedRight 86 = .ok (.invokevirtual 19, 3) := by decide +kernel
theorem d_Whole_becomeShiftedRight_89 : decode b_Whole_becomeShiftedRight 89 = .ok (.return_, 1) := by decide +kernel
theorem d_Whole_becomeSum_0 : decode b_Whole_becomeSum 0 = .ok (.aload_n 1, 1) := by decide +kernel
theorem d_Whole_becomeSum_1 : decode b_Whole_becomeSum 1 = .ok (.getfield 15, 3) := by decide +kernel
theorem d_Whole_becomeSum_4 : decode b_Whole_becomeSum 4 = .ok (.aload_n 2, 1) := by decide +kernel
theorem d_Whole_becomeSum_5 : decode b_Whole_becomeSum 5 = .ok (.getfield 15, 3) := by decide +kernel
theorem d_Whole_becomeSum_8 : decode b_Whole_becomeSum 8 = .ok (.invokestatic 29, 3) := by decide +kernel
theorem d_Whole_becomeSum_11 : decode b_Whole_becomeSum 11 = .ok (.istore_n 3, 1) := by decide +kernel
theorem d_Whole_becomeSum_12 : decode b_Whole_becomeSum 12 = .ok (.lconst 0, 1) := by decide +kernel
theorem d_Whole_becomeSum_13 : decode b_Whole_becomeSum 13 = .ok (.lstore 4, 2) := by decide +kernel
theorem d_Whole_becomeSum_15 : decode b_Whole_becomeSum 15 = .ok (.iconst 0, 1) := by decide +kernel
theorem d_Whole_becomeSum_16 : decode b_Whole_becomeSum 16 = .ok (.istore 6, 2) := by decide +kernel
theorem d_Whole_becomeSum_18 : decode b_Whole_becomeSum 18 = .ok (.iload 6, 2) := by decide +kernel
theorem d_Whole_becomeSum_20 : decode b_Whole_becomeSum 20 = .ok (.iload_n 3, 1) := by decide +kernel
theorem d_Whole_becomeSum_21 : decode b_Whole_becomeSum 21 = .ok (.if_icmp .ge 56, 3) := by decide +kernel
theorem d_Whole_becomeSum_24 : decode b_Whole_becomeSum 24 = .ok (.lload 4, 2) := by decide +kernel
theorem d_Whole_becomeSum_26 : decode b_Whole_becomeSum 26 = .ok (.aload_n 1, 1) := by decide +kernel
theorem d_Whole_becomeSum_27 : decode b_Whole_becomeSum 27 = .ok (.getfield 9, 3) := by decide +kernel
theorem d_Whole_becomeSum_30 : decode b_Whole_becomeSum 30 = .ok (.iload 6, 2) := by decide +kernel
theorem d_Whole_becomeSum_32 : decode b_Whole_becomeSum 32 = .ok (.iaload, 1) := by decide +kernel
theorem d_Whole_becomeSum_33 : decode b_Whole_becomeSum 33 = .ok (.i2l, 1) := by decide +kernel
theorem d_Whole_becomeSum_34 : decode b_Whole_becomeSum 34 = .ok (.ldc2_w 35, 3) := by decide +kernel
theorem d_Whole_becomeSum_37 : decode b_Whole_becomeSum 37 = .ok (.land, 1) := by decide +kernel
theorem d_Whole_becomeSum_38 : decode b_Whole_becomeSum 38 = .ok (.aload_n 2, 1) := by decide +kernel
theorem d_Whole_becomeSum_39 : decode b_Whole_becomeSum 39 = .ok (.getfield 9, 3) := by decide +kernel
theorem d_Whole_becomeSum_42 : decode b_Whole_becomeSum 42 = .ok (.iload 6, 2) := by decide +kernel
theorem d_Whole_becomeSum_44 : decode b_Whole_becomeSum 44 = .ok (.iaload, 1) := by decide +kernel
theorem d_Whole_becomeSum_45 : decode b_Whole_becomeSum 45 = .ok (.i2l, 1) := by decide +kernel
theorem d_Whole_becomeSum_46 : decode b_Whole_becomeSum 46 = .ok (.ldc2_w 35, 3) := by decide +kernel
theorem d_Whole_becomeSum_49 : decode b_Whole_becomeSum 49 = .ok (.land, 1) := by decide +kernel
theorem d_Whole_becomeSum_50 : decode b_Whole_becomeSum 50 = .ok (.ladd, 1) := by decide +kernel
theorem d_Whole_becomeSum_51 : decode b_Whole_becomeSum 51 = .ok (.ladd, 1) := by decide +kernel
theorem d_Whole_becomeSum_52 : decode b_Whole_becomeSum 52 = .ok (.lstore 4, 2) := by decide +kernel
theorem d_Whole_becomeSum_54 : decode b_Whole_becomeSum 54 = .ok (.aload_n 0, 1) := by decide +kernel
theorem d_Whole_becomeSum_55 : decode b_Whole_becomeSum 55 = .ok (.getfield 9, 3) := by decide +kernel
theorem d_Whole_becomeSum_58 : decode b_Whole_becomeSum 58 = .ok (.iload 6, 2) := by decide +kernel
theorem d_Whole_becomeSum_60 : decode b_Whole_becomeSum 60 = .ok (.lload 4, 2) := by decide +kernel
theorem d_Whole_becomeSum_62 : decode b_Whole_becomeSum 62 = .ok (.l2i, 1) := by decide +kernel
theorem d_Whole_becomeSum_63 : decode b_Whole_becomeSum 63 = .ok (.iastore, 1) := by decide +kernel
theorem d_Whole_becomeSum_64 : decode b_Whole_becomeSum 64 = .ok (.lload 4, 2) := by decide +kernel
theorem d_Whole_becomeSum_66 : decode b_Whole_becomeSum 66 = .ok (.bipush 32, 2) := by decide +kernel
theorem d_Whole_becomeSum_68 : decode b_Whole_becomeSum 68 = .ok (.lushr, 1) := by decide +kernel
theorem d_Whole_becomeSum_69 : decode b_Whole_becomeSum 69 = .ok (.lstore 4, 2) := by decide +kernel
theorem d_Whole_becomeSum_71 : decode b_Whole_becomeSum 71 = .ok (.iinc 6 1, 3) := by decide +kernel
theorem d_Whole_becomeSum_74 : decode b_Whole_becomeSum 74 = .ok (.goto (-56), 3) := by decide +kernel
theorem d_Whole_becomeSum_77 : decode b_Whole_becomeSum 77 = .ok (.aload_n 0, 1) := by decide +kernel
theorem d_Whole_becomeSum_78 : decode b_Whole_becomeSum 78 = .ok (.getfield 9, 3) := by decide +kernel
theorem d_Whole_becomeSum_81 : decode b_Whole_becomeSum 81 = .ok (.iload_n 3, 1) := by decide +kernel
theorem d_Whole_becomeSum_82 : decode b_Whole_becomeSum 82 = .ok (.lload 4, 2) := by decide +kernel
theorem d_Whole_becomeSum_84 : decode b_Whole_becomeSum 84 = .ok (.l2i, 1) := by decide +kernel
theorem d_Whole_becomeSum_85 : decode b_Whole_becomeSum 85 = .ok (.iastore, 1) := by decide +kernel
theorem d_Whole_becomeSum_86 : decode b_Whole_becomeSum 86 = .ok (.aload_n 0, 1) := by decide +kernel
theorem d_Whole_becomeSum_87 : decode b_Whole_becomeSum 87 = .ok (.iload_n 3, 1) := by decide +kernel
theorem d_Whole_becomeSum_88 : decode b_Whole_becomeSum 88 = .ok (.iconst 1, 1) := by decide +kernel
theorem d_Whole_becomeSum_89 : decode b_Whole_becomeSum 89 = .ok (.iadd, 1) := by decide +kernel
theorem d_Whole_becomeSum_90 : decode b_Whole_becomeSum 90 = .ok (.invokevirtual 19, 3) := by decide +kernel
theorem d_Whole_becomeSum_93 : decode b_Whole_becomeSum 93 = .ok (.return_, 1) := by decide +kernel
theorem d_Whole_clear_0 : decode b_Whole_clear 0 = .ok (.aload_n 0, 1) := by decide +kernel
theorem d_Whole_clear_1 : decode b_Whole_clear 1 = .ok (.iconst 0, 1) := by decide +kernel
theorem d_Whole_clear_2 : decode b_Whole_clear 2 = .ok (.invokevirtual 19, 3) := by decide +kernel
theorem d_Whole_clear_5 : decode b_Whole_clear 5 = .ok (.return_, 1) := by decide +kernel
theorem d_Whole_countOnes_0 : decode b_Whole_countOnes 0 = .ok (.iconst 0, 1) := by decide +kernel
theorem d_Whole_countOnes_1 : decode b_Whole_countOnes 1 = .ok (.istore_n 1, 1) := by decide +kernel
theorem d_Whole_countOnes_2 : decode b_Whole_countOnes 2 = .ok (.iconst 0, 1) := by decide +kernel
theorem d_Whole_countOnes_3 : decode b_Whole_countOnes 3 = .ok (.istore_n 2, 1) := by decide +kernel
theorem d_Whole_countOnes_4 : decode b_Whole_countOnes 4 = .ok (.iload_n 2, 1) := by decide +kernel
theorem d_Whole_countOnes_5 : decode b_Whole_countOnes 5 = .ok (.aload_n 0, 1) := by decide +kernel
theorem d_Whole_countOnes_6 : decode b_Whole_countOnes 6 = .ok (.getfield 15, 3) := by decide +kernel
theorem d_Whole_countOnes_9 : decode b_Whole_countOnes 9 = .ok (.if_icmp .ge 21, 3) := by decide +kernel
theorem d_Whole_countOnes_12 : decode b_Whole_countOnes 12 = .ok (.iload_n 1, 1) := by decide +kernel
theorem d_Whole_countOnes_13 : decode b_Whole_countOnes 13 = .ok (.aload_n 0, 1) := by decide +kernel
theorem d_Whole_countOnes_14 : decode b_Whole_countOnes 14 = .ok (.getfield 9, 3) := by decide +kernel
theorem d_Whole_countOnes_17 : decode b_Whole_countOnes 17 = .ok (.iload_n 2, 1) := by decide +kernel
theorem d_Whole_countOnes_18 : decode b_Whole_countOnes 18 = .ok (.iaload, 1) := by decide +kernel
theorem d_Whole_countOnes_19 : decode b_Whole_countOnes 19 = .ok (.invokestatic 56, 3) := by decide +kernel
theorem d_Whole_countOnes_22 : decode b_Whole_countOnes 22 = .ok (.iadd, 1) := by decide +kernel
theorem d_Whole_countOnes_23 : decode b_Whole_countOnes 23 = .ok (.istore_n 1, 1) := by decide +kernel
theorem d_Whole_countOnes_24 : decode b_Whole_countOnes 24 = .ok (.iinc 2 1, 3) := by decide +kernel
theorem d_Whole_countOnes_27 : decode b_Whole_countOnes 27 = .ok (.goto (-23), 3) := by decide +kernel
theorem d_Whole_countOnes_30 : decode b_Whole_countOnes 30 = .ok (.iload_n 1, 1) := by decide +kernel
theorem d_Whole_countOnes_31 : decode b_Whole_countOnes 31 = .ok (.ireturn, 1) := by decide +kernel
theorem d_Whole_fillLowestPair_0 : decode b_Whole_fillLowestPair 0 = .ok (.aload_n 0, 1) := by decide +kernel
theorem d_Whole_fillLowestPair_1 : decode b_Whole_fillLowestPair 1 = .ok (.getfield 9, 3) := by decide +kernel
theorem d_Whole_fillLowestPair_4 : decode b_Whole_fillLowestPair 4 = .ok (.iconst 0, 1) := by decide +kernel
theorem d_Whole_fillLowestPair_5 : decode b_Whole_fillLowestPair 5 = .ok (.lload_n 1, 1) := by decide +kernel
theorem d_Whole_fillLowestPair_6 : decode b_Whole_fillLowestPair 6 = .ok (.l2i, 1) := by decide +kernel
theorem d_Whole_fillLowestPair_7 : decode b_Whole_fillLowestPair 7 = .ok (.iastore, 1) := by decide +kernel
theorem d_Whole_fillLowestPair_8 : decode b_Whole_fillLowestPair 8 = .ok (.aload_n 0, 1) := by decide +kernel
theorem d_Whole_fillLowestPair_9 : decode b_Whole_fillLowestPair 9 = .ok (.getfield 9, 3) := by decide +kernel
theorem d_Whole_fillLowestPair_12 : decode b_Whole_fillLowestPair 12 = .ok (.iconst 1, 1) := by decide +kernel
theorem d_Whole_fillLowestPair_13 : decode b_Whole_fillLowestPair 13 = .ok (.lload_n 1, 1) := by decide +kernel
theorem d_Whole_fillLowestPair_14 : decode b_Whole_fillLowestPair 14 = .ok (.bipush 32, 2) := by decide +kernel
theorem d_Whole_fillLowestPair_16 : decode b_Whole_fillLowestPair 16 = .ok (.lushr, 1) := by decide +kernel
theorem d_Whole_fillLowestPair_17 : decode b_Whole_fillLowestPair 17 = .ok (.l2i, 1) := by decide +kernel
theorem d_Whole_fillLowestPair_18 : decode b_Whole_fillLowestPair 18 = .ok (.iastore, 1) := by decide +kernel
theorem d_Whole_fillLowestPair_19 : decode b_Whole_fillLowestPair 19 = .ok (.aload_n 0, 1) := by decide +kernel
theorem d_Whole_fillLowestPair_20 : decode b_Whole_fillLowestPair 20 = .ok (.aload_n 0, 1) := by decide +kernel
theorem d_Whole_fillLowestPair_21 : decode b_Whole_fillLowestPair 21 = .ok (.getfield 15, 3) := by decide +kernel
theorem d_Whole_fillLowestPair_24 : decode b_Whole_fillLowestPair 24 = .ok (.iconst 2, 1) := by decide +kernel
theorem d_Whole_fillLowestPair_25 : decode b_Whole_fillLowestPair 25 = .ok (.invokestatic 29, 3) := by decide +kernel
theorem d_Whole_fillLowestPair_28 : decode b_Whole_fillLowestPair 28 = .ok (.invokevirtual 19, 3) := by decide +kernel
theorem d_Whole_fillLowestPair_31 : decode b_Whole_fillLowestPair 31 = .ok (.return_, 1) := by decide +kernel
theorem d_Whole_init_0 : decode b_Whole_init 0 = .ok (.aload_n 0, 1) := by decide +kernel
theorem d_Whole_init_1 : decode b_Whole_init 1 = .ok (.invokespecial 3, 3) := by decide +kernel
theorem d_Whole_init_4 : decode b_Whole_init 4 = .ok (.aload_n 0, 1) := by decide +kernel
theorem d_Whole_init_5 : decode b_Whole_init 5 = .ok (.sipush 2050, 3) := by decide +kernel
theorem d_Whole_init_8 : decode b_Whole_init 8 = .ok (.newarray .int, 2) := by decide +kernel
theorem d_Whole_init_10 : decode b_Whole_init 10 = .ok (.putfield 9, 3) := by decide +kernel
theorem d_Whole_init_13 : decode b_Whole_init 13 = .ok (.aload_n 0, 1) := by decide +kernel
theorem d_Whole_init_14 : decode b_Whole_init 14 = .ok (.iconst 0, 1) := by decide +kernel
theorem d_Whole_init_15 : decode b_Whole_init 15 = .ok (.putfield 15, 3) := by decide +kernel
theorem d_Whole_init_18 : decode b_Whole_init 18 = .ok (.return_, 1) := by decide +kernel
theorem d_Whole_keepLowest_0 : decode b_Whole_keepLowest 0 = .ok (.iload_n 1, 1) := by decide +kernel
theorem d_Whole_keepLowest_1 : decode b_Whole_keepLowest 1 = .ok (.aload_n 0, 1) := by decide +kernel
theorem d_Whole_keepLowest_2 : decode b_Whole_keepLowest 2 = .ok (.invokevirtual 46, 3) := by decide +kernel
theorem d_Whole_keepLowest_5 : decode b_Whole_keepLowest 5 = .ok (.if_icmp .ge 31, 3) := by decide +kernel
theorem d_Whole_keepLowest_8 : decode b_Whole_keepLowest 8 = .ok (.iload_n 1, 1) := by decide +kernel
theorem d_Whole_keepLowest_9 : decode b_Whole_keepLowest 9 = .ok (.iconst 5, 1) := by decide +kernel
theorem d_Whole_keepLowest_10 : decode b_Whole_keepLowest 10 = .ok (.iushr, 1) := by decide +kernel
theorem d_Whole_keepLowest_11 : decode b_Whole_keepLowest 11 = .ok (.istore_n 2, 1) := by decide +kernel
theorem d_Whole_keepLowest_12 : decode b_Whole_keepLowest 12 = .ok (.aload_n 0, 1) := by decide +kernel
theorem d_Whole_keepLowest_13 : decode b_Whole_keepLowest 13 = .ok (.getfield 9, 3) := by decide +kernel
theorem d_Whole_keepLowest_16 : decode b_Whole_keepLowest 16 = .ok (.iload_n 2, 1) := by decide +kernel
theorem d_Whole_keepLowest_17 : decode b_Whole_keepLowest 17 = .ok (.dup2, 1) := by decide +kernel
theorem d_Whole_keepLowest_18 : decode b_Whole_keepLowest 18 = .ok (.iaload, 1) := by decide +kernel
theorem d_Whole_keepLowest_19 : decode b_Whole_keepLowest 19 = .ok (.iconst 1, 1) := by decide +kernel
theorem d_Whole_keepLowest_20 : decode b_Whole_keepLowest 20 = .ok (.iload_n 1, 1) := by decide +kernel
theorem d_Whole_keepLowest_21 : decode b_Whole_keepLowest 21 = .ok (.bipush 31, 2) := by decide +kernel
theorem d_Whole_keepLowest_23 : decode b_Whole_keepLowest 23 = .ok (.iand, 1) := by decide +kernel
theorem d_Whole_keepLowest_24 : decode b_Whole_keepLowest 24 = .ok (.ishl, 1) := by decide +kernel
theorem d_Whole_keepLowest_25 : decode b_Whole_keepLowest 25 = .ok (.iconst 1, 1) := by decide +kernel
theorem d_Whole_keepLowest_26 : decode b_Whole_keepLowest 26 = .ok (.isub, 1) := by decide +kernel
theorem d_Whole_keepLowest_27 : decode b_Whole_keepLowest 27 = .ok (.iand, 1) := by decide +kernel
theorem d_Whole_keepLowest_28 : decode b_Whole_keepLowest 28 = .ok (.iastore, 1) := by decide +kernel
theorem d_Whole_keepLowest_29 : decode b_Whole_keepLowest 29 = .ok (.aload_n 0, 1) := by decide +kernel
theorem d_Whole_keepLowest_30 : decode b_Whole_keepLowest 30 = .ok (.iload_n 2, 1) := by decide +kernel
theorem d_Whole_keepLowest_31 : decode b_Whole_keepLowest 31 = .ok (.iconst 1, 1) := by decide +kernel
theorem d_Whole_keepLowest_32 : decode b_Whole_keepLowest 32 = .ok (.iadd, 1) := by decide +kernel
theorem d_Whole_keepLowest_33 : decode b_Whole_keepLowest 33 = .ok (.invokevirtual 19, 3) := by decide +kernel
theorem d_Whole_keepLowest_36 : decode b_Whole_keepLowest 36 = .ok (.return_, 1) := by decide +kernel
theorem d_Whole_lowestOne_0 : decode b_Whole_lowestOne 0 = .ok (.iconst 0, 1) := by decide +kernel
theorem d_Whole_lowestOne_1 : decode b_Whole_lowestOne 1 = .ok (.istore_n 1, 1) := by decide +kernel
theorem d_Whole_lowestOne_2 : decode b_Whole_lowestOne 2 = .ok (.iload_n 1, 1) := by decide +kernel
theorem d_Whole_lowestOne_3 : decode b_Whole_lowestOne 3 = .ok (.aload_n 0, 1) := by decide +kernel
theorem d_Whole_lowestOne_4 : decode b_Whole_lowestOne 4 = .ok (.getfield 15, 3) := by decide +kernel
theorem d_Whole_lowestOne_7 : decode b_Whole_lowestOne 7 = .ok (.if_icmp .ge 33, 3) := by decide +kernel
theorem d_Whole_lowestOne_10 : decode b_Whole_lowestOne 10 = .ok (.aload_n 0, 1) := by decide +kernel
theorem d_Whole_lowestOne_11 : decode b_Whole_lowestOne 11 = .ok (.getfield 9, 3) := by decide +kernel
theorem d_Whole_lowestOne_14 : decode b_Whole_lowestOne 14 = .ok (.iload_n 1, 1) := by decide +kernel
theorem d_Whole_lowestOne_15 : decode b_Whole_lowestOne 15 = .ok (.iaload, 1) := by decide +kernel
theorem d_Whole_lowestOne_16 : decode b_Whole_lowestOne 16 = .ok (.ifCond .eq 18, 3) := by decide +kernel
theorem d_Whole_lowestOne_19 : decode b_Whole_lowestOne 19 = .ok (.bipush 32, 2) := by decide +kernel
theorem d_Whole_lowestOne_21 : decode b_Whole_lowestOne 21 = .ok (.iload_n 1, 1) := by decide +kernel
theorem d_Whole_lowestOne_22 : decode b_Whole_lowestOne 22 = .ok (.imul, 1) := by decide +kernel
theorem d_Whole_lowestOne_23 : decode b_Whole_lowestOne 23 = .ok (.aload_n 0, 1) := by decide +kernel
theorem d_Whole_lowestOne_24 : decode b_Whole_lowestOne 24 = .ok (.getfield 9, 3) := by decide +kernel
theorem d_Whole_lowestOne_27 : decode b_Whole_lowestOne 27 = .ok (.iload_n 1, 1) := by decide +kernel
theorem d_Whole_lowestOne_28 : decode b_Whole_lowestOne 28 = .ok (.iaload, 1) := by decide +kernel
theorem d_Whole_lowestOne_29 : decode b_Whole_lowestOne 29 = .ok (.invokestatic 59, 3) := by decide +kernel
theorem d_Whole_lowestOne_32 : decode b_Whole_lowestOne 32 = .ok (.iadd, 1) := by decide +kernel
theorem d_Whole_lowestOne_33 : decode b_Whole_lowestOne 33 = .ok (.ireturn, 1) := by decide +kernel
theorem d_Whole_lowestOne_34 : decode b_Whole_lowestOne 34 = .ok (.iinc 1 1, 3) := by decide +kernel
theorem d_Whole_lowestOne_37 : decode b_Whole_lowestOne 37 = .ok (.goto (-35), 3) := by decide +kernel
theorem d_Whole_lowestOne_40 : decode b_Whole_lowestOne 40 = .ok (.iconst (-1), 1) := by decide +kernel
theorem d_Whole_lowestOne_41 : decode b_Whole_lowestOne 41 = .ok (.ireturn, 1) := by decide +kernel
theorem d_Whole_order_0 : decode b_Whole_order 0 = .ok (.aload_n 0, 1) := by decide +kernel
theorem d_Whole_order_1 : decode b_Whole_order 1 = .ok (.getfield 15, 3) := by decide +kernel
theorem d_Whole_order_4 : decode b_Whole_order 4 = .ok (.aload_n 1, 1) := by decide +kernel
theorem d_Whole_order_5 : decode b_Whole_order 5 = .ok (.getfield 15, 3) := by decide +kernel
theorem d_Whole_order_8 : decode b_Whole_order 8 = .ok (.if_icmp .eq 20, 3) := by decide +kernel
theorem d_Whole_order_11 : decode b_Whole_order 11 = .ok (.aload_n 0, 1) := by decide +kernel
theorem d_Whole_order_12 : decode b_Whole_order 12 = .ok (.getfield 15, 3) := by decide +kernel
theorem d_Whole_order_15 : decode b_Whole_order 15 = .ok (.aload_n 1, 1) := by decide +kernel
theorem d_Whole_order_16 : decode b_Whole_order 16 = .ok (.getfield 15, 3) := by decide +kernel
theorem d_Whole_order_19 : decode b_Whole_order 19 = .ok (.if_icmp .ge 7, 3) := by decide +kernel
theorem d_Whole_order_22 : decode b_Whole_order 22 = .ok (.iconst (-1), 1) := by decide +kernel
theorem d_Whole_order_23 : decode b_Whole_order 23 = .ok (.goto 4, 3) := by decide +kernel
theorem d_Whole_order_26 : decode b_Whole_order 26 = .ok (.iconst 1, 1) := by decide +kernel
theorem d_Whole_order_27 : decode b_Whole_order 27 = .ok (.ireturn, 1) := by decide +kernel
theorem d_Whole_order_28 : decode b_Whole_order 28 = .ok (.aload_n 0, 1) := by decide +kernel
theorem d_Whole_order_29 : decode b_Whole_order 29 = .ok (.getfield 15, 3) := by decide +kernel
theorem d_Whole_order_32 : decode b_Whole_order 32 = .ok (.iconst 1, 1) := by decide +kernel
theorem d_Whole_order_33 : decode b_Whole_order 33 = .ok (.isub, 1) := by decide +kernel
theorem d_Whole_order_34 : decode b_Whole_order 34 = .ok (.istore_n 2, 1) := by decide +kernel
theorem d_Whole_order_35 : decode b_Whole_order 35 = .ok (.iload_n 2, 1) := by decide +kernel
theorem d_Whole_order_36 : decode b_Whole_order 36 = .ok (.ifCond .lt 56, 3) := by decide +kernel
theorem d_Whole_order_39 : decode b_Whole_order 39 = .ok (.aload_n 0, 1) := by decide +kernel
theorem d_Whole_order_40 : decode b_Whole_order 40 = .ok (.getfield 9, 3) := by decide +kernel
theorem d_Whole_order_43 : decode b_Whole_order 43 = .ok (.iload_n 2, 1) := by decide +kernel
theorem d_Whole_order_44 : decode b_Whole_order 44 = .ok (.iaload, 1) := by decide +kernel
theorem d_Whole_order_45 : decode b_Whole_order 45 = .ok (.aload_n 1, 1) := by decide +kernel
theorem d_Whole_order_46 : decode b_Whole_order 46 = .ok (.getfield 9, 3) := by decide +kernel
theorem d_Whole_order_49 : decode b_Whole_order 49 = .ok (.iload_n 2, 1) := by decide +kernel
theorem d_Whole_order_50 : decode b_Whole_order 50 = .ok (.iaload, 1) := by decide +kernel
theorem d_Whole_order_51 : decode b_Whole_order 51 = .ok (.if_icmp .eq 35, 3) := by decide +kernel
theorem d_Whole_order_54 : decode b_Whole_order 54 = .ok (.aload_n 0, 1) := by decide +kernel
theorem d_Whole_order_55 : decode b_Whole_order 55 = .ok (.getfield 9, 3) := by decide +kernel
theorem d_Whole_order_58 : decode b_Whole_order 58 = .ok (.iload_n 2, 1) := by decide +kernel
theorem d_Whole_order_59 : decode b_Whole_order 59 = .ok (.iaload, 1) := by decide +kernel
theorem d_Whole_order_60 : decode b_Whole_order 60 = .ok (.i2l, 1) := by decide +kernel
theorem d_Whole_order_61 : decode b_Whole_order 61 = .ok (.ldc2_w 35, 3) := by decide +kernel
theorem d_Whole_order_64 : decode b_Whole_order 64 = .ok (.land, 1) := by decide +kernel
theorem d_Whole_order_65 : decode b_Whole_order 65 = .ok (.aload_n 1, 1) := by decide +kernel
theorem d_Whole_order_66 : decode b_Whole_order 66 = .ok (.getfield 9, 3) := by decide +kernel
theorem d_Whole_order_69 : decode b_Whole_order 69 = .ok (.iload_n 2, 1) := by decide +kernel
theorem d_Whole_order_70 : decode b_Whole_order 70 = .ok (.iaload, 1) := by decide +kernel
theorem d_Whole_order_71 : decode b_Whole_order 71 = .ok (.i2l, 1) := by decide +kernel
theorem d_Whole_order_72 : decode b_Whole_order 72 = .ok (.ldc2_w 35, 3) := by decide +kernel
theorem d_Whole_order_75 : decode b_Whole_order 75 = .ok (.land, 1) := by decide +kernel
theorem d_Whole_order_76 : decode b_Whole_order 76 = .ok (.lcmp, 1) := by decide +kernel
theorem d_Whole_order_77 : decode b_Whole_order 77 = .ok (.ifCond .ge 7, 3) := by decide +kernel
theorem d_Whole_order_80 : decode b_Whole_order 80 = .ok (.iconst (-1), 1) := by decide +kernel
theorem d_Whole_order_81 : decode b_Whole_order 81 = .ok (.goto 4, 3) := by decide +kernel
theorem d_Whole_order_84 : decode b_Whole_order 84 = .ok (.iconst 1, 1) := by decide +kernel
theorem d_Whole_order_85 : decode b_Whole_order 85 = .ok (.ireturn, 1) := by decide +kernel
theorem d_Whole_order_86 : decode b_Whole_order 86 = .ok (.iinc 2 (-1), 3) := by decide +kernel
theorem d_Whole_order_89 : decode b_Whole_order 89 = .ok (.goto (-54), 3) := by decide +kernel
theorem d_Whole_order_92 : decode b_Whole_order 92 = .ok (.iconst 0, 1) := by decide +kernel
theorem d_Whole_order_93 : decode b_Whole_order 93 = .ok (.ireturn, 1) := by decide +kernel
theorem d_Whole_remainder_0 : decode b_Whole_remainder 0 = .ok (.lconst 0, 1) := by decide +kernel
theorem d_Whole_remainder_1 : decode b_Whole_remainder 1 = .ok (.lstore_n 2, 1) := by decide +kernel
theorem d_Whole_remainder_2 : decode b_Whole_remainder 2 = .ok (.aload_n 0, 1) := by decide +kernel
theorem d_Whole_remainder_3 : decode b_Whole_remainder 3 = .ok (.getfield 15, 3) := by decide +kernel
theorem d_Whole_remainder_6 : decode b_Whole_remainder 6 = .ok (.iconst 1, 1) := by decide +kernel
theorem d_Whole_remainder_7 : decode b_Whole_remainder 7 = .ok (.isub, 1) := by decide +kernel
theorem d_Whole_remainder_8 : decode b_Whole_remainder 8 = .ok (.istore 4, 2) := by decide +kernel
theorem d_Whole_remainder_10 : decode b_Whole_remainder 10 = .ok (.iload 4, 2) := by decide +kernel
theorem d_Whole_remainder_12 : decode b_Whole_remainder 12 = .ok (.ifCond .lt 30, 3) := by decide +kernel
theorem d_Whole_remainder_15 : decode b_Whole_remainder 15 = .ok (.lload_n 2, 1) := by decide +kernel
theorem d_Whole_remainder_16 : decode b_Whole_remainder 16 = .ok (.bipush 32, 2) := by decide +kernel
theorem d_Whole_remainder_18 : decode b_Whole_remainder 18 = .ok (.lshl, 1) := by decide +kernel
theorem d_Whole_remainder_19 : decode b_Whole_remainder 19 = .ok (.aload_n 0, 1) := by decide +kernel
theorem d_Whole_remainder_20 : decode b_Whole_remainder 20 = .ok (.getfield 9, 3) := by decide +kernel
theorem d_Whole_remainder_23 : decode b_Whole_remainder 23 = .ok (.iload 4, 2) := by decide +kernel
theorem d_Whole_remainder_25 : decode b_Whole_remainder 25 = .ok (.iaload, 1) := by decide +kernel
theorem d_Whole_remainder_26 : decode b_Whole_remainder 26 = .ok (.i2l, 1) := by decide +kernel
theorem d_Whole_remainder_27 : decode b_Whole_remainder 27 = .ok (.ldc2_w 35, 3) := by decide +kernel
theorem d_Whole_remainder_30 : decode b_Whole_remainder 30 = .ok (.land, 1) := by decide +kernel
theorem d_Whole_remainder_31 : decode b_Whole_remainder 31 = .ok (.lor, 1) := by decide +kernel
theorem d_Whole_remainder_32 : decode b_Whole_remainder 32 = .ok (.iload_n 1, 1) := by decide +kernel
theorem d_Whole_remainder_33 : decode b_Whole_remainder 33 = .ok (.i2l, 1) := by decide +kernel
theorem d_Whole_remainder_34 : decode b_Whole_remainder 34 = .ok (.lrem, 1) := by decide +kernel
theorem d_Whole_remainder_35 : decode b_Whole_remainder 35 = .ok (.lstore_n 2, 1) := by decide +kernel
theorem d_Whole_remainder_36 : decode b_Whole_remainder 36 = .ok (.iinc 4 (-1), 3) := by decide +kernel
theorem d_Whole_remainder_39 : decode b_Whole_remainder 39 = .ok (.goto (-29), 3) := by decide +kernel
theorem d_Whole_remainder_42 : decode b_Whole_remainder 42 = .ok (.lload_n 2, 1) := by decide +kernel
theorem d_Whole_remainder_43 : decode b_Whole_remainder 43 = .ok (.l2i, 1) := by decide +kernel
theorem d_Whole_remainder_44 : decode b_Whole_remainder 44 = .ok (.ireturn, 1) := by decide +kernel
theorem d_Whole_settle_0 : decode b_Whole_settle 0 = .ok (.iload_n 1, 1) := by decide +kernel
theorem d_Whole_settle_1 : decode b_Whole_settle 1 = .ok (.istore_n 2, 1) := by decide +kernel
theorem d_Whole_settle_2 : decode b_Whole_settle 2 = .ok (.iload_n 2, 1) := by decide +kernel
theorem d_Whole_settle_3 : decode b_Whole_settle 3 = .ok (.aload_n 0, 1) := by decide +kernel
theorem d_Whole_settle_4 : decode b_Whole_settle 4 = .ok (.getfield 15, 3) := by decide +kernel
theorem d_Whole_settle_7 : decode b_Whole_settle 7 = .ok (.if_icmp .ge 16, 3) := by decide +kernel
theorem d_Whole_settle_10 : decode b_Whole_settle 10 = .ok (.aload_n 0, 1) := by decide +kernel
theorem d_Whole_settle_11 : decode b_Whole_settle 11 = .ok (.getfield 9, 3) := by decide +kernel
theorem d_Whole_settle_14 : decode b_Whole_settle 14 = .ok (.iload_n 2, 1) := by decide +kernel
theorem d_Whole_settle_15 : decode b_Whole_settle 15 = .ok (.iconst 0, 1) := by decide +kernel
theorem d_Whole_settle_16 : decode b_Whole_settle 16 = .ok (.iastore, 1) := by decide +kernel
theorem d_Whole_settle_17 : decode b_Whole_settle 17 = .ok (.iinc 2 1, 3) := by decide +kernel
theorem d_Whole_settle_20 : decode b_Whole_settle 20 = .ok (.goto (-18), 3) := by decide +kernel
theorem d_Whole_settle_23 : decode b_Whole_settle 23 = .ok (.aload_n 0, 1) := by decide +kernel
theorem d_Whole_settle_24 : decode b_Whole_settle 24 = .ok (.iload_n 1, 1) := by decide +kernel
theorem d_Whole_settle_25 : decode b_Whole_settle 25 = .ok (.putfield 15, 3) := by decide +kernel
theorem d_Whole_settle_28 : decode b_Whole_settle 28 = .ok (.aload_n 0, 1) := by decide +kernel
theorem d_Whole_settle_29 : decode b_Whole_settle 29 = .ok (.getfield 15, 3) := by decide +kernel
theorem d_Whole_settle_32 : decode b_Whole_settle 32 = .ok (.ifCond .le 30, 3) := by decide +kernel
theorem d_Whole_settle_35 : decode b_Whole_settle 35 = .ok (.aload_n 0, 1) := by decide +kernel
theorem d_Whole_settle_36 : decode b_Whole_settle 36 = .ok (.getfield 9, 3) := by decide +kernel
theorem d_Whole_settle_39 : decode b_Whole_settle 39 = .ok (.aload_n 0, 1) := by decide +kernel
theorem d_Whole_settle_40 : decode b_Whole_settle 40 = .ok (.getfield 15, 3) := by decide +kernel
theorem d_Whole_settle_43 : decode b_Whole_settle 43 = .ok (.iconst 1, 1) := by decide +kernel
theorem d_Whole_settle_44 : decode b_Whole_settle 44 = .ok (.isub, 1) := by decide +kernel
theorem d_Whole_settle_45 : decode b_Whole_settle 45 = .ok (.iaload, 1) := by decide +kernel
theorem d_Whole_settle_46 : decode b_Whole_settle 46 = .ok (.ifCond .ne 16, 3) := by decide +kernel
theorem d_Whole_settle_49 : decode b_Whole_settle 49 = .ok (.aload_n 0, 1) := by decide +kernel
theorem d_Whole_settle_50 : decode b_Whole_settle 50 = .ok (.dup, 1) := by decide +kernel
theorem d_Whole_settle_51 : decode b_Whole_settle 51 = .ok (.getfield 15, 3) := by decide +kernel
theorem d_Whole_settle_54 : decode b_Whole_settle 54 = .ok (.iconst 1, 1) := by decide +kernel
theorem d_Whole_settle_55 : decode b_Whole_settle 55 = .ok (.isub, 1) := by decide +kernel
theorem d_Whole_settle_56 : decode b_Whole_settle 56 = .ok (.putfield 15, 3) := by decide +kernel
theorem d_Whole_settle_59 : decode b_Whole_settle 59 = .ok (.goto (-31), 3) := by decide +kernel
theorem d_Whole_settle_62 : decode b_Whole_settle 62 = .ok (.return_, 1) := by decide +kernel
theorem d_Whole_size_0 : decode b_Whole_size 0 = .ok (.aload_n 0, 1) := by decide +kernel
theorem d_Whole_size_1 : decode b_Whole_size 1 = .ok (.getfield 15, 3) := by decide +kernel
theorem d_Whole_size_4 : decode b_Whole_size 4 = .ok (.ifCond .ne 7, 3) := by decide +kernel
theorem d_Whole_size_7 : decode b_Whole_size 7 = .ok (.iconst 0, 1) := by decide +kernel
theorem d_Whole_size_8 : decode b_Whole_size 8 = .ok (.goto 25, 3) := by decide +kernel
theorem d_Whole_size_11 : decode b_Whole_size 11 = .ok (.bipush 32, 2) := by decide +kernel
theorem d_Whole_size_13 : decode b_Whole_size 13 = .ok (.aload_n 0, 1) := by decide +kernel
theorem d_Whole_size_14 : decode b_Whole_size 14 = .ok (.getfield 15, 3) := by decide +kernel
theorem d_Whole_size_17 : decode b_Whole_size 17 = .ok (.imul, 1) := by decide +kernel
theorem d_Whole_size_18 : decode b_Whole_size 18 = .ok (.aload_n 0, 1) := by decide +kernel
theorem d_Whole_size_19 : decode b_Whole_size 19 = .ok (.getfield 9, 3) := by decide +kernel
theorem d_Whole_size_22 : decode b_Whole_size 22 = .ok (.aload_n 0, 1) := by decide +kernel
theorem d_Whole_size_23 : decode b_Whole_size 23 = .ok (.getfield 15, 3) := by decide +kernel
theorem d_Whole_size_26 : decode b_Whole_size 26 = .ok (.iconst 1, 1) := by decide +kernel
theorem d_Whole_size_27 : decode b_Whole_size 27 = .ok (.isub, 1) := by decide +kernel
theorem d_Whole_size_28 : decode b_Whole_size 28 = .ok (.iaload, 1) := by decide +kernel
theorem d_Whole_size_29 : decode b_Whole_size 29 = .ok (.invokestatic 50, 3) := by decide +kernel
theorem d_Whole_size_32 : decode b_Whole_size 32 = .ok (.isub, 1) := by decide +kernel
theorem d_Whole_size_33 : decode b_Whole_size 33 = .ok (.ireturn, 1) := by decide +kernel
end
section
/-! ===== the world of a mill: nineteen Wholes (0 .. 15 the registers, 16 result, 17 left, 18 helper), their rows, the mill, its array ===== -/
/-- cells 0 .. 18 the Wholes, 19 .. 37 their rows, 38 the mill, 39 the array of registers; ad: their addresses -/
def wm_e (ad : Nat → Nat) (cA cR : ClassId) (ln : Nat → Nat) (wd : Nat → Nat → Int32) (k : Nat) : va_E :=
  if k < 19 then .inr (1, [.ref (ad (19 + k)), .int (nI (ln k))])
  else if k < 38 then .inl (cA, 2050, .inl (wd (k - 19)))
  else if k < 39 then .inr (0, [.ref (ad 39), .ref (ad 16), .ref (ad 17), .ref (ad 18)])
  else .inl (cR, 16, .inr (.inr (.inr (.inr (fun i => some (ad i))))))
def wm_w (ad : Nat → Nat) (cA cR : ClassId) (ln : Nat → Nat) (wd : Nat → Nat → Int32) : va_W := (List.range 40).map (fun k => (ad k, wm_e ad cA cR ln wd k))
theorem wm_w_len (ad : Nat → Nat) (cA cR : ClassId) (ln : Nat → Nat) (wd : Nat → Nat → Int32) : (wm_w ad cA cR ln wd).length = 40 := by simp [wm_w]
theorem wm_w_at {ad : Nat → Nat} {cA cR : ClassId} {ln : Nat → Nat} {wd : Nat → Nat → Int32} {k : Nat} (hk : k < 40) : (wm_w ad cA cR ln wd)[k]? = some (ad k, wm_e ad cA cR ln wd k) := by
  unfold wm_w
  rw [List.getElem?_map, List.getElem?_range hk]
  rfl
theorem wm_w_of {ad : Nat → Nat} {cA cR : ClassId} {ln : Nat → Nat} {wd : Nat → Nat → Int32} {k : Nat} {q : Nat × va_E} (h : (wm_w ad cA cR ln wd)[k]? = some q) : k < 40 ∧ q.1 = ad k := by
  have hk : k < 40 := by
    have := (List.getElem?_eq_some_iff.mp h).1
    rwa [wm_w_len] at this
  rw [wm_w_at hk] at h
  cases h
  exact ⟨hk, rfl⟩
theorem wm_at_o {ad : Nat → Nat} {cA cR : ClassId} {ln : Nat → Nat} {wd : Nat → Nat → Int32} {j : Nat} (hj : j < 19) : (wm_w ad cA cR ln wd)[j]? = some (ad j, .inr (1, [.ref (ad (19 + j)), .int (nI (ln j))])) := by
  rw [wm_w_at (by omega), wm_e, if_pos hj]
theorem wm_at_w {ad : Nat → Nat} {cA cR : ClassId} {ln : Nat → Nat} {wd : Nat → Nat → Int32} {j : Nat} (hj : j < 19) : (wm_w ad cA cR ln wd)[19 + j]? = some (ad (19 + j), .inl (cA, 2050, .inl (wd j))) := by
  rw [wm_w_at (by omega), wm_e, if_neg (by omega), if_pos (by omega), Nat.add_sub_cancel_left]
theorem wm_at_m {ad : Nat → Nat} {cA cR : ClassId} {ln : Nat → Nat} {wd : Nat → Nat → Int32} : (wm_w ad cA cR ln wd)[38]? = some (ad 38, .inr (0, [.ref (ad 39), .ref (ad 16), .ref (ad 17), .ref (ad 18)])) := by
  rw [wm_w_at (by omega), wm_e, if_neg (by omega), if_neg (by omega), if_pos (by omega)]
theorem wm_at_r {ad : Nat → Nat} {cA cR : ClassId} {ln : Nat → Nat} {wd : Nat → Nat → Int32} : (wm_w ad cA cR ln wd)[39]? = some (ad 39, .inl (cR, 16, .inr (.inr (.inr (.inr (fun i => some (ad i))))))) := by
  rw [wm_w_at (by omega), wm_e, if_neg (by omega), if_neg (by omega), if_neg (by omega)]
theorem wm_set {ad : Nat → Nat} {cA cR : ClassId} {ln ln' : Nat → Nat} {wd wd' : Nat → Nat → Int32} {j : Nat} {x : va_E} (hx : wm_e ad cA cR ln' wd' j = x) (ho : ∀ k, k < 40 → k ≠ j → wm_e ad cA cR ln' wd' k = wm_e ad cA cR ln wd k) : (wm_w ad cA cR ln wd).set j (ad j, x) = wm_w ad cA cR ln' wd' := by
  apply List.ext_getElem?
  intro k
  by_cases hk : k < 40
  · rw [wm_w_at (ln := ln') hk]
    by_cases e : k = j
    · subst e
      rw [List.getElem?_set_self (by rw [wm_w_len]; exact hk), hx]
    · rw [List.getElem?_set_ne (Ne.symm e), wm_w_at hk, ho k hk e]
  · rw [List.getElem?_eq_none (by rw [List.length_set, wm_w_len]; omega), List.getElem?_eq_none (by rw [wm_w_len]; omega)]
theorem wm_set_o {ad : Nat → Nat} {cA cR : ClassId} {ln : Nat → Nat} {wd : Nat → Nat → Int32} {j n : Nat} (hj : j < 19) : (wm_w ad cA cR ln wd).set j (ad j, .inr (1, [.ref (ad (19 + j)), .int (nI n)])) = wm_w ad cA cR (va_up ln j n) wd := by
  refine wm_set (by rw [wm_e, if_pos hj, va_up_self]) (fun k hk e => ?_)
  unfold wm_e
  rw [va_up_ne _ _ e]
theorem wm_set_w {ad : Nat → Nat} {cA cR : ClassId} {ln : Nat → Nat} {wd : Nat → Nat → Int32} {j : Nat} {g : Nat → Int32} (hj : j < 19) : (wm_w ad cA cR ln wd).set (19 + j) (ad (19 + j), .inl (cA, 2050, .inl g)) = wm_w ad cA cR ln (va_up wd j g) := by
  refine wm_set (by rw [wm_e, if_neg (by omega), if_pos (by omega), Nat.add_sub_cancel_left, va_up_self]) (fun k hk e => ?_)
  unfold wm_e
  by_cases h1 : k < 19
  · rw [if_pos h1, if_pos h1]
  · rw [if_neg h1, if_neg h1]
    by_cases h2 : k < 38
    · rw [if_pos h2, if_pos h2, va_up_ne _ _ (by omega)]
    · rw [if_neg h2, if_neg h2]
/-- the cells that a method of the mill may write: the mill's own, and new ones -/
def wm_A (ad : Nat → Nat) (sz : Nat) : Nat → Prop := fun q => (∃ k, k < 40 ∧ q = ad k) ∨ sz ≤ q
/-- the array classes of the world -/
abbrev wm_ty (cA cR : ClassId) : List (ClassId × FieldType) := [(cA, .int), (cR, .object "WholeMill$Whole")]
/-- the world now, in a method that began at s: what the cells hold, that they are apart, what has been written -/
def wm_M (D : va_G) (ad : Nat → Nat) (cA cR : ClassId) (s : State) (ln : Nat → Nat) (wd : Nat → Nat → Int32) (H : Heap) (locs : List Loc) : Prop :=
  va_P D classes (wm_w ad cA cR ln wd) H ∧ va_D (wm_A ad s.heap.size) (wm_w ad cA cR ln wd) ∧ va_S (wm_A ad s.heap.size) s.heap H locs
/-- a contract's start over the world -/
def wm_B (D : va_G) (ad : Nat → Nat) (cA cR : ClassId) (sz : Nat) (ln : Nat → Nat) (wd : Nat → Nat → Int32) : State → Prop := fun U =>
  U.heap.size = sz ∧ va_P D classes (wm_w ad cA cR ln wd) U.heap ∧ va_K D classes (wm_ty cA cR) U ∧ va_D (fun _ => True) (wm_w ad cA cR ln wd)
abbrev wm_St : Type := (Nat → Nat) × (Nat → Nat → Int32)
/-- its end: u the lengths and rows then -/
def wm_E (D : va_G) (ad : Nat → Nat) (cA cR : ClassId) (sz : Nat) : wm_St → State → Prop := fun u t =>
  va_P D classes (wm_w ad cA cR u.1 u.2) t.heap ∧ va_K D classes (wm_ty cA cR) t ∧ va_D (wm_A ad sz) (wm_w ad cA cR u.1 u.2)
theorem wm_blind (D : va_G) (ad : Nat → Nat) (cA cR : ClassId) (sz : Nat) (ln : Nat → Nat) (wd : Nat → Nat → Int32) (As : List Value) : FrameBlind (va_Pc As (wm_B D ad cA cR sz ln wd)) :=
  fun a U g mk q => by obtain ⟨q0, q1, qP, qK, qD⟩ := q; exact ⟨q0, q1, qP, va_K.moved (u := U) (U := U.calling g mk a) (Vm.Alike.refl U.vm) qK, qD⟩
theorem wm_A_mono {ad : Nat → Nat} {a b q : Nat} (h : a ≤ b) (hq : wm_A ad b q) : wm_A ad a q := by
  rcases hq with h1 | h1
  · exact Or.inl h1
  · exact Or.inr (Nat.le_trans h h1)
theorem wm_good {w : Cond} (h : w ∈ lw_T) : GoodIn lw_T (w :: lw_T) := by
  intro v hv
  rcases List.mem_cons.mp hv with rfl | h2
  · exact ⟨h, good_of_word (List.mem_filter.mp h).2⟩
  · exact ⟨h2, good_of_word (List.mem_filter.mp h2).2⟩
end
section
/-! ===== rows over numbers: nI for ints, lN for longs ===== -/
theorem nv_lcm_ge {x y : Nat} (h1 : x < 2 ^ 63) (h2 : y < 2 ^ 63) : 0 ≤ lg_cmp (lN x) (lN y) ↔ y ≤ x := by rw [lg_cmp_ge, pk_lLE h2 h1]
theorem nv_lcm_le {x y : Nat} (h1 : x < 2 ^ 63) (h2 : y < 2 ^ 63) : lg_cmp (lN x) (lN y) ≤ 0 ↔ x ≤ y := by rw [lg_cmp_le, pk_lLE h1 h2]
theorem nv_lcm_lt {x y : Nat} (h1 : x < 2 ^ 63) (h2 : y < 2 ^ 63) : lg_cmp (lN x) (lN y) < 0 ↔ x < y := by
  rw [← Int32.not_le, nv_lcm_ge h1 h2, Nat.not_le]
theorem nv_lcm_gt {x y : Nat} (h1 : x < 2 ^ 63) (h2 : y < 2 ^ 63) : 0 < lg_cmp (lN x) (lN y) ↔ y < x := by
  rw [← Int32.not_le, nv_lcm_le h1 h2, Nat.not_le]
theorem nv_lcm_eq {x y : Nat} (h1 : x < 2 ^ 63) (h2 : y < 2 ^ 63) : lg_cmp (lN x) (lN y) = 0 ↔ x = y := by
  have a := nv_lcm_ge h1 h2
  have b := nv_lcm_le h1 h2
  constructor
  · intro h
    rw [h] at a b
    have a1 := a.mp (by decide)
    have b1 := b.mp (by decide)
    omega
  · intro h
    subst h
    simp [lg_cmp]
theorem nv_lcm_ne {x y : Nat} (h1 : x < 2 ^ 63) (h2 : y < 2 ^ 63) : ¬ lg_cmp (lN x) (lN y) = 0 ↔ x ≠ y := by rw [nv_lcm_eq h1 h2]
theorem wm_andN (a b : Nat) : nI a &&& nI b = nI (a &&& b) := by
  apply Int32.toBitVec_inj.1
  show BitVec.ofNat 32 a &&& BitVec.ofNat 32 b = BitVec.ofNat 32 (a &&& b)
  apply BitVec.eq_of_getLsbD_eq
  intro i hi
  simp [hi]
section NvRows
variable {p : Program} {l : Launch} {e : Env} {R : Room} {s : State} {m : MethodId} {args : Array Value} {below : List Frame} {meth : Method} {c : Code} {H : Heap} {locs : List Loc} {cells slots : Nat} {Q : State → Prop} {cc : ByteArray} {pc : Nat} {ls : Array Slot} {rest : List Value} {own : String} {nL : Nat}
theorem nv_iadd (hC : CallFix p m c cc nL s args lw_T own) {x y : Nat} (hdg : decode cc pc = .ok (.iadd, 1)) (k : W p l e R s m args below meth c H locs cells slots Q (F0 m (pc + 1) ls (.int (nI (x + y)) :: rest))) : W p l e R s m args below meth c H locs cells slots Q (F0 m pc ls (.int (nI y) :: .int (nI x) :: rest)) :=
  lv_iadd hC.1 hC.2.1 hdg (by rw [nI_add]; exact k)
theorem nv_isub (hC : CallFix p m c cc nL s args lw_T own) {x y : Nat} (h : y ≤ x) (hdg : decode cc pc = .ok (.isub, 1)) (k : W p l e R s m args below meth c H locs cells slots Q (F0 m (pc + 1) ls (.int (nI (x - y)) :: rest))) : W p l e R s m args below meth c H locs cells slots Q (F0 m pc ls (.int (nI y) :: .int (nI x) :: rest)) :=
  lv_isub hC.1 hC.2.1 hdg (by rw [pk_sub h]; exact k)
theorem nv_imul (hC : CallFix p m c cc nL s args lw_T own) {x y : Nat} (hdg : decode cc pc = .ok (.imul, 1)) (k : W p l e R s m args below meth c H locs cells slots Q (F0 m (pc + 1) ls (.int (nI (x * y)) :: rest))) : W p l e R s m args below meth c H locs cells slots Q (F0 m pc ls (.int (nI y) :: .int (nI x) :: rest)) :=
  lv_imul hC.1 hC.2.1 hdg (by rw [pk_mul]; exact k)
theorem nv_inc (i : Nat) : nI i + Int32.ofInt 1 = nI (i + 1) := nI_1 i
theorem nv_dec (i : Nat) : nI (i + 1) + Int32.ofInt (-1) = nI i := pk_m1 i
theorem nv_icmp_ge (hC : CallFix p m c cc nL s args lw_T own) {x y : Nat} {off : Int} {tgt : Nat} (h1 : x < 2 ^ 31) (h2 : y < 2 ^ 31) (hdg : decode cc pc = .ok (.if_icmp .ge off, 3)) (ht : (pc : Int) + off = (tgt : Int)) (kt : y ≤ x → W p l e R s m args below meth c H locs cells slots Q (F0 m tgt ls rest)) (kf : x < y → W p l e R s m args below meth c H locs cells slots Q (F0 m (pc + 3) ls rest)) : W p l e R s m args below meth c H locs cells slots Q (F0 m pc ls (.int (nI y) :: .int (nI x) :: rest)) :=
  lv_icmp_ge hC.1 hC.2.1 hdg ht (fun h => kt ((nI_leI h2 h1).mp h)) (fun h => kf (Nat.lt_of_not_le fun z => h ((nI_leI h2 h1).mpr z)))
theorem nv_icmp_lt (hC : CallFix p m c cc nL s args lw_T own) {x y : Nat} {off : Int} {tgt : Nat} (h1 : x < 2 ^ 31) (h2 : y < 2 ^ 31) (hdg : decode cc pc = .ok (.if_icmp .lt off, 3)) (ht : (pc : Int) + off = (tgt : Int)) (kt : x < y → W p l e R s m args below meth c H locs cells slots Q (F0 m tgt ls rest)) (kf : y ≤ x → W p l e R s m args below meth c H locs cells slots Q (F0 m (pc + 3) ls rest)) : W p l e R s m args below meth c H locs cells slots Q (F0 m pc ls (.int (nI y) :: .int (nI x) :: rest)) :=
  lv_icmp_lt hC.1 hC.2.1 hdg ht (fun h => kt ((nI_ltI h1 h2).mp h)) (fun h => kf (Nat.le_of_not_lt fun z => h ((nI_ltI h1 h2).mpr z)))
theorem nv_icmp_gt (hC : CallFix p m c cc nL s args lw_T own) {x y : Nat} {off : Int} {tgt : Nat} (h1 : x < 2 ^ 31) (h2 : y < 2 ^ 31) (hdg : decode cc pc = .ok (.if_icmp .gt off, 3)) (ht : (pc : Int) + off = (tgt : Int)) (kt : y < x → W p l e R s m args below meth c H locs cells slots Q (F0 m tgt ls rest)) (kf : x ≤ y → W p l e R s m args below meth c H locs cells slots Q (F0 m (pc + 3) ls rest)) : W p l e R s m args below meth c H locs cells slots Q (F0 m pc ls (.int (nI y) :: .int (nI x) :: rest)) :=
  lv_icmp_gt hC.1 hC.2.1 hdg ht (fun h => kt ((nI_ltI h2 h1).mp h)) (fun h => kf (Nat.le_of_not_lt fun z => h ((nI_ltI h2 h1).mpr z)))
theorem nv_icmp_le (hC : CallFix p m c cc nL s args lw_T own) {x y : Nat} {off : Int} {tgt : Nat} (h1 : x < 2 ^ 31) (h2 : y < 2 ^ 31) (hdg : decode cc pc = .ok (.if_icmp .le off, 3)) (ht : (pc : Int) + off = (tgt : Int)) (kt : x ≤ y → W p l e R s m args below meth c H locs cells slots Q (F0 m tgt ls rest)) (kf : y < x → W p l e R s m args below meth c H locs cells slots Q (F0 m (pc + 3) ls rest)) : W p l e R s m args below meth c H locs cells slots Q (F0 m pc ls (.int (nI y) :: .int (nI x) :: rest)) :=
  lv_icmp_le hC.1 hC.2.1 hdg ht (fun h => kt ((nI_leI h1 h2).mp h)) (fun h => kf (Nat.lt_of_not_le fun z => h ((nI_leI h1 h2).mpr z)))
theorem nv_icmp_eq (hC : CallFix p m c cc nL s args lw_T own) {x y : Nat} {off : Int} {tgt : Nat} (h1 : x < 2 ^ 31) (h2 : y < 2 ^ 31) (hdg : decode cc pc = .ok (.if_icmp .eq off, 3)) (ht : (pc : Int) + off = (tgt : Int)) (kt : x = y → W p l e R s m args below meth c H locs cells slots Q (F0 m tgt ls rest)) (kf : x ≠ y → W p l e R s m args below meth c H locs cells slots Q (F0 m (pc + 3) ls rest)) : W p l e R s m args below meth c H locs cells slots Q (F0 m pc ls (.int (nI y) :: .int (nI x) :: rest)) :=
  lv_icmp_eq hC.1 hC.2.1 hdg ht (fun h => kt ((nI_eq h1 h2).mp h)) (fun h => kf (fun z => h ((nI_eq h1 h2).mpr z)))
theorem nv_icmp_ne (hC : CallFix p m c cc nL s args lw_T own) {x y : Nat} {off : Int} {tgt : Nat} (h1 : x < 2 ^ 31) (h2 : y < 2 ^ 31) (hdg : decode cc pc = .ok (.if_icmp .ne off, 3)) (ht : (pc : Int) + off = (tgt : Int)) (kt : x ≠ y → W p l e R s m args below meth c H locs cells slots Q (F0 m tgt ls rest)) (kf : x = y → W p l e R s m args below meth c H locs cells slots Q (F0 m (pc + 3) ls rest)) : W p l e R s m args below meth c H locs cells slots Q (F0 m pc ls (.int (nI y) :: .int (nI x) :: rest)) :=
  lv_icmp_ne hC.1 hC.2.1 hdg ht (fun h => kt (fun z => h ((nI_eq h1 h2).mpr z))) (fun h => kf ((nI_eq h1 h2).mp h))
theorem nv_z {x : Nat} (h : x < 2 ^ 31) : nI x = 0 ↔ x = 0 := by rw [← nI_0, nI_eq h (by decide)]
theorem nv_le0 {x : Nat} (h : x < 2 ^ 31) : nI x ≤ 0 ↔ x = 0 := by rw [← nI_0, nI_leI h (by decide)]; omega
theorem nv_if_eq (hC : CallFix p m c cc nL s args lw_T own) {x : Nat} {off : Int} {tgt : Nat} (h1 : x < 2 ^ 31) (hdg : decode cc pc = .ok (.ifCond .eq off, 3)) (ht : (pc : Int) + off = (tgt : Int)) (kt : x = 0 → W p l e R s m args below meth c H locs cells slots Q (F0 m tgt ls rest)) (kf : x ≠ 0 → W p l e R s m args below meth c H locs cells slots Q (F0 m (pc + 3) ls rest)) : W p l e R s m args below meth c H locs cells slots Q (F0 m pc ls (.int (nI x) :: rest)) :=
  lv_if_eq hC.1 hC.2.1 hdg ht (fun h => kt ((nv_z h1).mp h)) (fun h => kf (fun z => h ((nv_z h1).mpr z)))
theorem nv_if_ne (hC : CallFix p m c cc nL s args lw_T own) {x : Nat} {off : Int} {tgt : Nat} (h1 : x < 2 ^ 31) (hdg : decode cc pc = .ok (.ifCond .ne off, 3)) (ht : (pc : Int) + off = (tgt : Int)) (kt : x ≠ 0 → W p l e R s m args below meth c H locs cells slots Q (F0 m tgt ls rest)) (kf : x = 0 → W p l e R s m args below meth c H locs cells slots Q (F0 m (pc + 3) ls rest)) : W p l e R s m args below meth c H locs cells slots Q (F0 m pc ls (.int (nI x) :: rest)) :=
  lv_if_ne hC.1 hC.2.1 hdg ht (fun h => kt (fun z => h ((nv_z h1).mpr z))) (fun h => kf ((nv_z h1).mp h))
theorem nv_if_le (hC : CallFix p m c cc nL s args lw_T own) {x : Nat} {off : Int} {tgt : Nat} (h1 : x < 2 ^ 31) (hdg : decode cc pc = .ok (.ifCond .le off, 3)) (ht : (pc : Int) + off = (tgt : Int)) (kt : x = 0 → W p l e R s m args below meth c H locs cells slots Q (F0 m tgt ls rest)) (kf : x ≠ 0 → W p l e R s m args below meth c H locs cells slots Q (F0 m (pc + 3) ls rest)) : W p l e R s m args below meth c H locs cells slots Q (F0 m pc ls (.int (nI x) :: rest)) :=
  lv_if_le hC.1 hC.2.1 hdg ht (fun h => kt ((nv_le0 h1).mp h)) (fun h => kf (fun z => h ((nv_le0 h1).mpr z)))
/-- the test of a loop that counts down: its int is one less than the number of rounds left -/
theorem nv_down_lt (hC : CallFix p m c cc nL s args lw_T own) {x : Nat} {off : Int} {tgt : Nat} (h1 : x < 2 ^ 31) (hdg : decode cc pc = .ok (.ifCond .lt off, 3)) (ht : (pc : Int) + off = (tgt : Int)) (kt : x = 0 → W p l e R s m args below meth c H locs cells slots Q (F0 m tgt ls rest)) (kf : ∀ y, x = y + 1 → W p l e R s m args below meth c H locs cells slots Q (F0 m (pc + 3) ls rest)) : W p l e R s m args below meth c H locs cells slots Q (F0 m pc ls (.int (nI x + (-1)) :: rest)) := by
  refine lv_if_lt hC.1 hC.2.1 hdg ht (fun h => ?_) (fun h => ?_)
  · rcases Nat.eq_zero_or_pos x with z | z
    · exact kt z
    · obtain ⟨y, rfl⟩ : ∃ y, x = y + 1 := ⟨x - 1, by omega⟩
      rw [pk_m1] at h
      exact absurd h (nI_pos (by omega))
  · rcases Nat.eq_zero_or_pos x with z | z
    · subst z
      exact absurd (show nI 0 + (-1) < 0 by decide) h
    · exact kf (x - 1) (by omega)
theorem nv_isub1 (hC : CallFix p m c cc nL s args lw_T own) {x : Nat} (hdg : decode cc pc = .ok (.isub, 1)) (k : W p l e R s m args below meth c H locs cells slots Q (F0 m (pc + 1) ls (.int (nI x + (-1)) :: rest))) : W p l e R s m args below meth c H locs cells slots Q (F0 m pc ls (.int (nI 1) :: .int (nI x) :: rest)) :=
  lv_isub hC.1 hC.2.1 hdg (by rw [Int32.sub_eq_add_neg]; exact k)
theorem nv_low (hC : CallFix p m c cc nL s args lw_T own) {index : Nat} (hc : Cond.constantLong own index 4294967295 ∈ lw_T) {x : Int32} (h1 : decode cc pc = .ok (.i2l, 1)) (h2 : decode cc (pc + 1) = .ok (.ldc2_w index, 3)) (h3 : decode cc (pc + 4) = .ok (.land, 1)) (k : W p l e R s m args below meth c H locs cells slots Q (F0 m (pc + 5) ls (.long (lN (wm_u x)) :: rest))) : W p l e R s m args below meth c H locs cells slots Q (F0 m pc ls (.int x :: rest)) :=
  lv_i2l hC.1 hC.2.1 h1 rfl (lv_ldc2 hC.1 hC.2.1 hC.2.2.2.1 (hC.2.2.2.2 _ hc) h2 (lv_land hC.1 hC.2.1 h3 (by rw [wm_low]; exact k)))
theorem nv_lowL (hC : CallFix p m c cc nL s args lw_T own) {index : Nat} (hc : Cond.constantLong own index 4294967295 ∈ lw_T) {n : Nat} (hn : n < 2 ^ 64) (h2 : decode cc pc = .ok (.ldc2_w index, 3)) (h3 : decode cc (pc + 3) = .ok (.land, 1)) (k : W p l e R s m args below meth c H locs cells slots Q (F0 m (pc + 4) ls (.long (lN (n % 4294967296)) :: rest))) : W p l e R s m args below meth c H locs cells slots Q (F0 m pc ls (.long (lN n) :: rest)) :=
  lv_ldc2 hC.1 hC.2.1 hC.2.2.2.1 (hC.2.2.2.2 _ hc) h2 (lv_land hC.1 hC.2.1 h3 (by rw [wm_lowL hn]; exact k))
theorem nv_ladd (hC : CallFix p m c cc nL s args lw_T own) {x y : Nat} (hdg : decode cc pc = .ok (.ladd, 1)) (k : W p l e R s m args below meth c H locs cells slots Q (F0 m (pc + 1) ls (.long (lN (x + y)) :: rest))) : W p l e R s m args below meth c H locs cells slots Q (F0 m pc ls (.long (lN y) :: .long (lN x) :: rest)) :=
  lv_ladd hC.1 hC.2.1 hdg (by rw [lN_add]; exact k)
theorem nv_lmul (hC : CallFix p m c cc nL s args lw_T own) {x y : Nat} (hdg : decode cc pc = .ok (.lmul, 1)) (k : W p l e R s m args below meth c H locs cells slots Q (F0 m (pc + 1) ls (.long (lN (x * y)) :: rest))) : W p l e R s m args below meth c H locs cells slots Q (F0 m pc ls (.long (lN y) :: .long (lN x) :: rest)) :=
  lv_lmul hC.1 hC.2.1 hdg (by rw [lN_mul]; exact k)
theorem nv_lsub (hC : CallFix p m c cc nL s args lw_T own) {x y : Nat} (h : y ≤ x) (hdg : decode cc pc = .ok (.lsub, 1)) (k : W p l e R s m args below meth c H locs cells slots Q (F0 m (pc + 1) ls (.long (lN (x - y)) :: rest))) : W p l e R s m args below meth c H locs cells slots Q (F0 m pc ls (.long (lN y) :: .long (lN x) :: rest)) :=
  lv_lsub hC.1 hC.2.1 hdg (by rw [lN_sub h]; exact k)
theorem nv_lsubw (hC : CallFix p m c cc nL s args lw_T own) {x y : Nat} (h : y ≤ 2 ^ 64) (hdg : decode cc pc = .ok (.lsub, 1)) (k : W p l e R s m args below meth c H locs cells slots Q (F0 m (pc + 1) ls (.long (lN (x + (2 ^ 64 - y))) :: rest))) : W p l e R s m args below meth c H locs cells slots Q (F0 m pc ls (.long (lN y) :: .long (lN x) :: rest)) :=
  lv_lsub hC.1 hC.2.1 hdg (by rw [wm_lsub h]; exact k)
theorem nv_lushr (hC : CallFix p m c cc nL s args lw_T own) {n k : Nat} (hn : n < 2 ^ 64) (hk : k < 64) (hdg : decode cc pc = .ok (.lushr, 1)) (kk : W p l e R s m args below meth c H locs cells slots Q (F0 m (pc + 1) ls (.long (lN (n / 2 ^ k)) :: rest))) : W p l e R s m args below meth c H locs cells slots Q (F0 m pc ls (.int (nI k) :: .long (lN n) :: rest)) :=
  lv_lushr hC.1 hC.2.1 hdg (wb_shr hn hk) kk
theorem nv_lshl (hC : CallFix p m c cc nL s args lw_T own) {n k : Nat} (hk : k < 64) (hdg : decode cc pc = .ok (.lshl, 1)) (kk : W p l e R s m args below meth c H locs cells slots Q (F0 m (pc + 1) ls (.long (lN (n * 2 ^ k)) :: rest))) : W p l e R s m args below meth c H locs cells slots Q (F0 m pc ls (.int (nI k) :: .long (lN n) :: rest)) :=
  lv_lshl hC.1 hC.2.1 hdg (wb_shl n hk) kk
theorem nv_l2i (hC : CallFix p m c cc nL s args lw_T own) {n : Nat} (hdg : decode cc pc = .ok (.l2i, 1)) (kk : W p l e R s m args below meth c H locs cells slots Q (F0 m (pc + 1) ls (.int (nI n) :: rest))) : W p l e R s m args below meth c H locs cells slots Q (F0 m pc ls (.long (lN n) :: rest)) :=
  lv_l2i hC.1 hC.2.1 hdg (lN_i n) kk
theorem nv_i2l (hC : CallFix p m c cc nL s args lw_T own) {n : Nat} (hn : n < 2 ^ 31) (hdg : decode cc pc = .ok (.i2l, 1)) (kk : W p l e R s m args below meth c H locs cells slots Q (F0 m (pc + 1) ls (.long (lN n) :: rest))) : W p l e R s m args below meth c H locs cells slots Q (F0 m pc ls (.int (nI n) :: rest)) :=
  lv_i2l hC.1 hC.2.1 hdg (nI_l hn) kk
theorem nv_iushr (hC : CallFix p m c cc nL s args lw_T own) {n k : Nat} (hn : n < 2 ^ 32) (hk : k < 32) (hdg : decode cc pc = .ok (.iushr, 1)) (kk : W p l e R s m args below meth c H locs cells slots Q (F0 m (pc + 1) ls (.int (nI (n / 2 ^ k)) :: rest))) : W p l e R s m args below meth c H locs cells slots Q (F0 m pc ls (.int (nI k) :: .int (nI n) :: rest)) :=
  lv_iushr hC.1 hC.2.1 hdg (pk_ushrN hn _ k (wm_s_u k hk)) kk
theorem nv_iand (hC : CallFix p m c cc nL s args lw_T own) {n k : Nat} (hn : n < 2 ^ 32) (hk : k < 32) (hdg : decode cc pc = .ok (.iand, 1)) (kk : W p l e R s m args below meth c H locs cells slots Q (F0 m (pc + 1) ls (.int (nI (n % 2 ^ k)) :: rest))) : W p l e R s m args below meth c H locs cells slots Q (F0 m pc ls (.int (nI (2 ^ k - 1)) :: .int (nI n) :: rest)) :=
  lv_iand hC.1 hC.2.1 hdg (by rw [pk_andN hn k (pk_tn (by have := Nat.pow_lt_pow_right (show 1 < 2 by decide) hk; omega))]; exact kk)
theorem nv_lushr32 (hC : CallFix p m c cc nL s args lw_T own) {n : Nat} (hn : n < 18446744073709551616) (hdg : decode cc pc = .ok (.lushr, 1)) (kk : W p l e R s m args below meth c H locs cells slots Q (F0 m (pc + 1) ls (.long (lN (n / 4294967296)) :: rest))) : W p l e R s m args below meth c H locs cells slots Q (F0 m pc ls (.int (nI 32) :: .long (lN n) :: rest)) :=
  nv_lushr hC (k := 32) hn (by decide) hdg kk
theorem nv_maxi {a b : Nat} (ha : a < 2 ^ 31) (hb : b < 2 ^ 31) : (if nI a < nI b then nI b else nI a) = nI (max a b) := by
  by_cases h : a < b
  · rw [if_pos ((nI_ltI ha hb).mpr h), Nat.max_eq_right (Nat.le_of_lt h)]
  · rw [if_neg (fun z => h ((nI_ltI ha hb).mp z)), Nat.max_eq_left (Nat.le_of_not_lt h)]
theorem nv_mini {a b : Nat} (ha : a < 2 ^ 31) (hb : b < 2 ^ 31) : (if nI b < nI a then nI b else nI a) = nI (min a b) := by
  by_cases h : b < a
  · rw [if_pos ((nI_ltI hb ha).mpr h), Nat.min_eq_right (Nat.le_of_lt h)]
  · rw [if_neg (fun z => h ((nI_ltI hb ha).mp z)), Nat.min_eq_left (Nat.le_of_not_lt h)]
theorem nv_mmax (hC : CallFix p m c cc nL s args lw_T own) (hsz : ls.size = nL) {index : Nat} (hlink : Cond.methodLink own index Lib.Math.max.name ∈ lw_T) (hstat : Cond.static Lib.Math.max.name ∈ lw_T) (hini : Cond.initialized "java/lang/Math" ∈ lw_T) (hcode : Cond.code Lib.Math.max.name Lib.Math.max.code 2 (some .int) ∈ lw_T) (hfr : 1 ≤ R.frames) (hlo : (rest.map fun v => v.category).sum + 13 ≤ R.locals) {x y : Int32} (hdg : decode cc pc = .ok (.invokestatic index, 3))
    (kk : W p l e R s m args below meth c H locs 0 0 Q (F0 m (pc + 3) ls (.int (if x < y then y else x) :: rest))) : W p l e R s m args below meth c H locs 0 0 Q (F0 m pc ls (.int y :: .int x :: rest)) :=
  va_mmax hC.1 hC.2.1 (by rw [hC.2.2.1, hsz]) hC.2.2.2.1 (hC.2.2.2.2 _ hlink) (hC.2.2.2.2 _ hstat) (hC.2.2.2.2 _ hini) (hC.2.2.2.2 _ hcode) hfr hlo (Nat.zero_le _) (Nat.zero_le _) hdg kk
theorem nv_mmin (hC : CallFix p m c cc nL s args lw_T own) (hsz : ls.size = nL) {index : Nat} (hlink : Cond.methodLink own index Lib.Math.min.name ∈ lw_T) (hstat : Cond.static Lib.Math.min.name ∈ lw_T) (hini : Cond.initialized "java/lang/Math" ∈ lw_T) (hcode : Cond.code Lib.Math.min.name Lib.Math.min.code 2 (some .int) ∈ lw_T) (hfr : 1 ≤ R.frames) (hlo : (rest.map fun v => v.category).sum + 13 ≤ R.locals) {x y : Int32} (hdg : decode cc pc = .ok (.invokestatic index, 3))
    (kk : W p l e R s m args below meth c H locs 0 0 Q (F0 m (pc + 3) ls (.int (if y < x then y else x) :: rest))) : W p l e R s m args below meth c H locs 0 0 Q (F0 m pc ls (.int y :: .int x :: rest)) :=
  va_mmin hC.1 hC.2.1 (by rw [hC.2.2.1, hsz]) hC.2.2.2.1 (hC.2.2.2.2 _ hlink) (hC.2.2.2.2 _ hstat) (hC.2.2.2.2 _ hini) (hC.2.2.2.2 _ hcode) hfr hlo (Nat.zero_le _) (Nat.zero_le _) hdg kk
theorem nz_lsub (hC : CallFix p m c cc nL s args lw_T own) {x y : Int} (hdg : decode cc pc = .ok (.lsub, 1)) (k : W p l e R s m args below meth c H locs cells slots Q (F0 m (pc + 1) ls (.long (lz_i (x - y)) :: rest))) : W p l e R s m args below meth c H locs cells slots Q (F0 m pc ls (.long (lz_i y) :: .long (lz_i x) :: rest)) :=
  lv_lsub hC.1 hC.2.1 hdg (by rw [lz_sub]; exact k)
theorem nz_ladd (hC : CallFix p m c cc nL s args lw_T own) {x y : Int} (hdg : decode cc pc = .ok (.ladd, 1)) (k : W p l e R s m args below meth c H locs cells slots Q (F0 m (pc + 1) ls (.long (lz_i (x + y)) :: rest))) : W p l e R s m args below meth c H locs cells slots Q (F0 m pc ls (.long (lz_i y) :: .long (lz_i x) :: rest)) :=
  lv_ladd hC.1 hC.2.1 hdg (by rw [lz_add]; exact k)
/-- x - y of two longs that are numbers: with a sign -/
theorem nz_lsubn (hC : CallFix p m c cc nL s args lw_T own) {x y : Nat} (hdg : decode cc pc = .ok (.lsub, 1)) (k : W p l e R s m args below meth c H locs cells slots Q (F0 m (pc + 1) ls (.long (lz_i ((x : Int) - (y : Int))) :: rest))) : W p l e R s m args below meth c H locs cells slots Q (F0 m pc ls (.long (lN y) :: .long (lN x) :: rest)) :=
  lv_lsub hC.1 hC.2.1 hdg (by rw [lz_n, lz_n, lz_sub]; exact k)
theorem nz_lsubm (hC : CallFix p m c cc nL s args lw_T own) {x : Int} {y : Nat} (hdg : decode cc pc = .ok (.lsub, 1)) (k : W p l e R s m args below meth c H locs cells slots Q (F0 m (pc + 1) ls (.long (lz_i (x - (y : Int))) :: rest))) : W p l e R s m args below meth c H locs cells slots Q (F0 m pc ls (.long (lN y) :: .long (lz_i x) :: rest)) :=
  lv_lsub hC.1 hC.2.1 hdg (by rw [lz_n, lz_sub]; exact k)
theorem nz_l2i (hC : CallFix p m c cc nL s args lw_T own) {z : Int} (hdg : decode cc pc = .ok (.l2i, 1)) (kk : W p l e R s m args below meth c H locs cells slots Q (F0 m (pc + 1) ls (.int (Int32.ofInt z) :: rest))) : W p l e R s m args below meth c H locs cells slots Q (F0 m pc ls (.long (lz_i z) :: rest)) :=
  lv_l2i hC.1 hC.2.1 hdg (lz_32 z) kk
theorem nz_63 (hC : CallFix p m c cc nL s args lw_T own) {z : Int} (h1 : -9223372036854775808 ≤ z) (h2 : z < 9223372036854775808) (hdg : decode cc pc = .ok (.lushr, 1)) (kk : W p l e R s m args below meth c H locs cells slots Q (F0 m (pc + 1) ls (.long (lN (if z < 0 then 1 else 0)) :: rest))) : W p l e R s m args below meth c H locs cells slots Q (F0 m pc ls (.int (nI 63) :: .long (lz_i z) :: rest)) :=
  lv_lushr hC.1 hC.2.1 hdg (lz_63 h1 h2) kk
theorem nv_lc_lt (hC : CallFix p m c cc nL s args lw_T own) {x y : Nat} {off : Int} {tgt : Nat} (h1 : x < 2 ^ 63) (h2 : y < 2 ^ 63) (hd1 : decode cc pc = .ok (.lcmp, 1)) (hdg : decode cc (pc + 1) = .ok (.ifCond .lt off, 3)) (ht : ((pc + 1 : Nat) : Int) + off = (tgt : Int)) (kt : x < y → W p l e R s m args below meth c H locs cells slots Q (F0 m tgt ls rest)) (kf : y ≤ x → W p l e R s m args below meth c H locs cells slots Q (F0 m (pc + 4) ls rest)) : W p l e R s m args below meth c H locs cells slots Q (F0 m pc ls (.long (lN y) :: .long (lN x) :: rest)) := by
  refine W.lcmp hC.1 hC.2.1 hd1 (lv_if_lt hC.1 hC.2.1 hdg ht (fun h => kt ?_) (fun h => kf ?_))
  · exact (nv_lcm_lt h1 h2).mp h
  · have h3 : ¬ (x < y) := fun z => h ((nv_lcm_lt h1 h2).mpr z)
    omega
theorem nv_lc_ge (hC : CallFix p m c cc nL s args lw_T own) {x y : Nat} {off : Int} {tgt : Nat} (h1 : x < 2 ^ 63) (h2 : y < 2 ^ 63) (hd1 : decode cc pc = .ok (.lcmp, 1)) (hdg : decode cc (pc + 1) = .ok (.ifCond .ge off, 3)) (ht : ((pc + 1 : Nat) : Int) + off = (tgt : Int)) (kt : y ≤ x → W p l e R s m args below meth c H locs cells slots Q (F0 m tgt ls rest)) (kf : x < y → W p l e R s m args below meth c H locs cells slots Q (F0 m (pc + 4) ls rest)) : W p l e R s m args below meth c H locs cells slots Q (F0 m pc ls (.long (lN y) :: .long (lN x) :: rest)) := by
  refine W.lcmp hC.1 hC.2.1 hd1 (lv_if_ge hC.1 hC.2.1 hdg ht (fun h => kt ?_) (fun h => kf ?_))
  · exact (nv_lcm_ge h1 h2).mp h
  · have h3 : ¬ (y ≤ x) := fun z => h ((nv_lcm_ge h1 h2).mpr z)
    omega
theorem nv_lc_gt (hC : CallFix p m c cc nL s args lw_T own) {x y : Nat} {off : Int} {tgt : Nat} (h1 : x < 2 ^ 63) (h2 : y < 2 ^ 63) (hd1 : decode cc pc = .ok (.lcmp, 1)) (hdg : decode cc (pc + 1) = .ok (.ifCond .gt off, 3)) (ht : ((pc + 1 : Nat) : Int) + off = (tgt : Int)) (kt : y < x → W p l e R s m args below meth c H locs cells slots Q (F0 m tgt ls rest)) (kf : x ≤ y → W p l e R s m args below meth c H locs cells slots Q (F0 m (pc + 4) ls rest)) : W p l e R s m args below meth c H locs cells slots Q (F0 m pc ls (.long (lN y) :: .long (lN x) :: rest)) := by
  refine W.lcmp hC.1 hC.2.1 hd1 (lv_if_gt hC.1 hC.2.1 hdg ht (fun h => kt ?_) (fun h => kf ?_))
  · exact (nv_lcm_gt h1 h2).mp h
  · have h3 : ¬ (y < x) := fun z => h ((nv_lcm_gt h1 h2).mpr z)
    omega
theorem nv_lc_le (hC : CallFix p m c cc nL s args lw_T own) {x y : Nat} {off : Int} {tgt : Nat} (h1 : x < 2 ^ 63) (h2 : y < 2 ^ 63) (hd1 : decode cc pc = .ok (.lcmp, 1)) (hdg : decode cc (pc + 1) = .ok (.ifCond .le off, 3)) (ht : ((pc + 1 : Nat) : Int) + off = (tgt : Int)) (kt : x ≤ y → W p l e R s m args below meth c H locs cells slots Q (F0 m tgt ls rest)) (kf : y < x → W p l e R s m args below meth c H locs cells slots Q (F0 m (pc + 4) ls rest)) : W p l e R s m args below meth c H locs cells slots Q (F0 m pc ls (.long (lN y) :: .long (lN x) :: rest)) := by
  refine W.lcmp hC.1 hC.2.1 hd1 (lv_if_le hC.1 hC.2.1 hdg ht (fun h => kt ?_) (fun h => kf ?_))
  · exact (nv_lcm_le h1 h2).mp h
  · have h3 : ¬ (x ≤ y) := fun z => h ((nv_lcm_le h1 h2).mpr z)
    omega
theorem nv_lc_eq (hC : CallFix p m c cc nL s args lw_T own) {x y : Nat} {off : Int} {tgt : Nat} (h1 : x < 2 ^ 63) (h2 : y < 2 ^ 63) (hd1 : decode cc pc = .ok (.lcmp, 1)) (hdg : decode cc (pc + 1) = .ok (.ifCond .eq off, 3)) (ht : ((pc + 1 : Nat) : Int) + off = (tgt : Int)) (kt : x = y → W p l e R s m args below meth c H locs cells slots Q (F0 m tgt ls rest)) (kf : x ≠ y → W p l e R s m args below meth c H locs cells slots Q (F0 m (pc + 4) ls rest)) : W p l e R s m args below meth c H locs cells slots Q (F0 m pc ls (.long (lN y) :: .long (lN x) :: rest)) := by
  refine W.lcmp hC.1 hC.2.1 hd1 (lv_if_eq hC.1 hC.2.1 hdg ht (fun h => kt ?_) (fun h => kf ?_))
  · exact (nv_lcm_eq h1 h2).mp h
  · have h3 : ¬ (x = y) := fun z => h ((nv_lcm_eq h1 h2).mpr z)
    omega
theorem nv_lc_ne (hC : CallFix p m c cc nL s args lw_T own) {x y : Nat} {off : Int} {tgt : Nat} (h1 : x < 2 ^ 63) (h2 : y < 2 ^ 63) (hd1 : decode cc pc = .ok (.lcmp, 1)) (hdg : decode cc (pc + 1) = .ok (.ifCond .ne off, 3)) (ht : ((pc + 1 : Nat) : Int) + off = (tgt : Int)) (kt : x ≠ y → W p l e R s m args below meth c H locs cells slots Q (F0 m tgt ls rest)) (kf : x = y → W p l e R s m args below meth c H locs cells slots Q (F0 m (pc + 4) ls rest)) : W p l e R s m args below meth c H locs cells slots Q (F0 m pc ls (.long (lN y) :: .long (lN x) :: rest)) := by
  refine W.lcmp hC.1 hC.2.1 hd1 (lv_if_ne hC.1 hC.2.1 hdg ht (fun h => kt ?_) (fun h => kf ?_))
  · exact (nv_lcm_ne h1 h2).mp h
  · exact (nv_lcm_eq h1 h2).mp h
theorem nv_iandm (hC : CallFix p m c cc nL s args lw_T own) {x y : Nat} (hdg : decode cc pc = .ok (.iand, 1)) (k : W p l e R s m args below meth c H locs cells slots Q (F0 m (pc + 1) ls (.int (nI (x &&& y)) :: rest))) : W p l e R s m args below meth c H locs cells slots Q (F0 m pc ls (.int (nI y) :: .int (nI x) :: rest)) :=
  lv_iand hC.1 hC.2.1 hdg (by rw [wm_andN]; exact k)
theorem nv_ldiv (hC : CallFix p m c cc nL s args lw_T own) {x y : Nat} (hx : x < 2 ^ 63) (hy0 : 0 < y) (hy : y < 2 ^ 63) (hdg : decode cc pc = .ok (.ldiv, 1)) (k : W p l e R s m args below meth c H locs cells slots Q (F0 m (pc + 1) ls (.long (lN (x / y)) :: rest))) : W p l e R s m args below meth c H locs cells slots Q (F0 m pc ls (.long (lN y) :: .long (lN x) :: rest)) :=
  lv_ldiv hC.1 hC.2.1 hdg (fun h => absurd ((pk_lEQ hy (by decide)).mp (show lN y = lN 0 from h)) (by omega)) (by rw [pk_lDiv hx hy0 hy]; exact k)
theorem nv_lrem (hC : CallFix p m c cc nL s args lw_T own) {x y : Nat} (hx : x < 2 ^ 63) (hy0 : 0 < y) (hy : y < 2 ^ 63) (hdg : decode cc pc = .ok (.lrem, 1)) (k : W p l e R s m args below meth c H locs cells slots Q (F0 m (pc + 1) ls (.long (lN (x % y)) :: rest))) : W p l e R s m args below meth c H locs cells slots Q (F0 m pc ls (.long (lN y) :: .long (lN x) :: rest)) :=
  lv_lrem hC.1 hC.2.1 hdg (fun h => absurd ((pk_lEQ hy (by decide)).mp (show lN y = lN 0 from h)) (by omega)) (by rw [pk_lRem hx hy0 hy]; exact k)
/-- the higher word beside the lower -/
theorem nv_pair (hC : CallFix p m c cc nL s args lw_T own) {a b k : Nat} (hb : b < 2 ^ k) (h : a * 2 ^ k + b < 2 ^ 64) (hdg : decode cc pc = .ok (.lor, 1)) (kk : W p l e R s m args below meth c H locs cells slots Q (F0 m (pc + 1) ls (.long (lN (a * 2 ^ k + b)) :: rest))) : W p l e R s m args below meth c H locs cells slots Q (F0 m pc ls (.long (lN b) :: .long (lN (a * 2 ^ k)) :: rest)) :=
  lv_lor hC.1 hC.2.1 hdg (by rw [g_or (k := k) rfl hb h]; exact kk)
/-- an int, shifted into the higher word of a long -/
theorem nv_hi (hC : CallFix p m c cc nL s args lw_T own) {x : Int32} (h1 : decode cc pc = .ok (.i2l, 1)) (h2 : decode cc (pc + 1) = .ok (.bipush 32, 2)) (h3 : decode cc (pc + 3) = .ok (.lshl, 1)) (kk : W p l e R s m args below meth c H locs cells slots Q (F0 m (pc + 4) ls (.long (lN (wm_u x * 2 ^ 32)) :: rest))) : W p l e R s m args below meth c H locs cells slots Q (F0 m pc ls (.int x :: rest)) :=
  lv_i2l hC.1 hC.2.1 h1 rfl (lv_bipush (v := nI 32) hC.1 hC.2.1 h2 (by decide) (lv_lshl hC.1 hC.2.1 h3 (wm_hi x) kk))
end NvRows
end
section
/-! ===== rows over the mill's world ===== -/
section WmRows
variable {p : Program} {l : Launch} {e : Env} {R : Room} {s : State} {m : MethodId} {args : Array Value} {below : List Frame} {meth : Method} {c : Code} {H : Heap} {locs : List Loc} {cells slots : Nat} {Q : State → Prop} {cc : ByteArray} {pc : Nat} {ls : Array Slot} {rest : List Value} {own : String} {nL : Nat}
  {D : va_G} {ad : Nat → Nat} {cA cR : ClassId} {ln : Nat → Nat} {wd : Nat → Nat → Int32}
theorem wm_len (hC : CallFix p m c cc nL s args lw_T own) (hK : va_K D classes (wm_ty cA cR) s) (hM : wm_M D ad cA cR s ln wd H locs) {j index : Nat} (hj : j < 19) (hlink : Cond.fieldLink own index "WholeMill$Whole" "length" "I" ∈ lw_T) (hdg : decode cc pc = .ok (.getfield index, 3)) (kk : W p l e R s m args below meth c H locs cells slots Q (F0 m (pc + 3) ls (.int (nI (ln j)) :: rest))) : W p l e R s m args below meth c H locs cells slots Q (F0 m pc ls (.ref (ad j) :: rest)) :=
  va_get (D := D) (ci := 1) (C := R_Whole) (T := F_Whole) (N := 2) hC.1 hC.2.1 hC.2.2.2.2 i_Whole hC.2.2.2.1 hK hM.1 j (wm_at_o hj) rfl 1 (by decide) (hC.2.2.2.2 _ hlink) (fun _ h9 => h9) rfl hdg kk
theorem wm_wds (hC : CallFix p m c cc nL s args lw_T own) (hK : va_K D classes (wm_ty cA cR) s) (hM : wm_M D ad cA cR s ln wd H locs) {j index : Nat} (hj : j < 19) (hlink : Cond.fieldLink own index "WholeMill$Whole" "words" "[I" ∈ lw_T) (hdg : decode cc pc = .ok (.getfield index, 3)) (kk : W p l e R s m args below meth c H locs cells slots Q (F0 m (pc + 3) ls (.ref (ad (19 + j)) :: rest))) : W p l e R s m args below meth c H locs cells slots Q (F0 m pc ls (.ref (ad j) :: rest)) :=
  va_get (D := D) (ci := 1) (C := R_Whole) (T := F_Whole) (N := 2) hC.1 hC.2.1 hC.2.2.2.2 i_Whole hC.2.2.2.1 hK hM.1 j (wm_at_o hj) rfl 0 (by decide) (hC.2.2.2.2 _ hlink) (fun _ h9 => h9) rfl hdg kk
theorem wm_regs (hC : CallFix p m c cc nL s args lw_T own) (hK : va_K D classes (wm_ty cA cR) s) (hM : wm_M D ad cA cR s ln wd H locs) {index : Nat} (hlink : Cond.fieldLink own index "WholeMill" "registers" "[LWholeMill$Whole;" ∈ lw_T) (hdg : decode cc pc = .ok (.getfield index, 3)) (kk : W p l e R s m args below meth c H locs cells slots Q (F0 m (pc + 3) ls (.ref (ad 39) :: rest))) : W p l e R s m args below meth c H locs cells slots Q (F0 m pc ls (.ref (ad 38) :: rest)) :=
  va_get (D := D) (ci := 0) (C := R_Mill) (T := F_Mill) (N := 4) hC.1 hC.2.1 hC.2.2.2.2 i_Mill hC.2.2.2.1 hK hM.1 38 wm_at_m rfl 0 (by decide) (hC.2.2.2.2 _ hlink) (fun _ h9 => h9) rfl hdg kk
theorem wm_res (hC : CallFix p m c cc nL s args lw_T own) (hK : va_K D classes (wm_ty cA cR) s) (hM : wm_M D ad cA cR s ln wd H locs) {index : Nat} (hlink : Cond.fieldLink own index "WholeMill" "result" "LWholeMill$Whole;" ∈ lw_T) (hdg : decode cc pc = .ok (.getfield index, 3)) (kk : W p l e R s m args below meth c H locs cells slots Q (F0 m (pc + 3) ls (.ref (ad 16) :: rest))) : W p l e R s m args below meth c H locs cells slots Q (F0 m pc ls (.ref (ad 38) :: rest)) :=
  va_get (D := D) (ci := 0) (C := R_Mill) (T := F_Mill) (N := 4) hC.1 hC.2.1 hC.2.2.2.2 i_Mill hC.2.2.2.1 hK hM.1 38 wm_at_m rfl 1 (by decide) (hC.2.2.2.2 _ hlink) (fun _ h9 => h9) rfl hdg kk
theorem wm_lef (hC : CallFix p m c cc nL s args lw_T own) (hK : va_K D classes (wm_ty cA cR) s) (hM : wm_M D ad cA cR s ln wd H locs) {index : Nat} (hlink : Cond.fieldLink own index "WholeMill" "left" "LWholeMill$Whole;" ∈ lw_T) (hdg : decode cc pc = .ok (.getfield index, 3)) (kk : W p l e R s m args below meth c H locs cells slots Q (F0 m (pc + 3) ls (.ref (ad 17) :: rest))) : W p l e R s m args below meth c H locs cells slots Q (F0 m pc ls (.ref (ad 38) :: rest)) :=
  va_get (D := D) (ci := 0) (C := R_Mill) (T := F_Mill) (N := 4) hC.1 hC.2.1 hC.2.2.2.2 i_Mill hC.2.2.2.1 hK hM.1 38 wm_at_m rfl 2 (by decide) (hC.2.2.2.2 _ hlink) (fun _ h9 => h9) rfl hdg kk
theorem wm_hel (hC : CallFix p m c cc nL s args lw_T own) (hK : va_K D classes (wm_ty cA cR) s) (hM : wm_M D ad cA cR s ln wd H locs) {index : Nat} (hlink : Cond.fieldLink own index "WholeMill" "helper" "LWholeMill$Whole;" ∈ lw_T) (hdg : decode cc pc = .ok (.getfield index, 3)) (kk : W p l e R s m args below meth c H locs cells slots Q (F0 m (pc + 3) ls (.ref (ad 18) :: rest))) : W p l e R s m args below meth c H locs cells slots Q (F0 m pc ls (.ref (ad 38) :: rest)) :=
  va_get (D := D) (ci := 0) (C := R_Mill) (T := F_Mill) (N := 4) hC.1 hC.2.1 hC.2.2.2.2 i_Mill hC.2.2.2.1 hK hM.1 38 wm_at_m rfl 3 (by decide) (hC.2.2.2.2 _ hlink) (fun _ h9 => h9) rfl hdg kk
theorem wm_putlen (hC : CallFix p m c cc nL s args lw_T own) (hK : va_K D classes (wm_ty cA cR) s) (hM : wm_M D ad cA cR s ln wd H locs) {j n index : Nat} (hj : j < 19) (hlink : Cond.fieldLink own index "WholeMill$Whole" "length" "I" ∈ lw_T) (hdg : decode cc pc = .ok (.putfield index, 3)) (kk : ∀ (H1 : Heap) (locs1 : List Loc), wm_M D ad cA cR s (va_up ln j n) wd H1 locs1 → W p l e R s m args below meth c H1 locs1 cells slots Q (F0 m (pc + 3) ls rest)) : W p l e R s m args below meth c H locs cells slots Q (F0 m pc ls (.int (nI n) :: .ref (ad j) :: rest)) := by
  refine va_put (D := D) (ci := 1) (v := .int (nI n)) (ty := .int) (C := R_Whole) (T := F_Whole) (N := 2) hC.1 hC.2.1 hC.2.2.2.2 i_Whole t_Whole t_Whole_ok n_Whole hC.2.2.2.1 hK hM.1 hM.2.1 hM.2.2 j (wm_at_o hj) rfl 1 (by decide) (hC.2.2.2.2 _ hlink) (fun _ h9 => h9) rfl (by decide +kernel) rfl rfl (Nat.le_of_ble_eq_true rfl) hdg (fun H1 locs1 hP hD hS => ?_)
  have hP : va_P D classes ((wm_w ad cA cR ln wd).set j (ad j, .inr (1, [.ref (ad (19 + j)), .int (nI n)]))) H1 := hP
  have hD : va_D (wm_A ad s.heap.size) ((wm_w ad cA cR ln wd).set j (ad j, .inr (1, [.ref (ad (19 + j)), .int (nI n)]))) := hD
  rw [wm_set_o hj] at hP hD
  exact kk H1 locs1 ⟨hP, hD, hS⟩
theorem wm_ald (hC : CallFix p m c cc nL s args lw_T own) (hK : va_K D classes (wm_ty cA cR) s) (hM : wm_M D ad cA cR s ln wd H locs) {j k : Nat} (hj : j < 19) (hk : k < 2050) (hdg : decode cc pc = .ok (.iaload, 1)) (kk : W p l e R s m args below meth c H locs cells slots Q (F0 m (pc + 1) ls (.int (wd j k) :: rest))) : W p l e R s m args below meth c H locs cells slots Q (F0 m pc ls (.int (nI k) :: .ref (ad (19 + j)) :: rest)) :=
  va_iald hC.1 hC.2.1 hK hM.1 (19 + j) 0 (wm_at_w hj) rfl (vp_in_nI hk (by decide)) hdg (by rw [nI_clamp (by omega)]; exact kk)
theorem wm_ast (hC : CallFix p m c cc nL s args lw_T own) (hK : va_K D classes (wm_ty cA cR) s) (hM : wm_M D ad cA cR s ln wd H locs) {j k : Nat} {x : Int32} (hj : j < 19) (hk : k < 2050) (hdg : decode cc pc = .ok (.iastore, 1)) (kk : ∀ (H1 : Heap) (locs1 : List Loc), wm_M D ad cA cR s ln (va_up wd j (upd (wd j) k x)) H1 locs1 → W p l e R s m args below meth c H1 locs1 cells slots Q (F0 m (pc + 1) ls rest)) : W p l e R s m args below meth c H locs cells slots Q (F0 m pc ls (.int x :: .int (nI k) :: .ref (ad (19 + j)) :: rest)) := by
  refine va_iast hC.1 hC.2.1 hK hM.1 hM.2.1 hM.2.2 (19 + j) 0 (wm_at_w hj) rfl (vp_in_nI hk (by decide)) hdg (fun H1 locs1 hP hD hS => ?_)
  rw [nI_clamp (by omega), wm_set_w hj] at hP hD
  exact kk H1 locs1 ⟨hP, hD, hS⟩
theorem wm_reg (hC : CallFix p m c cc nL s args lw_T own) (hK : va_K D classes (wm_ty cA cR) s) (hM : wm_M D ad cA cR s ln wd H locs) {i : Nat} (hi : i < 16) (hdg : decode cc pc = .ok (.aaload, 1)) (kk : W p l e R s m args below meth c H locs cells slots Q (F0 m (pc + 1) ls (.ref (ad i) :: rest))) : W p l e R s m args below meth c H locs cells slots Q (F0 m pc ls (.int (nI i) :: .ref (ad 39) :: rest)) :=
  va_aldq hC.1 hC.2.1 hK hM.1 39 1 (C := "WholeMill$Whole") wm_at_r rfl (vp_in_nI hi (by decide)) hdg (by rw [nI_clamp (by omega)]; exact kk)
theorem wm_iret (hC : CallFix p m c cc nL s args lw_T own) (hK : va_K D classes (wm_ty cA cR) s) (hM : wm_M D ad cA cR s ln wd H locs) (hr : meth.sig.returnType = some .int) (hlk : meth.locks = false) {post : Int32 → wm_St → Prop} {v : Int32} (hp : post v (ln, wd)) (hdg : decode cc pc = .ok (.ireturn, 1)) : W p l e R s m args below meth c H locs 0 0 (MQ below (va_Qi post (wm_E D ad cA cR s.heap.size) (wm_A ad s.heap.size)) args s 0 0 (wm_A ad s.heap.size)) (F0 m pc ls [.int v]) :=
  W.iret hC.1 hC.2.1 hr (fun t ht hW => ⟨⟨v, (ln, wd), rfl, hp, by rw [ht]; exact hM.1, va_K.moved hW.alike hK, hM.2.1⟩, hM.2.2.F ht⟩) hM.2.2.2.2 hdg (hlocks := hlk)
theorem wm_zret (hC : CallFix p m c cc nL s args lw_T own) (hK : va_K D classes (wm_ty cA cR) s) (hM : wm_M D ad cA cR s ln wd H locs) {ty : FieldType} (hr : meth.sig.returnType = some ty) (hlk : meth.locks = false) {post : Int32 → wm_St → Prop} {v : Int32} (hn : narrow ty (.int v) = .int v) (hp : post v (ln, wd)) (hdg : decode cc pc = .ok (.ireturn, 1)) : W p l e R s m args below meth c H locs 0 0 (MQ below (va_Qi post (wm_E D ad cA cR s.heap.size) (wm_A ad s.heap.size)) args s 0 0 (wm_A ad s.heap.size)) (F0 m pc ls [.int v]) :=
  W.zret hC.1 hC.2.1 hr hn (fun t ht hW => ⟨⟨v, (ln, wd), rfl, hp, by rw [ht]; exact hM.1, va_K.moved hW.alike hK, hM.2.1⟩, hM.2.2.F ht⟩) hM.2.2.2.2 hdg (hlocks := hlk)
theorem wm_lret (hC : CallFix p m c cc nL s args lw_T own) (hK : va_K D classes (wm_ty cA cR) s) (hM : wm_M D ad cA cR s ln wd H locs) (hr : meth.sig.returnType = some .long) (hlk : meth.locks = false) {post : Int64 → wm_St → Prop} {v : Int64} (hp : post v (ln, wd)) (hdg : decode cc pc = .ok (.lreturn, 1)) : W p l e R s m args below meth c H locs 0 0 (MQ below (va_Ql post (wm_E D ad cA cR s.heap.size) (wm_A ad s.heap.size)) args s 0 0 (wm_A ad s.heap.size)) (F0 m pc ls [.long v]) :=
  W.lret hC.1 hC.2.1 hr (fun t ht hW => ⟨⟨v, (ln, wd), rfl, hp, by rw [ht]; exact hM.1, va_K.moved hW.alike hK, hM.2.1⟩, hM.2.2.F ht⟩) hM.2.2.2.2 hdg (hlocks := hlk)
theorem wm_vret (hC : CallFix p m c cc nL s args lw_T own) (hK : va_K D classes (wm_ty cA cR) s) (hM : wm_M D ad cA cR s ln wd H locs) (hr : meth.sig.returnType = none) (hlk : meth.locks = false) {post : wm_St → Prop} (hp : post (ln, wd)) (hdg : decode cc pc = .ok (.return_, 1)) : W p l e R s m args below meth c H locs 0 0 (MQ below (va_Qv post (wm_E D ad cA cR s.heap.size) (wm_A ad s.heap.size)) args s 0 0 (wm_A ad s.heap.size)) (F0 m pc ls []) :=
  W.vret hC.1 hC.2.1 hr (fun t ht hW => ⟨⟨(ln, wd), rfl, hp, by rw [ht]; exact hM.1, va_K.moved hW.alike hK, hM.2.1⟩, hM.2.2.F ht⟩) hM.2.2.2.2 hdg (hlocks := hlk)
theorem wm_met (l : Launch) {y : MethodName} {cc : ByteArray} {maxL : Nat} {ret : Option FieldType} {rm : Room} {D : va_G} {ad : Nat → Nat} {cA cR : ClassId} {sz : Nat} {ln : Nat → Nat} {wd : Nat → Nat → Int32} {As : List Value} {Qc : Array Value → State → Outcome → State → Prop} (hy : plainName y.cls = true) (hlen : (lg_sl As).length ≤ maxL)
    (body : ∀ (p : Program) (e : Env) (s : State) (m : MethodId) (below : List Frame) (meth : Method) (c : Code) (ls : Array Slot), s.heap.size = sz → CallFix p m c cc maxL s As.toArray lw_T y.cls → va_K D classes (wm_ty cA cR) s → meth.sig.returnType = ret → meth.locks = false → wm_M D ad cA cR s ln wd s.heap [] → lv_has ls maxL (lv_args 0 As) →
      W p l e rm s m As.toArray below meth c s.heap [] 0 0 (MQ below Qc As.toArray s 0 0 (wm_A ad sz)) (F0 m 0 ls [])) : Met l y (Cond.code y cc maxL ret :: lw_T) rm (va_Pc As (wm_B D ad cA cR sz ln wd)) Qc 0 0 (wm_A ad sz) := by
  refine Met.ofW (cc := cc) (maxL := maxL) (ret := ret) hy rfl ?_
  intro p e s m args below meth c s₁ B hml hv
  obtain ⟨rfl, hsz, hP, hK, hD0⟩ := hv
  have hts := atoms_spec (ws := Cond.code y cc maxL ret :: lw_T) B.pre
  have hown : s.vm.findClass y.cls = some m.cls := findClass_of_methodNamed B.named
  have hl := lv_entry As (n := maxL) hlen
  rw [lg_entry_eq]
  exact body p e s m below meth c _ hsz ⟨B.exec, B.bytes, hml, hown, fun w hw => hts w (List.mem_cons_of_mem _ hw)⟩ hK B.returns B.notSynchronized ⟨hP, ⟨hD0.1, fun k q hk => Or.inl ⟨k, wm_w_of hk⟩⟩, va_S.rf⟩ hl
theorem wm_callSi (hC : CallFix p m c cc nL s args lw_T own) (hK : va_K D classes (wm_ty cA cR) s) (hM : wm_M D ad cA cR s ln wd H locs) {y : MethodName} {bc : ByteArray} {mL index : Nat} {ret : Option FieldType} {rm : Room} {As st0 : List Value} {post : Int32 → wm_St → Prop} (hMet : Met l y (Cond.code y bc mL ret :: lw_T) rm (va_Pc As (wm_B D ad cA cR H.size ln wd)) (va_Qi post (wm_E D ad cA cR H.size) (wm_A ad H.size)) 0 0 (wm_A ad H.size)) (hcode : Cond.code y bc mL ret ∈ lw_T) (hlink : Cond.methodLink own index y ∈ lw_T) (hini : Cond.initialized y.cls ∈ lw_T) (hstat : Cond.static y ∈ lw_T) (hd : y.cls ≠ "java/lang/invoke/MethodHandle" ∧ y.cls ≠ "java/lang/invoke/VarHandle" ∧ (parseMethodDescriptor y.desc).map (fun d => d.parameters.length) = some As.length) (hrm : rm.cells = 0 ∧ rm.slots = 0) (hR : rm.frames + 1 ≤ R.frames ∧ 8 + (mL + 11) + rm.locals ≤ R.locals) (hst : st0 = As.reverse ++ rest) (hsz : ls.size = nL) (hw : (rest.map fun v => v.category).sum ≤ 8) (hdg : decode cc pc = .ok (.invokestatic index, 3))
    (kk : ∀ (r : Int32) (u : wm_St) (H1 : Heap) (locs1 : List Loc), post r u → wm_M D ad cA cR s u.1 u.2 H1 locs1 → W p l e R s m args below meth c H1 locs1 0 0 Q (F0 m (pc + 3) ls (.int r :: rest))) : W p l e R s m args below meth c H locs 0 0 Q (F0 m pc ls st0) := by
  refine va_calli (va_runS (As := As) (rest := rest) hC hMet ⟨callB_of As.length hC.2.2.2.2 (wm_good hcode) rfl hrm.1 hrm.2 (hC.2.2.2.2 _ hini) (hC.2.2.2.2 _ hlink) hd hR, hC.2.2.2.2 _ hstat⟩ ⟨wm_blind _ _ _ _ _ _ _ _, fun U hU hW => ⟨rfl, by rw [hU], by rw [hU]; exact hM.1, va_K.moved hW.alike hK, hM.2.1.weaken (fun _ _ _ _ => trivial)⟩⟩ rfl rfl hsz hst (lv_room hw) hdg ⟨Nat.zero_le _, Nat.zero_le _⟩) hM.2.2 (fun q _ h => wm_A_mono hM.2.2.1 h) (fun q h => wm_A_mono hM.2.2.1 h) (fun r u t H1 locs1 ht hvm hp hB hz hk hS => ?_)
  obtain ⟨hP1, hK1, hD1⟩ := hB
  rw [ht] at hP1
  exact kk r u H1 locs1 hp ⟨hP1, hD1.weaken (fun _ _ _ h => wm_A_mono hM.2.2.1 h), hS⟩
theorem wm_callSl (hC : CallFix p m c cc nL s args lw_T own) (hK : va_K D classes (wm_ty cA cR) s) (hM : wm_M D ad cA cR s ln wd H locs) {y : MethodName} {bc : ByteArray} {mL index : Nat} {ret : Option FieldType} {rm : Room} {As st0 : List Value} {post : Int64 → wm_St → Prop} (hMet : Met l y (Cond.code y bc mL ret :: lw_T) rm (va_Pc As (wm_B D ad cA cR H.size ln wd)) (va_Ql post (wm_E D ad cA cR H.size) (wm_A ad H.size)) 0 0 (wm_A ad H.size)) (hcode : Cond.code y bc mL ret ∈ lw_T) (hlink : Cond.methodLink own index y ∈ lw_T) (hini : Cond.initialized y.cls ∈ lw_T) (hstat : Cond.static y ∈ lw_T) (hd : y.cls ≠ "java/lang/invoke/MethodHandle" ∧ y.cls ≠ "java/lang/invoke/VarHandle" ∧ (parseMethodDescriptor y.desc).map (fun d => d.parameters.length) = some As.length) (hrm : rm.cells = 0 ∧ rm.slots = 0) (hR : rm.frames + 1 ≤ R.frames ∧ 8 + (mL + 11) + rm.locals ≤ R.locals) (hst : st0 = As.reverse ++ rest) (hsz : ls.size = nL) (hw : (rest.map fun v => v.category).sum ≤ 8) (hdg : decode cc pc = .ok (.invokestatic index, 3))
    (kk : ∀ (r : Int64) (u : wm_St) (H1 : Heap) (locs1 : List Loc), post r u → wm_M D ad cA cR s u.1 u.2 H1 locs1 → W p l e R s m args below meth c H1 locs1 0 0 Q (F0 m (pc + 3) ls (.long r :: rest))) : W p l e R s m args below meth c H locs 0 0 Q (F0 m pc ls st0) := by
  refine va_calll (va_runS (As := As) (rest := rest) hC hMet ⟨callB_of As.length hC.2.2.2.2 (wm_good hcode) rfl hrm.1 hrm.2 (hC.2.2.2.2 _ hini) (hC.2.2.2.2 _ hlink) hd hR, hC.2.2.2.2 _ hstat⟩ ⟨wm_blind _ _ _ _ _ _ _ _, fun U hU hW => ⟨rfl, by rw [hU], by rw [hU]; exact hM.1, va_K.moved hW.alike hK, hM.2.1.weaken (fun _ _ _ _ => trivial)⟩⟩ rfl rfl hsz hst (lv_room hw) hdg ⟨Nat.zero_le _, Nat.zero_le _⟩) hM.2.2 (fun q _ h => wm_A_mono hM.2.2.1 h) (fun q h => wm_A_mono hM.2.2.1 h) (fun r u t H1 locs1 ht hvm hp hB hz hk hS => ?_)
  obtain ⟨hP1, hK1, hD1⟩ := hB
  rw [ht] at hP1
  exact kk r u H1 locs1 hp ⟨hP1, hD1.weaken (fun _ _ _ h => wm_A_mono hM.2.2.1 h), hS⟩
theorem wm_callSv (hC : CallFix p m c cc nL s args lw_T own) (hK : va_K D classes (wm_ty cA cR) s) (hM : wm_M D ad cA cR s ln wd H locs) {y : MethodName} {bc : ByteArray} {mL index : Nat} {ret : Option FieldType} {rm : Room} {As st0 : List Value} {post : wm_St → Prop} (hMet : Met l y (Cond.code y bc mL ret :: lw_T) rm (va_Pc As (wm_B D ad cA cR H.size ln wd)) (va_Qv post (wm_E D ad cA cR H.size) (wm_A ad H.size)) 0 0 (wm_A ad H.size)) (hcode : Cond.code y bc mL ret ∈ lw_T) (hlink : Cond.methodLink own index y ∈ lw_T) (hini : Cond.initialized y.cls ∈ lw_T) (hstat : Cond.static y ∈ lw_T) (hd : y.cls ≠ "java/lang/invoke/MethodHandle" ∧ y.cls ≠ "java/lang/invoke/VarHandle" ∧ (parseMethodDescriptor y.desc).map (fun d => d.parameters.length) = some As.length) (hrm : rm.cells = 0 ∧ rm.slots = 0) (hR : rm.frames + 1 ≤ R.frames ∧ 8 + (mL + 11) + rm.locals ≤ R.locals) (hst : st0 = As.reverse ++ rest) (hsz : ls.size = nL) (hw : (rest.map fun v => v.category).sum ≤ 8) (hdg : decode cc pc = .ok (.invokestatic index, 3))
    (kk : ∀ (u : wm_St) (H1 : Heap) (locs1 : List Loc), post u → wm_M D ad cA cR s u.1 u.2 H1 locs1 → W p l e R s m args below meth c H1 locs1 0 0 Q (F0 m (pc + 3) ls rest)) : W p l e R s m args below meth c H locs 0 0 Q (F0 m pc ls st0) := by
  refine va_callv (va_runS (As := As) (rest := rest) hC hMet ⟨callB_of As.length hC.2.2.2.2 (wm_good hcode) rfl hrm.1 hrm.2 (hC.2.2.2.2 _ hini) (hC.2.2.2.2 _ hlink) hd hR, hC.2.2.2.2 _ hstat⟩ ⟨wm_blind _ _ _ _ _ _ _ _, fun U hU hW => ⟨rfl, by rw [hU], by rw [hU]; exact hM.1, va_K.moved hW.alike hK, hM.2.1.weaken (fun _ _ _ _ => trivial)⟩⟩ rfl rfl hsz hst (lv_room hw) hdg ⟨Nat.zero_le _, Nat.zero_le _⟩) hM.2.2 (fun q _ h => wm_A_mono hM.2.2.1 h) (fun q h => wm_A_mono hM.2.2.1 h) (fun u t H1 locs1 ht hvm hp hB hz hk hS => ?_)
  obtain ⟨hP1, hK1, hD1⟩ := hB
  rw [ht] at hP1
  exact kk u H1 locs1 hp ⟨hP1, hD1.weaken (fun _ _ _ h => wm_A_mono hM.2.2.1 h), hS⟩
theorem wm_callVi (hC : CallFix p m c cc nL s args lw_T own) (hK : va_K D classes (wm_ty cA cR) s) (hM : wm_M D ad cA cR s ln wd H locs) {y : MethodName} {bc : ByteArray} {mL index : Nat} {ret : Option FieldType} {rm : Room} {As st0 : List Value} {post : Int32 → wm_St → Prop} {b q0 ci : Nat} {fs : List Value} {T : u_T} {N : Nat} (he : (wm_w ad cA cR ln wd)[q0]? = some (b, .inr (ci, fs))) (hc : classes[ci]? = some (y.cls, T, N)) (hMet : Met l y (Cond.code y bc mL ret :: lw_T) rm (va_Pc (.ref b :: As) (wm_B D ad cA cR H.size ln wd)) (va_Qi post (wm_E D ad cA cR H.size) (wm_A ad H.size)) 0 0 (wm_A ad H.size)) (hcode : Cond.code y bc mL ret ∈ lw_T) (hlink : Cond.methodLink own index y ∈ lw_T) (hini : Cond.initialized y.cls ∈ lw_T) (hinst : Cond.instanceMethod y ∈ lw_T) (hsel : Cond.selects y.cls y y ∈ lw_T) (hd : y.cls ≠ "java/lang/invoke/MethodHandle" ∧ y.cls ≠ "java/lang/invoke/VarHandle" ∧ (parseMethodDescriptor y.desc).map (fun d => d.parameters.length) = some As.length) (hrm : rm.cells = 0 ∧ rm.slots = 0) (hR : rm.frames + 1 ≤ R.frames ∧ 8 + (mL + 11) + rm.locals ≤ R.locals) (hst : st0 = As.reverse ++ .ref b :: rest) (hsz : ls.size = nL) (hw : (rest.map fun v => v.category).sum ≤ 8) (hdg : decode cc pc = .ok (.invokevirtual index, 3))
    (kk : ∀ (r : Int32) (u : wm_St) (H1 : Heap) (locs1 : List Loc), post r u → wm_M D ad cA cR s u.1 u.2 H1 locs1 → W p l e R s m args below meth c H1 locs1 0 0 Q (F0 m (pc + 3) ls (.int r :: rest))) : W p l e R s m args below meth c H locs 0 0 Q (F0 m pc ls st0) := by
  refine va_calli (va_runV (As := As) (rest := rest) hC hMet ⟨callB_of As.length hC.2.2.2.2 (wm_good hcode) rfl hrm.1 hrm.2 (hC.2.2.2.2 _ hini) (hC.2.2.2.2 _ hlink) hd hR, hC.2.2.2.2 _ hinst, hC.2.2.2.2 _ hsel⟩ ⟨wm_blind _ _ _ _ _ _ _ _, va_recv hK hM.1 hc he, fun U hU hW => ⟨rfl, by rw [hU], by rw [hU]; exact hM.1, va_K.moved hW.alike hK, hM.2.1.weaken (fun _ _ _ _ => trivial)⟩⟩ rfl rfl hsz hst (lv_room hw) hdg ⟨Nat.zero_le _, Nat.zero_le _⟩) hM.2.2 (fun q _ h => wm_A_mono hM.2.2.1 h) (fun q h => wm_A_mono hM.2.2.1 h) (fun r u t H1 locs1 ht hvm hp hB hz hk hS => ?_)
  obtain ⟨hP1, hK1, hD1⟩ := hB
  rw [ht] at hP1
  exact kk r u H1 locs1 hp ⟨hP1, hD1.weaken (fun _ _ _ h => wm_A_mono hM.2.2.1 h), hS⟩
theorem wm_callVl (hC : CallFix p m c cc nL s args lw_T own) (hK : va_K D classes (wm_ty cA cR) s) (hM : wm_M D ad cA cR s ln wd H locs) {y : MethodName} {bc : ByteArray} {mL index : Nat} {ret : Option FieldType} {rm : Room} {As st0 : List Value} {post : Int64 → wm_St → Prop} {b q0 ci : Nat} {fs : List Value} {T : u_T} {N : Nat} (he : (wm_w ad cA cR ln wd)[q0]? = some (b, .inr (ci, fs))) (hc : classes[ci]? = some (y.cls, T, N)) (hMet : Met l y (Cond.code y bc mL ret :: lw_T) rm (va_Pc (.ref b :: As) (wm_B D ad cA cR H.size ln wd)) (va_Ql post (wm_E D ad cA cR H.size) (wm_A ad H.size)) 0 0 (wm_A ad H.size)) (hcode : Cond.code y bc mL ret ∈ lw_T) (hlink : Cond.methodLink own index y ∈ lw_T) (hini : Cond.initialized y.cls ∈ lw_T) (hinst : Cond.instanceMethod y ∈ lw_T) (hsel : Cond.selects y.cls y y ∈ lw_T) (hd : y.cls ≠ "java/lang/invoke/MethodHandle" ∧ y.cls ≠ "java/lang/invoke/VarHandle" ∧ (parseMethodDescriptor y.desc).map (fun d => d.parameters.length) = some As.length) (hrm : rm.cells = 0 ∧ rm.slots = 0) (hR : rm.frames + 1 ≤ R.frames ∧ 8 + (mL + 11) + rm.locals ≤ R.locals) (hst : st0 = As.reverse ++ .ref b :: rest) (hsz : ls.size = nL) (hw : (rest.map fun v => v.category).sum ≤ 8) (hdg : decode cc pc = .ok (.invokevirtual index, 3))
    (kk : ∀ (r : Int64) (u : wm_St) (H1 : Heap) (locs1 : List Loc), post r u → wm_M D ad cA cR s u.1 u.2 H1 locs1 → W p l e R s m args below meth c H1 locs1 0 0 Q (F0 m (pc + 3) ls (.long r :: rest))) : W p l e R s m args below meth c H locs 0 0 Q (F0 m pc ls st0) := by
  refine va_calll (va_runV (As := As) (rest := rest) hC hMet ⟨callB_of As.length hC.2.2.2.2 (wm_good hcode) rfl hrm.1 hrm.2 (hC.2.2.2.2 _ hini) (hC.2.2.2.2 _ hlink) hd hR, hC.2.2.2.2 _ hinst, hC.2.2.2.2 _ hsel⟩ ⟨wm_blind _ _ _ _ _ _ _ _, va_recv hK hM.1 hc he, fun U hU hW => ⟨rfl, by rw [hU], by rw [hU]; exact hM.1, va_K.moved hW.alike hK, hM.2.1.weaken (fun _ _ _ _ => trivial)⟩⟩ rfl rfl hsz hst (lv_room hw) hdg ⟨Nat.zero_le _, Nat.zero_le _⟩) hM.2.2 (fun q _ h => wm_A_mono hM.2.2.1 h) (fun q h => wm_A_mono hM.2.2.1 h) (fun r u t H1 locs1 ht hvm hp hB hz hk hS => ?_)
  obtain ⟨hP1, hK1, hD1⟩ := hB
  rw [ht] at hP1
  exact kk r u H1 locs1 hp ⟨hP1, hD1.weaken (fun _ _ _ h => wm_A_mono hM.2.2.1 h), hS⟩
theorem wm_callVv (hC : CallFix p m c cc nL s args lw_T own) (hK : va_K D classes (wm_ty cA cR) s) (hM : wm_M D ad cA cR s ln wd H locs) {y : MethodName} {bc : ByteArray} {mL index : Nat} {ret : Option FieldType} {rm : Room} {As st0 : List Value} {post : wm_St → Prop} {b q0 ci : Nat} {fs : List Value} {T : u_T} {N : Nat} (he : (wm_w ad cA cR ln wd)[q0]? = some (b, .inr (ci, fs))) (hc : classes[ci]? = some (y.cls, T, N)) (hMet : Met l y (Cond.code y bc mL ret :: lw_T) rm (va_Pc (.ref b :: As) (wm_B D ad cA cR H.size ln wd)) (va_Qv post (wm_E D ad cA cR H.size) (wm_A ad H.size)) 0 0 (wm_A ad H.size)) (hcode : Cond.code y bc mL ret ∈ lw_T) (hlink : Cond.methodLink own index y ∈ lw_T) (hini : Cond.initialized y.cls ∈ lw_T) (hinst : Cond.instanceMethod y ∈ lw_T) (hsel : Cond.selects y.cls y y ∈ lw_T) (hd : y.cls ≠ "java/lang/invoke/MethodHandle" ∧ y.cls ≠ "java/lang/invoke/VarHandle" ∧ (parseMethodDescriptor y.desc).map (fun d => d.parameters.length) = some As.length) (hrm : rm.cells = 0 ∧ rm.slots = 0) (hR : rm.frames + 1 ≤ R.frames ∧ 8 + (mL + 11) + rm.locals ≤ R.locals) (hst : st0 = As.reverse ++ .ref b :: rest) (hsz : ls.size = nL) (hw : (rest.map fun v => v.category).sum ≤ 8) (hdg : decode cc pc = .ok (.invokevirtual index, 3))
    (kk : ∀ (u : wm_St) (H1 : Heap) (locs1 : List Loc), post u → wm_M D ad cA cR s u.1 u.2 H1 locs1 → W p l e R s m args below meth c H1 locs1 0 0 Q (F0 m (pc + 3) ls rest)) : W p l e R s m args below meth c H locs 0 0 Q (F0 m pc ls st0) := by
  refine va_callv (va_runV (As := As) (rest := rest) hC hMet ⟨callB_of As.length hC.2.2.2.2 (wm_good hcode) rfl hrm.1 hrm.2 (hC.2.2.2.2 _ hini) (hC.2.2.2.2 _ hlink) hd hR, hC.2.2.2.2 _ hinst, hC.2.2.2.2 _ hsel⟩ ⟨wm_blind _ _ _ _ _ _ _ _, va_recv hK hM.1 hc he, fun U hU hW => ⟨rfl, by rw [hU], by rw [hU]; exact hM.1, va_K.moved hW.alike hK, hM.2.1.weaken (fun _ _ _ _ => trivial)⟩⟩ rfl rfl hsz hst (lv_room hw) hdg ⟨Nat.zero_le _, Nat.zero_le _⟩) hM.2.2 (fun q _ h => wm_A_mono hM.2.2.1 h) (fun q h => wm_A_mono hM.2.2.1 h) (fun u t H1 locs1 ht hvm hp hB hz hk hS => ?_)
  obtain ⟨hP1, hK1, hD1⟩ := hB
  rw [ht] at hP1
  exact kk u H1 locs1 hp ⟨hP1, hD1.weaken (fun _ _ _ h => wm_A_mono hM.2.2.1 h), hS⟩
end WmRows
section WmCopy
variable {p : Program} {l : Launch} {e : Env} {R : Room} {s : State} {m : MethodId} {args : Array Value} {below : List Frame} {meth : Method} {c : Code} {H : Heap} {locs : List Loc} {cells slots : Nat} {Q : State → Prop} {cc : ByteArray} {pc : Nat} {ls : Array Slot} {rest : List Value} {own : String} {nL : Nat}
  {D : va_G} {ad : Nat → Nat} {cA cR : ClassId} {ln : Nat → Nat} {wd : Nat → Nat → Int32}
theorem wm_copy (hC : CallFix p m c cc nL s args lw_T own) (hK : va_K D classes (wm_ty cA cR) s) (hM : wm_M D ad cA cR s ln wd H locs) {i j sp dp n index : Nat} (hi : i < 19) (hj : j < 19) (h4 : sp + n ≤ 2050) (h5 : dp + n ≤ 2050) (hlink : Cond.methodLink own index arraycopyName ∈ lw_T) (hnat : Cond.native arraycopyName ∈ lw_T) (hstat : Cond.static arraycopyName ∈ lw_T) (hini : Cond.initialized "java/lang/System" ∈ lw_T) (hsz : ls.size = nL) (hfr : 1 ≤ R.frames) (hlo : (rest.map fun v => v.category).sum + (nativeFrameWords "java/lang/System" "arraycopy" 5 + 11) ≤ R.locals) (hdg : decode cc pc = .ok (.invokestatic index, 3))
    (kk : ∀ (H1 : Heap) (locs1 : List Loc), wm_M D ad cA cR s ln (va_up wd i (va_cpy (wd j) (wd i) sp dp n)) H1 locs1 → W p l e R s m args below meth c H1 locs1 cells slots Q (F0 m (pc + 3) ls rest)) : W p l e R s m args below meth c H locs cells slots Q (F0 m pc ls (.int (nI n) :: .int (nI dp) :: .ref (ad (19 + i)) :: .int (nI sp) :: .ref (ad (19 + j)) :: rest)) := by
  have e1 : (nI sp).toNatClampNeg = sp := nI_clamp (by omega)
  have e2 : (nI dp).toNatClampNeg = dp := nI_clamp (by omega)
  have e3 : (nI n).toNatClampNeg = n := nI_clamp (by omega)
  refine va_copyi hC.1 hC.2.1 (by rw [hC.2.2.1, hsz]) hC.2.2.2.1 (hC.2.2.2.2 _ hlink) (hC.2.2.2.2 _ hnat) (hC.2.2.2.2 _ hstat) (hC.2.2.2.2 _ hini) hK hM.1 hM.2.1 hM.2.2 (19 + j) (19 + i) 0 0 (wm_at_w hj) (wm_at_w hi) (ty := .int) rfl rfl rfl (nI_pos (by omega)) (nI_pos (by omega)) (nI_pos (by omega)) (by rw [e1, e3]; exact h4) (by rw [e2, e3]; exact h5) (fun _ _ => rfl) hfr hlo hdg (fun H1 locs1 hP hD hS => ?_)
  rw [e1, e2, e3, wm_set_w hi] at hP hD
  exact kk H1 locs1 ⟨hP, hD, hS⟩
end WmCopy
end
section
/-! ===== methods that touch no cell: contracts over any heap ===== -/
abbrev pu_Pc (As : List Value) (sz : Nat) : Array Value → State → Prop := va_Pc As (fun U => U.heap.size = sz)
abbrev pu_Qi (post : Int32 → Prop) (sz : Nat) : Array Value → State → Outcome → State → Prop := va_Qi (fun r (_ : Unit) => post r) (fun _ _ => True) (fun q => sz ≤ q)
abbrev pu_Ql (post : Int64 → Prop) (sz : Nat) : Array Value → State → Outcome → State → Prop := va_Ql (fun r (_ : Unit) => post r) (fun _ _ => True) (fun q => sz ≤ q)
theorem pu_blind (As : List Value) (sz : Nat) : FrameBlind (pu_Pc As sz) := fun a U g mk q => q
/-- nothing old has been written -/
abbrev pu_H (s : State) (H : Heap) (locs : List Loc) : Prop := va_S (fun q : Nat => s.heap.size ≤ q) s.heap H locs
section PuRows
variable {p : Program} {l : Launch} {e : Env} {R : Room} {s : State} {m : MethodId} {args : Array Value} {below : List Frame} {meth : Method} {c : Code} {H : Heap} {locs : List Loc} {cells slots : Nat} {Q : State → Prop} {cc : ByteArray} {pc : Nat} {ls : Array Slot} {rest : List Value} {own : String} {nL : Nat}
  {D : va_G} {ad : Nat → Nat} {cA cR : ClassId} {ln : Nat → Nat} {wd : Nat → Nat → Int32}
theorem nv_top {x : Int32} (y : Int32) (h : x = y) (kk : W p l e R s m args below meth c H locs cells slots Q (F0 m pc ls (.int y :: rest))) : W p l e R s m args below meth c H locs cells slots Q (F0 m pc ls (.int x :: rest)) := by rw [h]; exact kk
theorem nv_topl {x : Int64} (y : Int64) (h : x = y) (kk : W p l e R s m args below meth c H locs cells slots Q (F0 m pc ls (.long y :: rest))) : W p l e R s m args below meth c H locs cells slots Q (F0 m pc ls (.long x :: rest)) := by rw [h]; exact kk
theorem pu_met (l : Launch) {y : MethodName} {cc : ByteArray} {maxL : Nat} {ret : Option FieldType} {rm : Room} {sz : Nat} {As : List Value} {Qc : Array Value → State → Outcome → State → Prop} (hy : plainName y.cls = true) (hlen : (lg_sl As).length ≤ maxL)
    (body : ∀ (p : Program) (e : Env) (s : State) (m : MethodId) (below : List Frame) (meth : Method) (c : Code) (ls : Array Slot), s.heap.size = sz → CallFix p m c cc maxL s As.toArray lw_T y.cls → meth.sig.returnType = ret → meth.locks = false → lv_has ls maxL (lv_args 0 As) →
      W p l e rm s m As.toArray below meth c s.heap [] 0 0 (MQ below Qc As.toArray s 0 0 (fun q => sz ≤ q)) (F0 m 0 ls [])) : Met l y (Cond.code y cc maxL ret :: lw_T) rm (pu_Pc As sz) Qc 0 0 (fun q => sz ≤ q) := by
  refine Met.ofW (cc := cc) (maxL := maxL) (ret := ret) hy rfl ?_
  intro p e s m args below meth c s₁ B hml hv
  obtain ⟨rfl, hsz⟩ := hv
  have hts := atoms_spec (ws := Cond.code y cc maxL ret :: lw_T) B.pre
  have hown : s.vm.findClass y.cls = some m.cls := findClass_of_methodNamed B.named
  have hl := lv_entry As (n := maxL) hlen
  rw [lg_entry_eq]
  exact body p e s m below meth c _ hsz ⟨B.exec, B.bytes, hml, hown, fun w hw => hts w (List.mem_cons_of_mem _ hw)⟩ B.returns B.notSynchronized hl
theorem pu_iret (hC : CallFix p m c cc nL s args lw_T own) (hr : meth.sig.returnType = some .int) (hM : pu_H s H locs) (hlk : meth.locks = false) {post : Int32 → Prop} {v : Int32} (hp : post v) (hdg : decode cc pc = .ok (.ireturn, 1)) : W p l e R s m args below meth c H locs 0 0 (MQ below (pu_Qi post s.heap.size) args s 0 0 (fun q => s.heap.size ≤ q)) (F0 m pc ls [.int v]) :=
  W.iret hC.1 hC.2.1 hr (fun t ht hW => ⟨⟨v, (), rfl, hp, trivial⟩, hM.F ht⟩) hM.2.2 hdg (hlocks := hlk)
theorem pu_zret (hC : CallFix p m c cc nL s args lw_T own) {ty : FieldType} (hr : meth.sig.returnType = some ty) {v : Int32} (hn : narrow ty (.int v) = .int v) (hM : pu_H s H locs) (hlk : meth.locks = false) {post : Int32 → Prop} (hp : post v) (hdg : decode cc pc = .ok (.ireturn, 1)) : W p l e R s m args below meth c H locs 0 0 (MQ below (pu_Qi post s.heap.size) args s 0 0 (fun q => s.heap.size ≤ q)) (F0 m pc ls [.int v]) :=
  W.zret hC.1 hC.2.1 hr hn (fun t ht hW => ⟨⟨v, (), rfl, hp, trivial⟩, hM.F ht⟩) hM.2.2 hdg (hlocks := hlk)
theorem pu_lret (hC : CallFix p m c cc nL s args lw_T own) (hr : meth.sig.returnType = some .long) (hM : pu_H s H locs) (hlk : meth.locks = false) {post : Int64 → Prop} {v : Int64} (hp : post v) (hdg : decode cc pc = .ok (.lreturn, 1)) : W p l e R s m args below meth c H locs 0 0 (MQ below (pu_Ql post s.heap.size) args s 0 0 (fun q => s.heap.size ≤ q)) (F0 m pc ls [.long v]) :=
  W.lret hC.1 hC.2.1 hr (fun t ht hW => ⟨⟨v, (), rfl, hp, trivial⟩, hM.F ht⟩) hM.2.2 hdg (hlocks := hlk)
theorem wm_callPi (hC : CallFix p m c cc nL s args lw_T own) (hK : va_K D classes (wm_ty cA cR) s) (hM : wm_M D ad cA cR s ln wd H locs) {y : MethodName} {bc : ByteArray} {mL index : Nat} {ret : Option FieldType} {rm : Room} {As st0 : List Value} {post : Int32 → Prop} (hMet : Met l y (Cond.code y bc mL ret :: lw_T) rm (pu_Pc As H.size) (pu_Qi post H.size) 0 0 (fun q => H.size ≤ q)) (hcode : Cond.code y bc mL ret ∈ lw_T) (hlink : Cond.methodLink own index y ∈ lw_T) (hini : Cond.initialized y.cls ∈ lw_T) (hstat : Cond.static y ∈ lw_T) (hd : y.cls ≠ "java/lang/invoke/MethodHandle" ∧ y.cls ≠ "java/lang/invoke/VarHandle" ∧ (parseMethodDescriptor y.desc).map (fun d => d.parameters.length) = some As.length) (hrm : rm.cells = 0 ∧ rm.slots = 0) (hR : rm.frames + 1 ≤ R.frames ∧ 8 + (mL + 11) + rm.locals ≤ R.locals) (hst : st0 = As.reverse ++ rest) (hsz : ls.size = nL) (hw : (rest.map fun v => v.category).sum ≤ 8) (hdg : decode cc pc = .ok (.invokestatic index, 3))
    (kk : ∀ (r : Int32) (H1 : Heap) (locs1 : List Loc), post r → wm_M D ad cA cR s ln wd H1 locs1 → W p l e R s m args below meth c H1 locs1 0 0 Q (F0 m (pc + 3) ls (.int r :: rest))) : W p l e R s m args below meth c H locs 0 0 Q (F0 m pc ls st0) := by
  refine va_calli (va_runS (As := As) (rest := rest) hC hMet ⟨callB_of As.length hC.2.2.2.2 (wm_good hcode) rfl hrm.1 hrm.2 (hC.2.2.2.2 _ hini) (hC.2.2.2.2 _ hlink) hd hR, hC.2.2.2.2 _ hstat⟩ ⟨pu_blind _ _, fun U hU hW => ⟨rfl, congrArg Array.size hU⟩⟩ rfl rfl hsz hst (lv_room hw) hdg ⟨Nat.zero_le _, Nat.zero_le _⟩) hM.2.2 (fun q _ h => Or.inr (Nat.le_trans hM.2.2.1 h)) (fun q h => Or.inr (Nat.le_trans hM.2.2.1 h)) (fun r u t H1 locs1 ht hvm hp hB hz hk hS => ?_)
  refine kk r H1 locs1 hp ⟨hM.1.kept (fun k q hq => ?_), hM.2.1, hS⟩
  have hlt : q.1 < H.size := va_at.lt (hM.1 k q hq)
  exact hk q.1 hlt (Nat.not_le.mpr hlt)
theorem wm_callPl (hC : CallFix p m c cc nL s args lw_T own) (hK : va_K D classes (wm_ty cA cR) s) (hM : wm_M D ad cA cR s ln wd H locs) {y : MethodName} {bc : ByteArray} {mL index : Nat} {ret : Option FieldType} {rm : Room} {As st0 : List Value} {post : Int64 → Prop} (hMet : Met l y (Cond.code y bc mL ret :: lw_T) rm (pu_Pc As H.size) (pu_Ql post H.size) 0 0 (fun q => H.size ≤ q)) (hcode : Cond.code y bc mL ret ∈ lw_T) (hlink : Cond.methodLink own index y ∈ lw_T) (hini : Cond.initialized y.cls ∈ lw_T) (hstat : Cond.static y ∈ lw_T) (hd : y.cls ≠ "java/lang/invoke/MethodHandle" ∧ y.cls ≠ "java/lang/invoke/VarHandle" ∧ (parseMethodDescriptor y.desc).map (fun d => d.parameters.length) = some As.length) (hrm : rm.cells = 0 ∧ rm.slots = 0) (hR : rm.frames + 1 ≤ R.frames ∧ 8 + (mL + 11) + rm.locals ≤ R.locals) (hst : st0 = As.reverse ++ rest) (hsz : ls.size = nL) (hw : (rest.map fun v => v.category).sum ≤ 8) (hdg : decode cc pc = .ok (.invokestatic index, 3))
    (kk : ∀ (r : Int64) (H1 : Heap) (locs1 : List Loc), post r → wm_M D ad cA cR s ln wd H1 locs1 → W p l e R s m args below meth c H1 locs1 0 0 Q (F0 m (pc + 3) ls (.long r :: rest))) : W p l e R s m args below meth c H locs 0 0 Q (F0 m pc ls st0) := by
  refine va_calll (va_runS (As := As) (rest := rest) hC hMet ⟨callB_of As.length hC.2.2.2.2 (wm_good hcode) rfl hrm.1 hrm.2 (hC.2.2.2.2 _ hini) (hC.2.2.2.2 _ hlink) hd hR, hC.2.2.2.2 _ hstat⟩ ⟨pu_blind _ _, fun U hU hW => ⟨rfl, congrArg Array.size hU⟩⟩ rfl rfl hsz hst (lv_room hw) hdg ⟨Nat.zero_le _, Nat.zero_le _⟩) hM.2.2 (fun q _ h => Or.inr (Nat.le_trans hM.2.2.1 h)) (fun q h => Or.inr (Nat.le_trans hM.2.2.1 h)) (fun r u t H1 locs1 ht hvm hp hB hz hk hS => ?_)
  refine kk r H1 locs1 hp ⟨hM.1.kept (fun k q hq => ?_), hM.2.1, hS⟩
  have hlt : q.1 < H.size := va_at.lt (hM.1 k q hq)
  exact hk q.1 hlt (Nat.not_le.mpr hlt)
/-- a pure method called by a pure one: pu_H says that the heap is the one at the start -/
theorem pu_calli (hC : CallFix p m c cc nL s args lw_T own) (hM : pu_H s H locs) {y : MethodName} {bc : ByteArray} {mL index : Nat} {ret : Option FieldType} {rm : Room} {As st0 : List Value} {post : Int32 → Prop} (hMet : Met l y (Cond.code y bc mL ret :: lw_T) rm (pu_Pc As H.size) (pu_Qi post H.size) 0 0 (fun q => H.size ≤ q)) (hcode : Cond.code y bc mL ret ∈ lw_T) (hlink : Cond.methodLink own index y ∈ lw_T) (hini : Cond.initialized y.cls ∈ lw_T) (hstat : Cond.static y ∈ lw_T) (hd : y.cls ≠ "java/lang/invoke/MethodHandle" ∧ y.cls ≠ "java/lang/invoke/VarHandle" ∧ (parseMethodDescriptor y.desc).map (fun d => d.parameters.length) = some As.length) (hrm : rm.cells = 0 ∧ rm.slots = 0) (hR : rm.frames + 1 ≤ R.frames ∧ 8 + (mL + 11) + rm.locals ≤ R.locals) (hst : st0 = As.reverse ++ rest) (hsz : ls.size = nL) (hw : (rest.map fun v => v.category).sum ≤ 8) (hdg : decode cc pc = .ok (.invokestatic index, 3))
    (kk : ∀ (r : Int32) (H1 : Heap) (locs1 : List Loc), post r → pu_H s H1 locs1 → W p l e R s m args below meth c H1 locs1 0 0 Q (F0 m (pc + 3) ls (.int r :: rest))) : W p l e R s m args below meth c H locs 0 0 Q (F0 m pc ls st0) := by
  refine va_calli (va_runS (As := As) (rest := rest) hC hMet ⟨callB_of As.length hC.2.2.2.2 (wm_good hcode) rfl hrm.1 hrm.2 (hC.2.2.2.2 _ hini) (hC.2.2.2.2 _ hlink) hd hR, hC.2.2.2.2 _ hstat⟩ ⟨pu_blind _ _, fun U hU hW => ⟨rfl, congrArg Array.size hU⟩⟩ rfl rfl hsz hst (lv_room hw) hdg ⟨Nat.zero_le _, Nat.zero_le _⟩) hM (fun q _ h => Nat.le_trans hM.1 h) (fun q h => Nat.le_trans hM.1 h) (fun r u t H1 locs1 ht hvm hp hB hz hk hS => ?_)
  exact kk r H1 locs1 hp hS
/-- a pure method called by a pure one: pu_H says that the heap is the one at the start -/
theorem pu_calll (hC : CallFix p m c cc nL s args lw_T own) (hM : pu_H s H locs) {y : MethodName} {bc : ByteArray} {mL index : Nat} {ret : Option FieldType} {rm : Room} {As st0 : List Value} {post : Int64 → Prop} (hMet : Met l y (Cond.code y bc mL ret :: lw_T) rm (pu_Pc As H.size) (pu_Ql post H.size) 0 0 (fun q => H.size ≤ q)) (hcode : Cond.code y bc mL ret ∈ lw_T) (hlink : Cond.methodLink own index y ∈ lw_T) (hini : Cond.initialized y.cls ∈ lw_T) (hstat : Cond.static y ∈ lw_T) (hd : y.cls ≠ "java/lang/invoke/MethodHandle" ∧ y.cls ≠ "java/lang/invoke/VarHandle" ∧ (parseMethodDescriptor y.desc).map (fun d => d.parameters.length) = some As.length) (hrm : rm.cells = 0 ∧ rm.slots = 0) (hR : rm.frames + 1 ≤ R.frames ∧ 8 + (mL + 11) + rm.locals ≤ R.locals) (hst : st0 = As.reverse ++ rest) (hsz : ls.size = nL) (hw : (rest.map fun v => v.category).sum ≤ 8) (hdg : decode cc pc = .ok (.invokestatic index, 3))
    (kk : ∀ (r : Int64) (H1 : Heap) (locs1 : List Loc), post r → pu_H s H1 locs1 → W p l e R s m args below meth c H1 locs1 0 0 Q (F0 m (pc + 3) ls (.long r :: rest))) : W p l e R s m args below meth c H locs 0 0 Q (F0 m pc ls st0) := by
  refine va_calll (va_runS (As := As) (rest := rest) hC hMet ⟨callB_of As.length hC.2.2.2.2 (wm_good hcode) rfl hrm.1 hrm.2 (hC.2.2.2.2 _ hini) (hC.2.2.2.2 _ hlink) hd hR, hC.2.2.2.2 _ hstat⟩ ⟨pu_blind _ _, fun U hU hW => ⟨rfl, congrArg Array.size hU⟩⟩ rfl rfl hsz hst (lv_room hw) hdg ⟨Nat.zero_le _, Nat.zero_le _⟩) hM (fun q _ h => Nat.le_trans hM.1 h) (fun q h => Nat.le_trans hM.1 h) (fun r u t H1 locs1 ht hvm hp hB hz hk hS => ?_)
  exact kk r H1 locs1 hp hS
end PuRows
end
section
-- the words of Math as the kit names them
theorem kj_s_max : Cond.static Lib.Math.max.name ∈ lw_T := lw_T_of (List.mem_append_right _ (List.mem_of_getElem? (i := 86) (by decide +kernel))) rfl
theorem kj_c_max : Cond.code Lib.Math.max.name Lib.Math.max.code 2 (some .int) ∈ lw_T := lw_T_of (List.mem_append_right _ (List.mem_of_getElem? (i := 87) (by decide +kernel))) rfl
theorem kj_s_min : Cond.static Lib.Math.min.name ∈ lw_T := lw_T_of (List.mem_append_right _ (List.mem_of_getElem? (i := 235) (by decide +kernel))) rfl
theorem kj_c_min : Cond.code Lib.Math.min.name Lib.Math.min.code 2 (some .int) ∈ lw_T := lw_T_of (List.mem_append_right _ (List.mem_of_getElem? (i := 236) (by decide +kernel))) rfl
theorem kj_s_abs : Cond.static Lib.Math.abs.name ∈ lw_T := lw_T_of (List.mem_append_right _ (List.mem_of_getElem? (i := 227) (by decide +kernel))) rfl
theorem kj_c_abs : Cond.code Lib.Math.abs.name Lib.Math.abs.code 1 (some .int) ∈ lw_T := lw_T_of (List.mem_append_right _ (List.mem_of_getElem? (i := 228) (by decide +kernel))) rfl
theorem kj_s_minL : Cond.static Lib.MathLoose.min_long.x ∈ lw_T := lw_T_of (List.mem_append_right _ (List.mem_of_getElem? (i := 163) (by decide +kernel))) rfl
theorem kj_c_minL : Cond.code Lib.MathLoose.min_long.x Lib.MathLoose.min_long.code 4 (some .long) ∈ lw_T := lw_T_of (List.mem_append_right _ (List.mem_of_getElem? (i := 164) (by decide +kernel))) rfl
theorem kj_Div_15 : Cond.methodLink R_Div 15 Lib.Math.max.name ∈ lw_T := lw_T_of (List.mem_append_right _ (List.mem_of_getElem? (i := 152) (by decide +kernel))) rfl
theorem kj_Mill_95 : Cond.methodLink R_Mill 95 Lib.Math.min.name ∈ lw_T := lw_T_of (List.mem_append_right _ (List.mem_of_getElem? (i := 234) (by decide +kernel))) rfl
theorem kj_Mill_86 : Cond.methodLink R_Mill 86 Lib.Math.abs.name ∈ lw_T := lw_T_of (List.mem_append_right _ (List.mem_of_getElem? (i := 226) (by decide +kernel))) rfl
theorem kj_Rows_11 : Cond.methodLink R_Rows 11 Lib.MathLoose.min_long.x ∈ lw_T := lw_T_of (List.mem_append_right _ (List.mem_of_getElem? (i := 162) (by decide +kernel))) rfl
theorem kj_Whole_29 : Cond.methodLink R_Whole 29 Lib.Math.max.name ∈ lw_T := lw_T_of (List.mem_append_right _ (List.mem_of_getElem? (i := 85) (by decide +kernel))) rfl
section LibRows
variable {p : Program} {l : Launch} {e : Env} {R : Room} {s : State} {m : MethodId} {args : Array Value} {below : List Frame} {meth : Method} {c : Code} {H : Heap} {locs : List Loc} {cells slots : Nat} {Q : State → Prop} {cc : ByteArray} {pc : Nat} {ls : Array Slot} {rest : List Value} {own : String} {nL : Nat}
theorem nv_mminL (hC : CallFix p m c cc nL s args lw_T own) (hsz : ls.size = nL) {index : Nat} (hlink : Cond.methodLink own index Lib.MathLoose.min_long.x ∈ lw_T) (hstat : Cond.static Lib.MathLoose.min_long.x ∈ lw_T) (hini : Cond.initialized "java/lang/Math" ∈ lw_T) (hcode : Cond.code Lib.MathLoose.min_long.x Lib.MathLoose.min_long.code 4 (some .long) ∈ lw_T) (hfr : 1 ≤ R.frames) (hlo : (rest.map fun v => v.category).sum + 15 ≤ R.locals) {x y : Nat} (hx : x < 2 ^ 63) (hy : y < 2 ^ 63) (hdg : decode cc pc = .ok (.invokestatic index, 3))
    (kk : W p l e R s m args below meth c H locs 0 0 Q (F0 m (pc + 3) ls (.long (lN (min x y)) :: rest))) : W p l e R s m args below meth c H locs 0 0 Q (F0 m pc ls (.long (lN y) :: .long (lN x) :: rest)) := by
  refine va_mmin_long hC.1 hC.2.1 (by rw [hC.2.2.1, hsz]) hC.2.2.2.1 (hC.2.2.2.2 _ hlink) (hC.2.2.2.2 _ hstat) (hC.2.2.2.2 _ hini) (hC.2.2.2.2 _ hcode) hfr hlo (Nat.zero_le _) (Nat.zero_le _) hdg ?_
  have e : (if lN y < lN x then lN y else lN x) = lN (min x y) := by
    by_cases h : y < x
    · rw [if_pos ((pk_lLT hy hx).mpr h), Nat.min_eq_right (Nat.le_of_lt h)]
    · rw [if_neg (fun z => h ((pk_lLT hy hx).mp z)), Nat.min_eq_left (Nat.le_of_not_lt h)]
  rw [e]
  exact kk
end LibRows
end
section
section WmRows2
variable {p : Program} {l : Launch} {e : Env} {R : Room} {s : State} {m : MethodId} {args : Array Value} {below : List Frame} {meth : Method} {c : Code} {H : Heap} {locs : List Loc} {cells slots : Nat} {Q : State → Prop} {cc : ByteArray} {pc : Nat} {ls : Array Slot} {rest : List Value} {own : String} {nL : Nat}
  {D : va_G} {ad : Nat → Nat} {cA cR : ClassId} {ln : Nat → Nat} {wd : Nat → Nat → Int32} {i : Nat} {f : Nat → Int32}
/-- rows where only row i has changed, to f -/
theorem wm_ald_s (hC : CallFix p m c cc nL s args lw_T own) (hK : va_K D classes (wm_ty cA cR) s) (hM : wm_M D ad cA cR s ln (va_up wd i f) H locs) {k : Nat} (hi : i < 19) (hk : k < 2050) (hdg : decode cc pc = .ok (.iaload, 1)) (kk : W p l e R s m args below meth c H locs cells slots Q (F0 m (pc + 1) ls (.int (f k) :: rest))) : W p l e R s m args below meth c H locs cells slots Q (F0 m pc ls (.int (nI k) :: .ref (ad (19 + i)) :: rest)) :=
  wm_ald hC hK hM hi hk hdg (by rw [va_up_self]; exact kk)
theorem wm_ald_o (hC : CallFix p m c cc nL s args lw_T own) (hK : va_K D classes (wm_ty cA cR) s) (hM : wm_M D ad cA cR s ln (va_up wd i f) H locs) {j k : Nat} (hj : j < 19) (hji : j ≠ i) (hk : k < 2050) (hdg : decode cc pc = .ok (.iaload, 1)) (kk : W p l e R s m args below meth c H locs cells slots Q (F0 m (pc + 1) ls (.int (wd j k) :: rest))) : W p l e R s m args below meth c H locs cells slots Q (F0 m pc ls (.int (nI k) :: .ref (ad (19 + j)) :: rest)) :=
  wm_ald hC hK hM hj hk hdg (by rw [va_up_ne _ _ hji]; exact kk)
theorem wm_ast_s (hC : CallFix p m c cc nL s args lw_T own) (hK : va_K D classes (wm_ty cA cR) s) (hM : wm_M D ad cA cR s ln (va_up wd i f) H locs) {k : Nat} {x : Int32} (hi : i < 19) (hk : k < 2050) (hdg : decode cc pc = .ok (.iastore, 1)) (kk : ∀ (H1 : Heap) (locs1 : List Loc), wm_M D ad cA cR s ln (va_up wd i (upd f k x)) H1 locs1 → W p l e R s m args below meth c H1 locs1 cells slots Q (F0 m (pc + 1) ls rest)) : W p l e R s m args below meth c H locs cells slots Q (F0 m pc ls (.int x :: .int (nI k) :: .ref (ad (19 + i)) :: rest)) :=
  wm_ast hC hK hM hi hk hdg (fun H1 locs1 h => kk H1 locs1 (by rw [va_up_self, wm_uu] at h; exact h))
/-- a lower part beside a higher one -/
theorem nv_por (hC : CallFix p m c cc nL s args lw_T own) {a b k : Nat} (ha : a < 2 ^ k) (h : a + b * 2 ^ k < 2 ^ 64) (hdg : decode cc pc = .ok (.lor, 1)) (kk : W p l e R s m args below meth c H locs cells slots Q (F0 m (pc + 1) ls (.long (lN (a + b * 2 ^ k)) :: rest))) : W p l e R s m args below meth c H locs cells slots Q (F0 m pc ls (.long (lN (b * 2 ^ k)) :: .long (lN a) :: rest)) :=
  lv_lor hC.1 hC.2.1 hdg (by rw [g_or' (k := k) rfl ha h]; exact kk)
end WmRows2
theorem nv_max0 {a b : Nat} (ha : a < 2 ^ 30) (hb : b < 2 ^ 30) : (if nI 0 < nI a - nI b then nI a - nI b else nI 0) = nI (a - b) := by
  rcases Nat.le_total b a with h | h
  · rw [pk_sub h]
    rcases Nat.eq_zero_or_pos (a - b) with z | z
    · rw [z, if_neg (by decide)]
    · rw [if_pos ((nI_ltI (by decide) (by omega)).mpr z)]
  · rcases Nat.eq_or_lt_of_le h with z | z
    · subst z
      rw [pk_sub (Nat.le_refl _), Nat.sub_self, if_neg (by decide)]
    · have h1 := pk_sneg hb z
      rw [if_neg (fun y : nI 0 < nI a - nI b => Int32.lt_irrefl (Int32.lt_trans y h1)), Nat.sub_eq_zero_of_le h]
theorem wm_off_upd' (f : Nat → Int32) (a k : Nat) (x : Int32) : wm_off (upd f (k + a) x) a = upd (wm_off f a) k x := by
  rw [Nat.add_comm k a]
  exact wm_off_upd f a k x
/-- the order of two numbers -/
def wm_ord (N M : Nat) : Int32 := if N < M then -1 else if N = M then 0 else 1
theorem wm_ord_lt {N M : Nat} (h : N < M) : wm_ord N M = -1 := if_pos h
theorem wm_ord_gt {N M : Nat} (h : M < N) : wm_ord N M = 1 := by
  unfold wm_ord
  rw [if_neg (by omega), if_neg (by omega)]
theorem wm_ord_eq {N M : Nat} (h : N = M) : wm_ord N M = 0 := by
  unfold wm_ord
  rw [if_neg (by omega), if_pos h]
/-- words below k are 0: the number begins there -/
theorem wm_v_lead {f : Nat → Int32} {w n : Nat} (h : ∀ j, j < w → f j = 0) : wm_v f (w + n) = 4294967296 ^ w * wm_v (wm_off f w) n := by
  have e : wm_v f w = 0 := by
    have := wm_v_z (f := f) (m := 0) w (fun k _ h2 => h k (by omega))
    rw [Nat.zero_add] at this
    exact this
  rw [wm_v_off, e, Nat.zero_add]
theorem wm_cnt (n : Nat) : 4294967296 ^ (n / 2 ^ 5) * 2 ^ (n % 2 ^ 5) = 2 ^ n := by
  rw [wm_p32, ← Nat.pow_add]
  congr 1
  omega
/-- a word of a number that is shifted right -/
theorem wm_shr_dig {N w o j : Nat} (ho : o < 32) : N / (4294967296 ^ w * 2 ^ o) / 4294967296 ^ j % 4294967296 = (N / 4294967296 ^ (j + w + 1) % 4294967296 * 4294967296 + N / 4294967296 ^ (j + w) % 4294967296) / 2 ^ o % 4294967296 := by
  have e1 : N / (4294967296 ^ w * 2 ^ o) / 4294967296 ^ j = N / 4294967296 ^ (j + w) / 2 ^ o := by
    rw [Nat.div_div_eq_div_mul, Nat.div_div_eq_div_mul, Nat.pow_add]
    congr 1
    rw [Nat.mul_comm (4294967296 ^ j), Nat.mul_assoc, Nat.mul_assoc, Nat.mul_comm (2 ^ o)]
  have e2 : N / 4294967296 ^ (j + w + 1) = N / 4294967296 ^ (j + w) / 4294967296 := by
    rw [Nat.div_div_eq_div_mul, Nat.pow_succ]
  rw [e1, e2]
  generalize N / 4294967296 ^ (j + w) = X
  have e3 : X / 4294967296 % 4294967296 * 4294967296 + X % 4294967296 = X % 18446744073709551616 := by omega
  rw [e3]
  have hp : 0 < 2 ^ o := Nat.pow_pos (by decide)
  have e4 : (18446744073709551616 : Nat) = 2 ^ o * (2 ^ (32 - o) * 4294967296) := by
    rw [← Nat.mul_assoc, ← Nat.pow_add, show o + (32 - o) = 32 by omega]
  have e5 := Nat.mod_add_div X 18446744073709551616
  have e6 : X / 2 ^ o = X % 18446744073709551616 / 2 ^ o + 2 ^ (32 - o) * 4294967296 * (X / 18446744073709551616) := by
    have e7 : X = X % 18446744073709551616 + 2 ^ o * (2 ^ (32 - o) * 4294967296 * (X / 18446744073709551616)) := by
      rw [← Nat.mul_assoc (2 ^ o), ← e4]
      exact e5.symm
    have e8 := Nat.add_mul_div_left (X % 18446744073709551616) (2 ^ (32 - o) * 4294967296 * (X / 18446744073709551616)) hp
    rw [← e7] at e8
    exact e8
  rw [e6, Nat.mul_comm (2 ^ (32 - o)), Nat.mul_assoc, Nat.add_mul_mod_self_left]
theorem wm_shr_lt {N n w o : Nat} (h : N < 4294967296 ^ n) : N / (4294967296 ^ w * 2 ^ o) < 4294967296 ^ (n - w) := by
  have h1 : N / (4294967296 ^ w * 2 ^ o) ≤ N / 4294967296 ^ w := by
    rw [← Nat.div_div_eq_div_mul]
    exact Nat.div_le_self _ _
  rcases Nat.le_total w n with z | z
  · have h2 : N / 4294967296 ^ w < 4294967296 ^ (n - w) := by
      rw [Nat.div_lt_iff_lt_mul (wm_pp w), ← Nat.pow_add, Nat.sub_add_cancel z]
      exact h
    omega
  · have h2 : 4294967296 ^ n ≤ 4294967296 ^ w := Nat.pow_le_pow_right (by decide) z
    rw [Nat.div_eq_of_lt (show N < 4294967296 ^ w by omega)] at h1
    have := wm_pp (n - w)
    omega
/-- pairs of words, one beside the other -/
def wm_pr (p : Nat) : Nat → Nat
  | 0 => 0
  | n + 1 => wm_pr p n + p * 4294967296 ^ (2 * n)
theorem wm_pr_s (p n : Nat) : wm_pr p (n + 1) = wm_pr p n + p * 4294967296 ^ (2 * n) := rfl
theorem wm_v_pair (f : Nat → Int32) (n : Nat) : wm_v f (n + 1 + 1) = wm_v f n + (wm_u (f n) + wm_u (f (n + 1)) * 4294967296) * 4294967296 ^ n := by
  rw [wm_v_s, wm_v_s, Nat.pow_succ, Nat.add_mul, Nat.mul_comm (4294967296 ^ n), ← Nat.mul_assoc, Nat.add_assoc]
theorem wm_c64 {p : Nat} (h : p < 2 ^ 64) : wm_u (nI p) + wm_u (nI (p / 4294967296)) * 4294967296 = p := by
  rw [wm_un, wm_un]
  omega
/-- a row that is read from place k on, while row i has been written below it only -/
theorem wm_rdge {wd : Nat → Nat → Int32} {i a k j : Nat} {f : Nat → Int32} (hf : ∀ j, k ≤ j → f j = wd i j) (hj : k ≤ j) : va_up wd i f a j = wd a j := by
  by_cases e : a = i
  · subst e
    rw [va_up_self]
    exact hf j hj
  · rw [va_up_ne _ _ e]
end
section
set_option maxHeartbeats 4000000 in
set_option maxRecDepth 100000 in
theorem lp_Whole_settle_1 {p : Program} {l : Launch} {e : Env} {R : Room} {s : State} {m : MethodId} {args : Array Value} {below : List Frame} {meth : Method} {c : Code} {Q : State → Prop} {D : va_G} {ad : Nat → Nat} {cA cR : ClassId} (hC : CallFix p m c b_Whole_settle 3 s args lw_T R_Whole) (hK : va_K D classes (wm_ty cA cR) s) (ln : Nat → Nat) (wd : Nat → Nat → Int32) (i count : Nat) (hi : i < 19) (hlen : ln i ≤ 2050) (hcnt : count ≤ 2050)
    (hex : ∀ (k : Nat), ∀ (H : Heap) (locs : List Loc) (ls : Array Slot), wm_M D ad cA cR s (ln) (va_up wd i (wm_clr (wd i) count (max count (ln i)))) H locs → lv_has ls 3 [(0, .ref (ad i)), (1, .int (nI (count))), (2, .int (nI (k)))] → W p l e R s m args below meth c H locs 0 0 Q (F0 m 23 ls [])) :
    ∀ (n : Nat) (k : Nat), (count ≤ k) → (k ≤ max count (ln i)) → max count (ln i) + 1 ≤ k + n → ∀ (H : Heap) (locs : List Loc) (ls : Array Slot), wm_M D ad cA cR s (ln) (va_up wd i (wm_clr (wd i) count k)) H locs → lv_has ls 3 [(0, .ref (ad i)), (1, .int (nI (count))), (2, .int (nI (k)))] → W p l e R s m args below meth c H locs 0 0 Q (F0 m 2 ls []) := by
  intro n
  induction n with
  | zero =>
    intro k hk hk2 hn
    exact absurd hn (by omega)
  | succ n ih =>
    intro k hk hk2 hn H locs ls hM hl
    refine lv_iload_n hC.1 hC.2.1 d_Whole_settle_2 rfl (lv_at hl 2 rfl) ?_
    refine lv_aload_n hC.1 hC.2.1 d_Whole_settle_3 rfl (lv_at hl 0 rfl) ?_
    refine wm_len hC hK hM (j := i) hi kf_Whole_15 d_Whole_settle_4 ?_
    refine nv_icmp_ge (tgt := 23) hC (by omega) (by omega) d_Whole_settle_7 (by decide) (fun hc => ?_) (fun hc => ?_)
    · have hM : wm_M D ad cA cR s (ln) (va_up wd i (wm_clr (wd i) count (max count (ln i)))) H locs := by
        rw [show max count (ln i) = k by omega]; exact hM
      exact hex k H locs ls hM (lv_sub hl [0, 1, 2] rfl)
    · refine lv_aload_n hC.1 hC.2.1 d_Whole_settle_10 rfl (lv_at hl 0 rfl) ?_
      refine wm_wds hC hK hM (j := i) hi kf_Whole_9 d_Whole_settle_11 ?_
      refine lv_iload_n hC.1 hC.2.1 d_Whole_settle_14 rfl (lv_at hl 2 rfl) ?_
      refine lv_iconst (v := nI 0) hC.1 hC.2.1 d_Whole_settle_15 (by decide) ?_
      refine wm_ast hC hK hM (j := i) (k := k) hi (by omega) d_Whole_settle_16 (fun H locs hM => ?_)
      have hM : wm_M D ad cA cR s (ln) (va_up wd i (wm_clr (wd i) count (k + 1))) H locs := by
        rw [← wm_clr_s (by omega), ← wm_uu wd i (wm_clr (wd i) count k)]; rw [va_up_self] at hM; exact hM
      refine lv_iinc (v := nI (k + 1)) (lv' := [(2, .int (nI (k + 1))), (0, .ref (ad i)), (1, .int (nI (count)))]) hC.1 hC.2.1 d_Whole_settle_17 hl (k := 2) rfl (nv_inc _) (by decide) rfl (fun ls hl => ?_)
      refine lv_goto (tgt := 2) hC.1 hC.2.1 d_Whole_settle_20 (by decide) ?_
      exact ih (k + 1) (by omega) (by omega) (by omega) H locs ls hM (lv_sub hl [1, 2, 0] rfl)
set_option maxHeartbeats 4000000 in
set_option maxRecDepth 100000 in
theorem lp_Whole_settle_2 {p : Program} {l : Launch} {e : Env} {R : Room} {s : State} {m : MethodId} {args : Array Value} {below : List Frame} {meth : Method} {c : Code} {Q : State → Prop} {D : va_G} {ad : Nat → Nat} {cA cR : ClassId} (hC : CallFix p m c b_Whole_settle 3 s args lw_T R_Whole) (hK : va_K D classes (wm_ty cA cR) s) (ln : Nat → Nat) (wd : Nat → Nat → Int32) (i count kk : Nat) (hi : i < 19)
    (hex : ∀ (H : Heap) (locs : List Loc) (ls : Array Slot), wm_M D ad cA cR s (va_up ln i (wm_top (wd i) count)) (wd) H locs → lv_has ls 3 [(0, .ref (ad i)), (1, .int (nI (count))), (2, .int (nI (kk)))] → W p l e R s m args below meth c H locs 0 0 Q (F0 m 62 ls [])) :
    ∀ (n : Nat) (k : Nat), (k ≤ 2050) → (wm_top (wd i) count = wm_top (wd i) k) → k + 1 ≤ n → ∀ (H : Heap) (locs : List Loc) (ls : Array Slot), wm_M D ad cA cR s (va_up ln i k) (wd) H locs → lv_has ls 3 [(0, .ref (ad i)), (1, .int (nI (count))), (2, .int (nI (kk)))] → W p l e R s m args below meth c H locs 0 0 Q (F0 m 28 ls []) := by
  intro n
  induction n with
  | zero =>
    intro k hk ht hn
    exact absurd hn (by omega)
  | succ n ih =>
    intro k hk ht hn H locs ls hM hl
    refine lv_aload_n hC.1 hC.2.1 d_Whole_settle_28 rfl (lv_at hl 0 rfl) ?_
    refine wm_len hC hK hM (j := i) hi kf_Whole_15 d_Whole_settle_29 ?_
    refine nv_top (y := nI (k)) (by rw [va_up_self]) ?_
    refine nv_if_le (tgt := 62) hC (by omega) d_Whole_settle_32 (by decide) (fun hc => ?_) (fun hc => ?_)
    · have hM : wm_M D ad cA cR s (va_up ln i (wm_top (wd i) count)) (wd) H locs := by
        rw [ht, hc, wm_top_0]; rw [hc] at hM; exact hM
      exact hex H locs ls hM hl
    · obtain ⟨j, rfl⟩ : ∃ j, k = j + 1 := ⟨k - 1, by omega⟩
      refine lv_aload_n hC.1 hC.2.1 d_Whole_settle_35 rfl (lv_at hl 0 rfl) ?_
      refine wm_wds hC hK hM (j := i) hi kf_Whole_9 d_Whole_settle_36 ?_
      refine lv_aload_n hC.1 hC.2.1 d_Whole_settle_39 rfl (lv_at hl 0 rfl) ?_
      refine wm_len hC hK hM (j := i) hi kf_Whole_15 d_Whole_settle_40 ?_
      refine nv_top (y := nI (j + 1)) (by rw [va_up_self]) ?_
      refine lv_iconst (v := nI 1) hC.1 hC.2.1 d_Whole_settle_43 (by decide) ?_
      refine nv_isub hC (by omega) d_Whole_settle_44 ?_
      refine wm_ald hC hK hM (j := i) (k := j) hi (by omega) d_Whole_settle_45 ?_
      refine lv_if_ne (tgt := 62) hC.1 hC.2.1 d_Whole_settle_46 (by decide) (fun hz => ?_) (fun hz => ?_)
      · have hM : wm_M D ad cA cR s (va_up ln i (wm_top (wd i) count)) (wd) H locs := by
          rw [ht, wm_top_n hz]; exact hM
        exact hex H locs ls hM hl
      · refine lv_aload_n hC.1 hC.2.1 d_Whole_settle_49 rfl (lv_at hl 0 rfl) ?_
        refine lv_dup hC.1 hC.2.1 d_Whole_settle_50 rfl ?_
        refine wm_len hC hK hM (j := i) hi kf_Whole_15 d_Whole_settle_51 ?_
        refine nv_top (y := nI (j + 1)) (by rw [va_up_self]) ?_
        refine lv_iconst (v := nI 1) hC.1 hC.2.1 d_Whole_settle_54 (by decide) ?_
        refine nv_isub hC (by omega) d_Whole_settle_55 ?_
        refine wm_putlen hC hK hM (j := i) hi kf_Whole_15 d_Whole_settle_56 (fun H locs hM => ?_)
        have hM : wm_M D ad cA cR s (va_up ln i j) (wd) H locs := by
          rw [wm_uu] at hM; exact hM
        refine lv_goto (tgt := 28) hC.1 hC.2.1 d_Whole_settle_59 (by decide) ?_
        exact ih j (by omega) (by rw [ht, wm_top_z hz]) (by omega) H locs ls hM hl
set_option maxHeartbeats 4000000 in
set_option maxRecDepth 100000 in
theorem c_Whole_settle (l : Launch) (D : va_G) (ad : Nat → Nat) (cA cR : ClassId) (sz : Nat) (ln : Nat → Nat) (wd : Nat → Nat → Int32) (i count : Nat) (hi : i < 19) (hlen : ln i ≤ 2050) (hcnt : count ≤ 2050) : Met l y_Whole_settle (Cond.code y_Whole_settle b_Whole_settle 3 none :: lw_T) ({ frames := 0, cells := 0, slots := 0, locals := 0 }) (va_Pc [.ref (ad i), .int (nI (count))] (wm_B D ad cA cR sz ln wd)) (va_Qv (fun u : wm_St => u = (va_up ln i (wm_top (wd i) count), va_up wd i (wm_clr (wd i) count (ln i)))) (wm_E D ad cA cR sz) (wm_A ad sz)) 0 0 (wm_A ad sz) := by
  refine wm_met l (by decide) (Nat.le_of_ble_eq_true rfl) ?_
  intro p e s m below meth c ls hsz hC hK hr hlk hM hl
  subst hsz
  have hC : CallFix p m c b_Whole_settle 3 s _ lw_T R_Whole := hC
  have hl : lv_has ls 3 [(0, .ref (ad i)), (1, .int (nI (count)))] := hl
  refine lv_iload_n hC.1 hC.2.1 d_Whole_settle_0 rfl (lv_at hl 1 rfl) ?_
  refine lv_istore_n (lv' := [(2, .int (nI (count))), (0, .ref (ad i)), (1, .int (nI (count)))]) hC.1 hC.2.1 d_Whole_settle_1 rfl hl (by decide) rfl (fun ls hl => ?_)
  have hM : wm_M D ad cA cR s (ln) (va_up wd i (wm_clr (wd i) count count)) s.heap [] := by
    rw [wm_clr_e (Nat.le_refl _), wm_eta]; exact hM
  refine lp_Whole_settle_1 hC hK ln wd i count hi hlen hcnt (fun k H locs ls hM hl => ?_) (max count (ln i) + 1 - count) count (Nat.le_refl _) (by omega) (by omega) _ _ _ hM (lv_sub hl [1, 2, 0] rfl)
  have hM : wm_M D ad cA cR s (ln) (va_up wd i (wm_clr (wd i) count (ln i))) H locs := by
    rw [wm_clr_max] at hM; exact hM
  refine lv_aload_n hC.1 hC.2.1 d_Whole_settle_23 rfl (lv_at hl 0 rfl) ?_
  refine lv_iload_n hC.1 hC.2.1 d_Whole_settle_24 rfl (lv_at hl 1 rfl) ?_
  refine wm_putlen hC hK hM (j := i) hi kf_Whole_15 d_Whole_settle_25 (fun H locs hM => ?_)
  refine lp_Whole_settle_2 hC hK ln (va_up wd i (wm_clr (wd i) count (ln i))) i count k hi (fun H locs ls hM hl => ?_) (count + 1) count hcnt rfl (Nat.le_refl _) _ _ _ hM hl
  refine wm_vret hC hK hM hr hlk ?_ d_Whole_settle_62
  rw [va_up_self, wm_top_congr (g := wd i) (fun k hk => wm_clr_lo hk)]
end
section
set_option maxHeartbeats 4000000 in
set_option maxRecDepth 100000 in
theorem c_Mill_isRegister (l : Launch) (sz : Nat) (x : Int32) : Met l y_Mill_isRegister (Cond.code y_Mill_isRegister b_Mill_isRegister 1 (some .boolean) :: lw_T) ({ frames := 0, cells := 0, slots := 0, locals := 0 }) (pu_Pc [.int (x)] sz) (pu_Qi (fun r => (∃ j : Nat, j < 16 ∧ x = nI j ∧ r = nI 1) ∨ ((x < 0 ∨ nI 16 ≤ x) ∧ r = nI 0)) sz) 0 0 (fun q => sz ≤ q) := by
  refine pu_met l (by decide) (Nat.le_of_ble_eq_true rfl) ?_
  intro p e s m below meth c ls hsz hC hr hlk hl
  subst hsz
  have hM : pu_H s s.heap [] := va_S.rf
  have hC : CallFix p m c b_Mill_isRegister 1 s _ lw_T R_Mill := hC
  have hl : lv_has ls 1 [(0, .int (x))] := hl
  refine lv_iload_n hC.1 hC.2.1 d_Mill_isRegister_0 rfl (lv_at hl 0 rfl) ?_
  refine lv_if_lt (tgt := 14) hC.1 hC.2.1 d_Mill_isRegister_1 (by decide) (fun h1 => ?_) (fun h1 => ?_)
  · refine lv_iconst (v := nI 0) hC.1 hC.2.1 d_Mill_isRegister_14 (by decide) ?_
    exact pu_zret hC hr rfl hM hlk (Or.inr ⟨Or.inl h1, rfl⟩) d_Mill_isRegister_15
  · refine lv_iload_n hC.1 hC.2.1 d_Mill_isRegister_4 rfl (lv_at hl 0 rfl) ?_
    refine lv_bipush (v := nI 16) hC.1 hC.2.1 d_Mill_isRegister_5 (by decide) ?_
    refine lv_icmp_ge (tgt := 14) hC.1 hC.2.1 d_Mill_isRegister_7 (by decide) (fun h2 => ?_) (fun h2 => ?_)
    · refine lv_iconst (v := nI 0) hC.1 hC.2.1 d_Mill_isRegister_14 (by decide) ?_
      exact pu_zret hC hr rfl hM hlk (Or.inr ⟨Or.inr h2, rfl⟩) d_Mill_isRegister_15
    · refine lv_iconst (v := nI 1) hC.1 hC.2.1 d_Mill_isRegister_10 (by decide) ?_
      refine lv_goto (tgt := 15) hC.1 hC.2.1 d_Mill_isRegister_11 (by decide) ?_
      obtain ⟨j, hj, rfl⟩ := nI_of h1
      exact pu_zret hC hr rfl hM hlk (Or.inl ⟨j, (nI_ltI hj (by decide)).mp (Int32.not_le.mp h2), rfl, rfl⟩) d_Mill_isRegister_15
set_option maxHeartbeats 4000000 in
set_option maxRecDepth 100000 in
theorem c_Mod_isRegister (l : Launch) (sz : Nat) (x : Int32) : Met l y_Mod_isRegister (Cond.code y_Mod_isRegister b_Mod_isRegister 1 (some .boolean) :: lw_T) ({ frames := 0, cells := 0, slots := 0, locals := 0 }) (pu_Pc [.int (x)] sz) (pu_Qi (fun r => (∃ j : Nat, j < 16 ∧ x = nI j ∧ r = nI 1) ∨ ((x < 0 ∨ nI 16 ≤ x) ∧ r = nI 0)) sz) 0 0 (fun q => sz ≤ q) := by
  refine pu_met l (by decide) (Nat.le_of_ble_eq_true rfl) ?_
  intro p e s m below meth c ls hsz hC hr hlk hl
  subst hsz
  have hM : pu_H s s.heap [] := va_S.rf
  have hC : CallFix p m c b_Mod_isRegister 1 s _ lw_T R_Mod := hC
  have hl : lv_has ls 1 [(0, .int (x))] := hl
  refine lv_iload_n hC.1 hC.2.1 d_Mod_isRegister_0 rfl (lv_at hl 0 rfl) ?_
  refine lv_if_lt (tgt := 14) hC.1 hC.2.1 d_Mod_isRegister_1 (by decide) (fun h1 => ?_) (fun h1 => ?_)
  · refine lv_iconst (v := nI 0) hC.1 hC.2.1 d_Mod_isRegister_14 (by decide) ?_
    exact pu_zret hC hr rfl hM hlk (Or.inr ⟨Or.inl h1, rfl⟩) d_Mod_isRegister_15
  · refine lv_iload_n hC.1 hC.2.1 d_Mod_isRegister_4 rfl (lv_at hl 0 rfl) ?_
    refine lv_bipush (v := nI 16) hC.1 hC.2.1 d_Mod_isRegister_5 (by decide) ?_
    refine lv_icmp_ge (tgt := 14) hC.1 hC.2.1 d_Mod_isRegister_7 (by decide) (fun h2 => ?_) (fun h2 => ?_)
    · refine lv_iconst (v := nI 0) hC.1 hC.2.1 d_Mod_isRegister_14 (by decide) ?_
      exact pu_zret hC hr rfl hM hlk (Or.inr ⟨Or.inr h2, rfl⟩) d_Mod_isRegister_15
    · refine lv_iconst (v := nI 1) hC.1 hC.2.1 d_Mod_isRegister_10 (by decide) ?_
      refine lv_goto (tgt := 15) hC.1 hC.2.1 d_Mod_isRegister_11 (by decide) ?_
      obtain ⟨j, hj, rfl⟩ := nI_of h1
      exact pu_zret hC hr rfl hM hlk (Or.inl ⟨j, (nI_ltI hj (by decide)).mp (Int32.not_le.mp h2), rfl, rfl⟩) d_Mod_isRegister_15
set_option maxHeartbeats 4000000 in
set_option maxRecDepth 100000 in
theorem c_Rows_isAbove (l : Launch) (sz : Nat) (a b : Nat) (ha : a < 2 ^ 64) (hb : b < 2 ^ 64) : Met l y_Rows_isAbove (Cond.code y_Rows_isAbove b_Rows_isAbove 4 (some .boolean) :: lw_T) ({ frames := 0, cells := 0, slots := 0, locals := 0 }) (pu_Pc [.long (lN (a)), .long (lN (b))] sz) (pu_Qi (fun r => (b < a ∧ r = nI 1) ∨ (a ≤ b ∧ r = nI 0)) sz) 0 0 (fun q => sz ≤ q) := by
  refine pu_met l (by decide) (Nat.le_of_ble_eq_true rfl) ?_
  intro p e s m below meth c ls hsz hC hr hlk hl
  subst hsz
  have hM : pu_H s s.heap [] := va_S.rf
  have hC : CallFix p m c b_Rows_isAbove 4 s _ lw_T R_Rows := hC
  have hl : lv_has ls 4 [(0, .long (lN (a))), (2, .long (lN (b)))] := hl
  refine lv_lload_n hC.1 hC.2.1 d_Rows_isAbove_0 rfl (lv_at hl 0 rfl) ?_
  refine lv_ldc2 (v := -9223372036854775808) hC.1 hC.2.1 hC.2.2.2.1 (hC.2.2.2.2 _ kl_Rows_23) d_Rows_isAbove_1 ?_
  refine lv_lxor hC.1 hC.2.1 d_Rows_isAbove_4 ?_
  refine lv_lload_n hC.1 hC.2.1 d_Rows_isAbove_5 rfl (lv_at hl 1 rfl) ?_
  refine lv_ldc2 (v := -9223372036854775808) hC.1 hC.2.1 hC.2.2.2.1 (hC.2.2.2.2 _ kl_Rows_23) d_Rows_isAbove_6 ?_
  refine lv_lxor hC.1 hC.2.1 d_Rows_isAbove_9 ?_
  refine W.lcmp hC.1 hC.2.1 d_Rows_isAbove_10 ?_
  refine lv_if_le (tgt := 18) hC.1 hC.2.1 d_Rows_isAbove_11 (by decide) (fun h1 => ?_) (fun h1 => ?_)
  · refine lv_iconst (v := nI 0) hC.1 hC.2.1 d_Rows_isAbove_18 (by decide) ?_
    exact pu_zret hC hr rfl hM hlk (by rw [lg_cmp_le, ultL hb ha] at h1; exact Or.inr ⟨h1, rfl⟩) d_Rows_isAbove_19
  · refine lv_iconst (v := nI 1) hC.1 hC.2.1 d_Rows_isAbove_14 (by decide) ?_
    refine lv_goto (tgt := 19) hC.1 hC.2.1 d_Rows_isAbove_15 (by decide) ?_
    exact pu_zret hC hr rfl hM hlk (by rw [lg_cmp_le, ultL hb ha] at h1; exact Or.inl ⟨by omega, rfl⟩) d_Rows_isAbove_19
set_option maxHeartbeats 4000000 in
set_option maxRecDepth 100000 in
theorem c_Int_numberOfLeadingZeros (l : Launch) (sz : Nat) (x : Int32) : Met l y_Int_numberOfLeadingZeros (Cond.code y_Int_numberOfLeadingZeros b_Int_numberOfLeadingZeros 2 (some .int) :: lw_T) ({ frames := 0, cells := 0, slots := 0, locals := 0 }) (pu_Pc [.int (x)] sz) (pu_Qi (fun r => r = nI (32 - wm_bl (wm_u x))) sz) 0 0 (fun q => sz ≤ q) := by
  refine pu_met l (by decide) (Nat.le_of_ble_eq_true rfl) ?_
  intro p e s m below meth c ls hsz hC hr hlk hl
  subst hsz
  have hM : pu_H s s.heap [] := va_S.rf
  have hC : CallFix p m c b_Int_numberOfLeadingZeros 2 s _ lw_T R_Int := hC
  have hl : lv_has ls 2 [(0, .int (x))] := hl
  refine lv_iload_n hC.1 hC.2.1 d_Int_numberOfLeadingZeros_0 rfl (lv_at hl 0 rfl) ?_
  refine lv_if_gt (tgt := 15) hC.1 hC.2.1 d_Int_numberOfLeadingZeros_1 (by decide) (fun h0 => ?_) (fun h0 => ?_)
  · obtain ⟨v, hv, rfl⟩ := nI_of (x := x) (fun z => Int32.lt_irrefl (Int32.lt_trans h0 z))
    have hv0 : 0 < v := (nI_ltI (a := 0) (by decide) hv).mp h0
    rw [wm_un' (by omega)]
    have hb : wm_bl v = wm_bl v + 0 := rfl
    refine lv_bipush (v := nI 31) hC.1 hC.2.1 d_Int_numberOfLeadingZeros_15 (by decide) ?_
    refine lv_istore_n (lv' := [(1, .int (nI (31))), (0, .int (nI (v)))]) hC.1 hC.2.1 d_Int_numberOfLeadingZeros_17 rfl hl (by decide) rfl (fun ls hl => ?_)
    refine lv_iload_n hC.1 hC.2.1 d_Int_numberOfLeadingZeros_18 rfl (lv_at hl 1 rfl) ?_
    refine lv_ldcw (v := nI 65536) hC.1 hC.2.1 hC.2.2.2.1 (hC.2.2.2.2 _ kk_Int_264) d_Int_numberOfLeadingZeros_19 ?_
    refine nv_icmp_lt (tgt := 33) hC (by omega) (by omega) d_Int_numberOfLeadingZeros_22 (by decide) (fun hc16 => ?_) (fun hc16 => ?_)
    · refine lv_iload_n hC.1 hC.2.1 d_Int_numberOfLeadingZeros_33 rfl (lv_at hl 1 rfl) ?_
      refine lv_sipush (v := nI 256) hC.1 hC.2.1 d_Int_numberOfLeadingZeros_34 (by decide) ?_
      refine nv_icmp_lt (tgt := 48) hC (by omega) (by omega) d_Int_numberOfLeadingZeros_37 (by decide) (fun hc8 => ?_) (fun hc8 => ?_)
      · refine lv_iload_n hC.1 hC.2.1 d_Int_numberOfLeadingZeros_48 rfl (lv_at hl 1 rfl) ?_
        refine lv_bipush (v := nI 16) hC.1 hC.2.1 d_Int_numberOfLeadingZeros_49 (by decide) ?_
        refine nv_icmp_lt (tgt := 61) hC (by omega) (by omega) d_Int_numberOfLeadingZeros_51 (by decide) (fun hc4 => ?_) (fun hc4 => ?_)
        · refine lv_iload_n hC.1 hC.2.1 d_Int_numberOfLeadingZeros_61 rfl (lv_at hl 1 rfl) ?_
          refine lv_iconst (v := nI 4) hC.1 hC.2.1 d_Int_numberOfLeadingZeros_62 (by decide) ?_
          refine nv_icmp_lt (tgt := 73) hC (by omega) (by omega) d_Int_numberOfLeadingZeros_63 (by decide) (fun hc2 => ?_) (fun hc2 => ?_)
          · refine lv_iload_n hC.1 hC.2.1 d_Int_numberOfLeadingZeros_73 rfl (lv_at hl 0 rfl) ?_
            refine lv_iload_n hC.1 hC.2.1 d_Int_numberOfLeadingZeros_74 rfl (lv_at hl 1 rfl) ?_
            refine lv_iconst (v := nI 1) hC.1 hC.2.1 d_Int_numberOfLeadingZeros_75 (by decide) ?_
            refine nv_iushr hC (by omega) (by decide) d_Int_numberOfLeadingZeros_76 ?_
            refine nv_isub hC (by omega) d_Int_numberOfLeadingZeros_77 ?_
            refine pu_iret hC hr hM hlk ?_ d_Int_numberOfLeadingZeros_78
            exact congrArg nI (wm_nlz_fin hb (by omega) (by omega))
          · refine lv_iinc (v := nI (29)) (lv' := [(1, .int (nI (29))), (0, .int (nI (v)))]) hC.1 hC.2.1 d_Int_numberOfLeadingZeros_66 hl (k := 0) rfl (by decide) (by decide) rfl (fun ls hl => ?_)
            refine lv_iload_n hC.1 hC.2.1 d_Int_numberOfLeadingZeros_69 rfl (lv_at hl 1 rfl) ?_
            refine lv_iconst (v := nI 2) hC.1 hC.2.1 d_Int_numberOfLeadingZeros_70 (by decide) ?_
            refine nv_iushr hC (by omega) (by decide) d_Int_numberOfLeadingZeros_71 ?_
            refine lv_istore_n (lv' := [(0, .int (nI (v / 2 ^ 2))), (1, .int (nI (29)))]) hC.1 hC.2.1 d_Int_numberOfLeadingZeros_72 rfl hl (by decide) rfl (fun ls hl => ?_)
            have hb : wm_bl v = wm_bl (v / 2 ^ 2) + 2 := by rw [hb, wm_bl_div (k := 2) (by omega)]
            refine lv_iload_n hC.1 hC.2.1 d_Int_numberOfLeadingZeros_73 rfl (lv_at hl 1 rfl) ?_
            refine lv_iload_n hC.1 hC.2.1 d_Int_numberOfLeadingZeros_74 rfl (lv_at hl 0 rfl) ?_
            refine lv_iconst (v := nI 1) hC.1 hC.2.1 d_Int_numberOfLeadingZeros_75 (by decide) ?_
            refine nv_iushr hC (by omega) (by decide) d_Int_numberOfLeadingZeros_76 ?_
            refine nv_isub hC (by omega) d_Int_numberOfLeadingZeros_77 ?_
            refine pu_iret hC hr hM hlk ?_ d_Int_numberOfLeadingZeros_78
            exact congrArg nI (wm_nlz_fin hb (by omega) (by omega))
        · refine lv_iinc (v := nI (27)) (lv' := [(1, .int (nI (27))), (0, .int (nI (v)))]) hC.1 hC.2.1 d_Int_numberOfLeadingZeros_54 hl (k := 0) rfl (by decide) (by decide) rfl (fun ls hl => ?_)
          refine lv_iload_n hC.1 hC.2.1 d_Int_numberOfLeadingZeros_57 rfl (lv_at hl 1 rfl) ?_
          refine lv_iconst (v := nI 4) hC.1 hC.2.1 d_Int_numberOfLeadingZeros_58 (by decide) ?_
          refine nv_iushr hC (by omega) (by decide) d_Int_numberOfLeadingZeros_59 ?_
          refine lv_istore_n (lv' := [(0, .int (nI (v / 2 ^ 4))), (1, .int (nI (27)))]) hC.1 hC.2.1 d_Int_numberOfLeadingZeros_60 rfl hl (by decide) rfl (fun ls hl => ?_)
          have hb : wm_bl v = wm_bl (v / 2 ^ 4) + 4 := by rw [hb, wm_bl_div (k := 4) (by omega)]
          refine lv_iload_n hC.1 hC.2.1 d_Int_numberOfLeadingZeros_61 rfl (lv_at hl 0 rfl) ?_
          refine lv_iconst (v := nI 4) hC.1 hC.2.1 d_Int_numberOfLeadingZeros_62 (by decide) ?_
          refine nv_icmp_lt (tgt := 73) hC (by omega) (by omega) d_Int_numberOfLeadingZeros_63 (by decide) (fun hc2 => ?_) (fun hc2 => ?_)
          · refine lv_iload_n hC.1 hC.2.1 d_Int_numberOfLeadingZeros_73 rfl (lv_at hl 1 rfl) ?_
            refine lv_iload_n hC.1 hC.2.1 d_Int_numberOfLeadingZeros_74 rfl (lv_at hl 0 rfl) ?_
            refine lv_iconst (v := nI 1) hC.1 hC.2.1 d_Int_numberOfLeadingZeros_75 (by decide) ?_
            refine nv_iushr hC (by omega) (by decide) d_Int_numberOfLeadingZeros_76 ?_
            refine nv_isub hC (by omega) d_Int_numberOfLeadingZeros_77 ?_
            refine pu_iret hC hr hM hlk ?_ d_Int_numberOfLeadingZeros_78
            exact congrArg nI (wm_nlz_fin hb (by omega) (by omega))
          · refine lv_iinc (v := nI (25)) (lv' := [(1, .int (nI (25))), (0, .int (nI (v / 2 ^ 4)))]) hC.1 hC.2.1 d_Int_numberOfLeadingZeros_66 hl (k := 1) rfl (by decide) (by decide) rfl (fun ls hl => ?_)
            refine lv_iload_n hC.1 hC.2.1 d_Int_numberOfLeadingZeros_69 rfl (lv_at hl 1 rfl) ?_
            refine lv_iconst (v := nI 2) hC.1 hC.2.1 d_Int_numberOfLeadingZeros_70 (by decide) ?_
            refine nv_iushr hC (by omega) (by decide) d_Int_numberOfLeadingZeros_71 ?_
            refine lv_istore_n (lv' := [(0, .int (nI ((v / 2 ^ 4) / 2 ^ 2))), (1, .int (nI (25)))]) hC.1 hC.2.1 d_Int_numberOfLeadingZeros_72 rfl hl (by decide) rfl (fun ls hl => ?_)
            have hb : wm_bl v = wm_bl ((v / 2 ^ 4) / 2 ^ 2) + 6 := by rw [hb, wm_bl_div (k := 2) (by omega)]
            refine lv_iload_n hC.1 hC.2.1 d_Int_numberOfLeadingZeros_73 rfl (lv_at hl 1 rfl) ?_
            refine lv_iload_n hC.1 hC.2.1 d_Int_numberOfLeadingZeros_74 rfl (lv_at hl 0 rfl) ?_
            refine lv_iconst (v := nI 1) hC.1 hC.2.1 d_Int_numberOfLeadingZeros_75 (by decide) ?_
            refine nv_iushr hC (by omega) (by decide) d_Int_numberOfLeadingZeros_76 ?_
            refine nv_isub hC (by omega) d_Int_numberOfLeadingZeros_77 ?_
            refine pu_iret hC hr hM hlk ?_ d_Int_numberOfLeadingZeros_78
            exact congrArg nI (wm_nlz_fin hb (by omega) (by omega))
      · refine lv_iinc (v := nI (23)) (lv' := [(1, .int (nI (23))), (0, .int (nI (v)))]) hC.1 hC.2.1 d_Int_numberOfLeadingZeros_40 hl (k := 0) rfl (by decide) (by decide) rfl (fun ls hl => ?_)
        refine lv_iload_n hC.1 hC.2.1 d_Int_numberOfLeadingZeros_43 rfl (lv_at hl 1 rfl) ?_
        refine lv_bipush (v := nI 8) hC.1 hC.2.1 d_Int_numberOfLeadingZeros_44 (by decide) ?_
        refine nv_iushr hC (by omega) (by decide) d_Int_numberOfLeadingZeros_46 ?_
        refine lv_istore_n (lv' := [(0, .int (nI (v / 2 ^ 8))), (1, .int (nI (23)))]) hC.1 hC.2.1 d_Int_numberOfLeadingZeros_47 rfl hl (by decide) rfl (fun ls hl => ?_)
        have hb : wm_bl v = wm_bl (v / 2 ^ 8) + 8 := by rw [hb, wm_bl_div (k := 8) (by omega)]
        refine lv_iload_n hC.1 hC.2.1 d_Int_numberOfLeadingZeros_48 rfl (lv_at hl 0 rfl) ?_
        refine lv_bipush (v := nI 16) hC.1 hC.2.1 d_Int_numberOfLeadingZeros_49 (by decide) ?_
        refine nv_icmp_lt (tgt := 61) hC (by omega) (by omega) d_Int_numberOfLeadingZeros_51 (by decide) (fun hc4 => ?_) (fun hc4 => ?_)
        · refine lv_iload_n hC.1 hC.2.1 d_Int_numberOfLeadingZeros_61 rfl (lv_at hl 0 rfl) ?_
          refine lv_iconst (v := nI 4) hC.1 hC.2.1 d_Int_numberOfLeadingZeros_62 (by decide) ?_
          refine nv_icmp_lt (tgt := 73) hC (by omega) (by omega) d_Int_numberOfLeadingZeros_63 (by decide) (fun hc2 => ?_) (fun hc2 => ?_)
          · refine lv_iload_n hC.1 hC.2.1 d_Int_numberOfLeadingZeros_73 rfl (lv_at hl 1 rfl) ?_
            refine lv_iload_n hC.1 hC.2.1 d_Int_numberOfLeadingZeros_74 rfl (lv_at hl 0 rfl) ?_
            refine lv_iconst (v := nI 1) hC.1 hC.2.1 d_Int_numberOfLeadingZeros_75 (by decide) ?_
            refine nv_iushr hC (by omega) (by decide) d_Int_numberOfLeadingZeros_76 ?_
            refine nv_isub hC (by omega) d_Int_numberOfLeadingZeros_77 ?_
            refine pu_iret hC hr hM hlk ?_ d_Int_numberOfLeadingZeros_78
            exact congrArg nI (wm_nlz_fin hb (by omega) (by omega))
          · refine lv_iinc (v := nI (21)) (lv' := [(1, .int (nI (21))), (0, .int (nI (v / 2 ^ 8)))]) hC.1 hC.2.1 d_Int_numberOfLeadingZeros_66 hl (k := 1) rfl (by decide) (by decide) rfl (fun ls hl => ?_)
            refine lv_iload_n hC.1 hC.2.1 d_Int_numberOfLeadingZeros_69 rfl (lv_at hl 1 rfl) ?_
            refine lv_iconst (v := nI 2) hC.1 hC.2.1 d_Int_numberOfLeadingZeros_70 (by decide) ?_
            refine nv_iushr hC (by omega) (by decide) d_Int_numberOfLeadingZeros_71 ?_
            refine lv_istore_n (lv' := [(0, .int (nI ((v / 2 ^ 8) / 2 ^ 2))), (1, .int (nI (21)))]) hC.1 hC.2.1 d_Int_numberOfLeadingZeros_72 rfl hl (by decide) rfl (fun ls hl => ?_)
            have hb : wm_bl v = wm_bl ((v / 2 ^ 8) / 2 ^ 2) + 10 := by rw [hb, wm_bl_div (k := 2) (by omega)]
            refine lv_iload_n hC.1 hC.2.1 d_Int_numberOfLeadingZeros_73 rfl (lv_at hl 1 rfl) ?_
            refine lv_iload_n hC.1 hC.2.1 d_Int_numberOfLeadingZeros_74 rfl (lv_at hl 0 rfl) ?_
            refine lv_iconst (v := nI 1) hC.1 hC.2.1 d_Int_numberOfLeadingZeros_75 (by decide) ?_
            refine nv_iushr hC (by omega) (by decide) d_Int_numberOfLeadingZeros_76 ?_
            refine nv_isub hC (by omega) d_Int_numberOfLeadingZeros_77 ?_
            refine pu_iret hC hr hM hlk ?_ d_Int_numberOfLeadingZeros_78
            exact congrArg nI (wm_nlz_fin hb (by omega) (by omega))
        · refine lv_iinc (v := nI (19)) (lv' := [(1, .int (nI (19))), (0, .int (nI (v / 2 ^ 8)))]) hC.1 hC.2.1 d_Int_numberOfLeadingZeros_54 hl (k := 1) rfl (by decide) (by decide) rfl (fun ls hl => ?_)
          refine lv_iload_n hC.1 hC.2.1 d_Int_numberOfLeadingZeros_57 rfl (lv_at hl 1 rfl) ?_
          refine lv_iconst (v := nI 4) hC.1 hC.2.1 d_Int_numberOfLeadingZeros_58 (by decide) ?_
          refine nv_iushr hC (by omega) (by decide) d_Int_numberOfLeadingZeros_59 ?_
          refine lv_istore_n (lv' := [(0, .int (nI ((v / 2 ^ 8) / 2 ^ 4))), (1, .int (nI (19)))]) hC.1 hC.2.1 d_Int_numberOfLeadingZeros_60 rfl hl (by decide) rfl (fun ls hl => ?_)
          have hb : wm_bl v = wm_bl ((v / 2 ^ 8) / 2 ^ 4) + 12 := by rw [hb, wm_bl_div (k := 4) (by omega)]
          refine lv_iload_n hC.1 hC.2.1 d_Int_numberOfLeadingZeros_61 rfl (lv_at hl 0 rfl) ?_
          refine lv_iconst (v := nI 4) hC.1 hC.2.1 d_Int_numberOfLeadingZeros_62 (by decide) ?_
          refine nv_icmp_lt (tgt := 73) hC (by omega) (by omega) d_Int_numberOfLeadingZeros_63 (by decide) (fun hc2 => ?_) (fun hc2 => ?_)
          · refine lv_iload_n hC.1 hC.2.1 d_Int_numberOfLeadingZeros_73 rfl (lv_at hl 1 rfl) ?_
            refine lv_iload_n hC.1 hC.2.1 d_Int_numberOfLeadingZeros_74 rfl (lv_at hl 0 rfl) ?_
            refine lv_iconst (v := nI 1) hC.1 hC.2.1 d_Int_numberOfLeadingZeros_75 (by decide) ?_
            refine nv_iushr hC (by omega) (by decide) d_Int_numberOfLeadingZeros_76 ?_
            refine nv_isub hC (by omega) d_Int_numberOfLeadingZeros_77 ?_
            refine pu_iret hC hr hM hlk ?_ d_Int_numberOfLeadingZeros_78
            exact congrArg nI (wm_nlz_fin hb (by omega) (by omega))
          · refine lv_iinc (v := nI (17)) (lv' := [(1, .int (nI (17))), (0, .int (nI ((v / 2 ^ 8) / 2 ^ 4)))]) hC.1 hC.2.1 d_Int_numberOfLeadingZeros_66 hl (k := 1) rfl (by decide) (by decide) rfl (fun ls hl => ?_)
            refine lv_iload_n hC.1 hC.2.1 d_Int_numberOfLeadingZeros_69 rfl (lv_at hl 1 rfl) ?_
            refine lv_iconst (v := nI 2) hC.1 hC.2.1 d_Int_numberOfLeadingZeros_70 (by decide) ?_
            refine nv_iushr hC (by omega) (by decide) d_Int_numberOfLeadingZeros_71 ?_
            refine lv_istore_n (lv' := [(0, .int (nI (((v / 2 ^ 8) / 2 ^ 4) / 2 ^ 2))), (1, .int (nI (17)))]) hC.1 hC.2.1 d_Int_numberOfLeadingZeros_72 rfl hl (by decide) rfl (fun ls hl => ?_)
            have hb : wm_bl v = wm_bl (((v / 2 ^ 8) / 2 ^ 4) / 2 ^ 2) + 14 := by rw [hb, wm_bl_div (k := 2) (by omega)]
            refine lv_iload_n hC.1 hC.2.1 d_Int_numberOfLeadingZeros_73 rfl (lv_at hl 1 rfl) ?_
            refine lv_iload_n hC.1 hC.2.1 d_Int_numberOfLeadingZeros_74 rfl (lv_at hl 0 rfl) ?_
            refine lv_iconst (v := nI 1) hC.1 hC.2.1 d_Int_numberOfLeadingZeros_75 (by decide) ?_
            refine nv_iushr hC (by omega) (by decide) d_Int_numberOfLeadingZeros_76 ?_
            refine nv_isub hC (by omega) d_Int_numberOfLeadingZeros_77 ?_
            refine pu_iret hC hr hM hlk ?_ d_Int_numberOfLeadingZeros_78
            exact congrArg nI (wm_nlz_fin hb (by omega) (by omega))
    · refine lv_iinc (v := nI (15)) (lv' := [(1, .int (nI (15))), (0, .int (nI (v)))]) hC.1 hC.2.1 d_Int_numberOfLeadingZeros_25 hl (k := 0) rfl (by decide) (by decide) rfl (fun ls hl => ?_)
      refine lv_iload_n hC.1 hC.2.1 d_Int_numberOfLeadingZeros_28 rfl (lv_at hl 1 rfl) ?_
      refine lv_bipush (v := nI 16) hC.1 hC.2.1 d_Int_numberOfLeadingZeros_29 (by decide) ?_
      refine nv_iushr hC (by omega) (by decide) d_Int_numberOfLeadingZeros_31 ?_
      refine lv_istore_n (lv' := [(0, .int (nI (v / 2 ^ 16))), (1, .int (nI (15)))]) hC.1 hC.2.1 d_Int_numberOfLeadingZeros_32 rfl hl (by decide) rfl (fun ls hl => ?_)
      have hb : wm_bl v = wm_bl (v / 2 ^ 16) + 16 := by rw [hb, wm_bl_div (k := 16) (by omega)]
      refine lv_iload_n hC.1 hC.2.1 d_Int_numberOfLeadingZeros_33 rfl (lv_at hl 0 rfl) ?_
      refine lv_sipush (v := nI 256) hC.1 hC.2.1 d_Int_numberOfLeadingZeros_34 (by decide) ?_
      refine nv_icmp_lt (tgt := 48) hC (by omega) (by omega) d_Int_numberOfLeadingZeros_37 (by decide) (fun hc8 => ?_) (fun hc8 => ?_)
      · refine lv_iload_n hC.1 hC.2.1 d_Int_numberOfLeadingZeros_48 rfl (lv_at hl 0 rfl) ?_
        refine lv_bipush (v := nI 16) hC.1 hC.2.1 d_Int_numberOfLeadingZeros_49 (by decide) ?_
        refine nv_icmp_lt (tgt := 61) hC (by omega) (by omega) d_Int_numberOfLeadingZeros_51 (by decide) (fun hc4 => ?_) (fun hc4 => ?_)
        · refine lv_iload_n hC.1 hC.2.1 d_Int_numberOfLeadingZeros_61 rfl (lv_at hl 0 rfl) ?_
          refine lv_iconst (v := nI 4) hC.1 hC.2.1 d_Int_numberOfLeadingZeros_62 (by decide) ?_
          refine nv_icmp_lt (tgt := 73) hC (by omega) (by omega) d_Int_numberOfLeadingZeros_63 (by decide) (fun hc2 => ?_) (fun hc2 => ?_)
          · refine lv_iload_n hC.1 hC.2.1 d_Int_numberOfLeadingZeros_73 rfl (lv_at hl 1 rfl) ?_
            refine lv_iload_n hC.1 hC.2.1 d_Int_numberOfLeadingZeros_74 rfl (lv_at hl 0 rfl) ?_
            refine lv_iconst (v := nI 1) hC.1 hC.2.1 d_Int_numberOfLeadingZeros_75 (by decide) ?_
            refine nv_iushr hC (by omega) (by decide) d_Int_numberOfLeadingZeros_76 ?_
            refine nv_isub hC (by omega) d_Int_numberOfLeadingZeros_77 ?_
            refine pu_iret hC hr hM hlk ?_ d_Int_numberOfLeadingZeros_78
            exact congrArg nI (wm_nlz_fin hb (by omega) (by omega))
          · refine lv_iinc (v := nI (13)) (lv' := [(1, .int (nI (13))), (0, .int (nI (v / 2 ^ 16)))]) hC.1 hC.2.1 d_Int_numberOfLeadingZeros_66 hl (k := 1) rfl (by decide) (by decide) rfl (fun ls hl => ?_)
            refine lv_iload_n hC.1 hC.2.1 d_Int_numberOfLeadingZeros_69 rfl (lv_at hl 1 rfl) ?_
            refine lv_iconst (v := nI 2) hC.1 hC.2.1 d_Int_numberOfLeadingZeros_70 (by decide) ?_
            refine nv_iushr hC (by omega) (by decide) d_Int_numberOfLeadingZeros_71 ?_
            refine lv_istore_n (lv' := [(0, .int (nI ((v / 2 ^ 16) / 2 ^ 2))), (1, .int (nI (13)))]) hC.1 hC.2.1 d_Int_numberOfLeadingZeros_72 rfl hl (by decide) rfl (fun ls hl => ?_)
            have hb : wm_bl v = wm_bl ((v / 2 ^ 16) / 2 ^ 2) + 18 := by rw [hb, wm_bl_div (k := 2) (by omega)]
            refine lv_iload_n hC.1 hC.2.1 d_Int_numberOfLeadingZeros_73 rfl (lv_at hl 1 rfl) ?_
            refine lv_iload_n hC.1 hC.2.1 d_Int_numberOfLeadingZeros_74 rfl (lv_at hl 0 rfl) ?_
            refine lv_iconst (v := nI 1) hC.1 hC.2.1 d_Int_numberOfLeadingZeros_75 (by decide) ?_
            refine nv_iushr hC (by omega) (by decide) d_Int_numberOfLeadingZeros_76 ?_
            refine nv_isub hC (by omega) d_Int_numberOfLeadingZeros_77 ?_
            refine pu_iret hC hr hM hlk ?_ d_Int_numberOfLeadingZeros_78
            exact congrArg nI (wm_nlz_fin hb (by omega) (by omega))
        · refine lv_iinc (v := nI (11)) (lv' := [(1, .int (nI (11))), (0, .int (nI (v / 2 ^ 16)))]) hC.1 hC.2.1 d_Int_numberOfLeadingZeros_54 hl (k := 1) rfl (by decide) (by decide) rfl (fun ls hl => ?_)
          refine lv_iload_n hC.1 hC.2.1 d_Int_numberOfLeadingZeros_57 rfl (lv_at hl 1 rfl) ?_
          refine lv_iconst (v := nI 4) hC.1 hC.2.1 d_Int_numberOfLeadingZeros_58 (by decide) ?_
          refine nv_iushr hC (by omega) (by decide) d_Int_numberOfLeadingZeros_59 ?_
          refine lv_istore_n (lv' := [(0, .int (nI ((v / 2 ^ 16) / 2 ^ 4))), (1, .int (nI (11)))]) hC.1 hC.2.1 d_Int_numberOfLeadingZeros_60 rfl hl (by decide) rfl (fun ls hl => ?_)
          have hb : wm_bl v = wm_bl ((v / 2 ^ 16) / 2 ^ 4) + 20 := by rw [hb, wm_bl_div (k := 4) (by omega)]
          refine lv_iload_n hC.1 hC.2.1 d_Int_numberOfLeadingZeros_61 rfl (lv_at hl 0 rfl) ?_
          refine lv_iconst (v := nI 4) hC.1 hC.2.1 d_Int_numberOfLeadingZeros_62 (by decide) ?_
          refine nv_icmp_lt (tgt := 73) hC (by omega) (by omega) d_Int_numberOfLeadingZeros_63 (by decide) (fun hc2 => ?_) (fun hc2 => ?_)
          · refine lv_iload_n hC.1 hC.2.1 d_Int_numberOfLeadingZeros_73 rfl (lv_at hl 1 rfl) ?_
            refine lv_iload_n hC.1 hC.2.1 d_Int_numberOfLeadingZeros_74 rfl (lv_at hl 0 rfl) ?_
            refine lv_iconst (v := nI 1) hC.1 hC.2.1 d_Int_numberOfLeadingZeros_75 (by decide) ?_
            refine nv_iushr hC (by omega) (by decide) d_Int_numberOfLeadingZeros_76 ?_
            refine nv_isub hC (by omega) d_Int_numberOfLeadingZeros_77 ?_
            refine pu_iret hC hr hM hlk ?_ d_Int_numberOfLeadingZeros_78
            exact congrArg nI (wm_nlz_fin hb (by omega) (by omega))
          · refine lv_iinc (v := nI (9)) (lv' := [(1, .int (nI (9))), (0, .int (nI ((v / 2 ^ 16) / 2 ^ 4)))]) hC.1 hC.2.1 d_Int_numberOfLeadingZeros_66 hl (k := 1) rfl (by decide) (by decide) rfl (fun ls hl => ?_)
            refine lv_iload_n hC.1 hC.2.1 d_Int_numberOfLeadingZeros_69 rfl (lv_at hl 1 rfl) ?_
            refine lv_iconst (v := nI 2) hC.1 hC.2.1 d_Int_numberOfLeadingZeros_70 (by decide) ?_
            refine nv_iushr hC (by omega) (by decide) d_Int_numberOfLeadingZeros_71 ?_
            refine lv_istore_n (lv' := [(0, .int (nI (((v / 2 ^ 16) / 2 ^ 4) / 2 ^ 2))), (1, .int (nI (9)))]) hC.1 hC.2.1 d_Int_numberOfLeadingZeros_72 rfl hl (by decide) rfl (fun ls hl => ?_)
            have hb : wm_bl v = wm_bl (((v / 2 ^ 16) / 2 ^ 4) / 2 ^ 2) + 22 := by rw [hb, wm_bl_div (k := 2) (by omega)]
            refine lv_iload_n hC.1 hC.2.1 d_Int_numberOfLeadingZeros_73 rfl (lv_at hl 1 rfl) ?_
            refine lv_iload_n hC.1 hC.2.1 d_Int_numberOfLeadingZeros_74 rfl (lv_at hl 0 rfl) ?_
            refine lv_iconst (v := nI 1) hC.1 hC.2.1 d_Int_numberOfLeadingZeros_75 (by decide) ?_
            refine nv_iushr hC (by omega) (by decide) d_Int_numberOfLeadingZeros_76 ?_
            refine nv_isub hC (by omega) d_Int_numberOfLeadingZeros_77 ?_
            refine pu_iret hC hr hM hlk ?_ d_Int_numberOfLeadingZeros_78
            exact congrArg nI (wm_nlz_fin hb (by omega) (by omega))
      · refine lv_iinc (v := nI (7)) (lv' := [(1, .int (nI (7))), (0, .int (nI (v / 2 ^ 16)))]) hC.1 hC.2.1 d_Int_numberOfLeadingZeros_40 hl (k := 1) rfl (by decide) (by decide) rfl (fun ls hl => ?_)
        refine lv_iload_n hC.1 hC.2.1 d_Int_numberOfLeadingZeros_43 rfl (lv_at hl 1 rfl) ?_
        refine lv_bipush (v := nI 8) hC.1 hC.2.1 d_Int_numberOfLeadingZeros_44 (by decide) ?_
        refine nv_iushr hC (by omega) (by decide) d_Int_numberOfLeadingZeros_46 ?_
        refine lv_istore_n (lv' := [(0, .int (nI ((v / 2 ^ 16) / 2 ^ 8))), (1, .int (nI (7)))]) hC.1 hC.2.1 d_Int_numberOfLeadingZeros_47 rfl hl (by decide) rfl (fun ls hl => ?_)
        have hb : wm_bl v = wm_bl ((v / 2 ^ 16) / 2 ^ 8) + 24 := by rw [hb, wm_bl_div (k := 8) (by omega)]
        refine lv_iload_n hC.1 hC.2.1 d_Int_numberOfLeadingZeros_48 rfl (lv_at hl 0 rfl) ?_
        refine lv_bipush (v := nI 16) hC.1 hC.2.1 d_Int_numberOfLeadingZeros_49 (by decide) ?_
        refine nv_icmp_lt (tgt := 61) hC (by omega) (by omega) d_Int_numberOfLeadingZeros_51 (by decide) (fun hc4 => ?_) (fun hc4 => ?_)
        · refine lv_iload_n hC.1 hC.2.1 d_Int_numberOfLeadingZeros_61 rfl (lv_at hl 0 rfl) ?_
          refine lv_iconst (v := nI 4) hC.1 hC.2.1 d_Int_numberOfLeadingZeros_62 (by decide) ?_
          refine nv_icmp_lt (tgt := 73) hC (by omega) (by omega) d_Int_numberOfLeadingZeros_63 (by decide) (fun hc2 => ?_) (fun hc2 => ?_)
          · refine lv_iload_n hC.1 hC.2.1 d_Int_numberOfLeadingZeros_73 rfl (lv_at hl 1 rfl) ?_
            refine lv_iload_n hC.1 hC.2.1 d_Int_numberOfLeadingZeros_74 rfl (lv_at hl 0 rfl) ?_
            refine lv_iconst (v := nI 1) hC.1 hC.2.1 d_Int_numberOfLeadingZeros_75 (by decide) ?_
            refine nv_iushr hC (by omega) (by decide) d_Int_numberOfLeadingZeros_76 ?_
            refine nv_isub hC (by omega) d_Int_numberOfLeadingZeros_77 ?_
            refine pu_iret hC hr hM hlk ?_ d_Int_numberOfLeadingZeros_78
            exact congrArg nI (wm_nlz_fin hb (by omega) (by omega))
          · refine lv_iinc (v := nI (5)) (lv' := [(1, .int (nI (5))), (0, .int (nI ((v / 2 ^ 16) / 2 ^ 8)))]) hC.1 hC.2.1 d_Int_numberOfLeadingZeros_66 hl (k := 1) rfl (by decide) (by decide) rfl (fun ls hl => ?_)
            refine lv_iload_n hC.1 hC.2.1 d_Int_numberOfLeadingZeros_69 rfl (lv_at hl 1 rfl) ?_
            refine lv_iconst (v := nI 2) hC.1 hC.2.1 d_Int_numberOfLeadingZeros_70 (by decide) ?_
            refine nv_iushr hC (by omega) (by decide) d_Int_numberOfLeadingZeros_71 ?_
            refine lv_istore_n (lv' := [(0, .int (nI (((v / 2 ^ 16) / 2 ^ 8) / 2 ^ 2))), (1, .int (nI (5)))]) hC.1 hC.2.1 d_Int_numberOfLeadingZeros_72 rfl hl (by decide) rfl (fun ls hl => ?_)
            have hb : wm_bl v = wm_bl (((v / 2 ^ 16) / 2 ^ 8) / 2 ^ 2) + 26 := by rw [hb, wm_bl_div (k := 2) (by omega)]
            refine lv_iload_n hC.1 hC.2.1 d_Int_numberOfLeadingZeros_73 rfl (lv_at hl 1 rfl) ?_
            refine lv_iload_n hC.1 hC.2.1 d_Int_numberOfLeadingZeros_74 rfl (lv_at hl 0 rfl) ?_
            refine lv_iconst (v := nI 1) hC.1 hC.2.1 d_Int_numberOfLeadingZeros_75 (by decide) ?_
            refine nv_iushr hC (by omega) (by decide) d_Int_numberOfLeadingZeros_76 ?_
            refine nv_isub hC (by omega) d_Int_numberOfLeadingZeros_77 ?_
            refine pu_iret hC hr hM hlk ?_ d_Int_numberOfLeadingZeros_78
            exact congrArg nI (wm_nlz_fin hb (by omega) (by omega))
        · refine lv_iinc (v := nI (3)) (lv' := [(1, .int (nI (3))), (0, .int (nI ((v / 2 ^ 16) / 2 ^ 8)))]) hC.1 hC.2.1 d_Int_numberOfLeadingZeros_54 hl (k := 1) rfl (by decide) (by decide) rfl (fun ls hl => ?_)
          refine lv_iload_n hC.1 hC.2.1 d_Int_numberOfLeadingZeros_57 rfl (lv_at hl 1 rfl) ?_
          refine lv_iconst (v := nI 4) hC.1 hC.2.1 d_Int_numberOfLeadingZeros_58 (by decide) ?_
          refine nv_iushr hC (by omega) (by decide) d_Int_numberOfLeadingZeros_59 ?_
          refine lv_istore_n (lv' := [(0, .int (nI (((v / 2 ^ 16) / 2 ^ 8) / 2 ^ 4))), (1, .int (nI (3)))]) hC.1 hC.2.1 d_Int_numberOfLeadingZeros_60 rfl hl (by decide) rfl (fun ls hl => ?_)
          have hb : wm_bl v = wm_bl (((v / 2 ^ 16) / 2 ^ 8) / 2 ^ 4) + 28 := by rw [hb, wm_bl_div (k := 4) (by omega)]
          refine lv_iload_n hC.1 hC.2.1 d_Int_numberOfLeadingZeros_61 rfl (lv_at hl 0 rfl) ?_
          refine lv_iconst (v := nI 4) hC.1 hC.2.1 d_Int_numberOfLeadingZeros_62 (by decide) ?_
          refine nv_icmp_lt (tgt := 73) hC (by omega) (by omega) d_Int_numberOfLeadingZeros_63 (by decide) (fun hc2 => ?_) (fun hc2 => ?_)
          · refine lv_iload_n hC.1 hC.2.1 d_Int_numberOfLeadingZeros_73 rfl (lv_at hl 1 rfl) ?_
            refine lv_iload_n hC.1 hC.2.1 d_Int_numberOfLeadingZeros_74 rfl (lv_at hl 0 rfl) ?_
            refine lv_iconst (v := nI 1) hC.1 hC.2.1 d_Int_numberOfLeadingZeros_75 (by decide) ?_
            refine nv_iushr hC (by omega) (by decide) d_Int_numberOfLeadingZeros_76 ?_
            refine nv_isub hC (by omega) d_Int_numberOfLeadingZeros_77 ?_
            refine pu_iret hC hr hM hlk ?_ d_Int_numberOfLeadingZeros_78
            exact congrArg nI (wm_nlz_fin hb (by omega) (by omega))
          · refine lv_iinc (v := nI (1)) (lv' := [(1, .int (nI (1))), (0, .int (nI (((v / 2 ^ 16) / 2 ^ 8) / 2 ^ 4)))]) hC.1 hC.2.1 d_Int_numberOfLeadingZeros_66 hl (k := 1) rfl (by decide) (by decide) rfl (fun ls hl => ?_)
            refine lv_iload_n hC.1 hC.2.1 d_Int_numberOfLeadingZeros_69 rfl (lv_at hl 1 rfl) ?_
            refine lv_iconst (v := nI 2) hC.1 hC.2.1 d_Int_numberOfLeadingZeros_70 (by decide) ?_
            refine nv_iushr hC (by omega) (by decide) d_Int_numberOfLeadingZeros_71 ?_
            refine lv_istore_n (lv' := [(0, .int (nI ((((v / 2 ^ 16) / 2 ^ 8) / 2 ^ 4) / 2 ^ 2))), (1, .int (nI (1)))]) hC.1 hC.2.1 d_Int_numberOfLeadingZeros_72 rfl hl (by decide) rfl (fun ls hl => ?_)
            have hb : wm_bl v = wm_bl ((((v / 2 ^ 16) / 2 ^ 8) / 2 ^ 4) / 2 ^ 2) + 30 := by rw [hb, wm_bl_div (k := 2) (by omega)]
            refine lv_iload_n hC.1 hC.2.1 d_Int_numberOfLeadingZeros_73 rfl (lv_at hl 1 rfl) ?_
            refine lv_iload_n hC.1 hC.2.1 d_Int_numberOfLeadingZeros_74 rfl (lv_at hl 0 rfl) ?_
            refine lv_iconst (v := nI 1) hC.1 hC.2.1 d_Int_numberOfLeadingZeros_75 (by decide) ?_
            refine nv_iushr hC (by omega) (by decide) d_Int_numberOfLeadingZeros_76 ?_
            refine nv_isub hC (by omega) d_Int_numberOfLeadingZeros_77 ?_
            refine pu_iret hC hr hM hlk ?_ d_Int_numberOfLeadingZeros_78
            exact congrArg nI (wm_nlz_fin hb (by omega) (by omega))
  · refine lv_iload_n hC.1 hC.2.1 d_Int_numberOfLeadingZeros_4 rfl (lv_at hl 0 rfl) ?_
    refine lv_if_ne (tgt := 13) hC.1 hC.2.1 d_Int_numberOfLeadingZeros_5 (by decide) (fun hz => ?_) (fun hz => ?_)
    · refine lv_iconst (v := nI 0) hC.1 hC.2.1 d_Int_numberOfLeadingZeros_13 (by decide) ?_
      refine pu_iret hC hr hM hlk ?_ d_Int_numberOfLeadingZeros_14
      have h1 : x < 0 := Int32.lt_of_le_of_ne (Int32.not_lt.mp h0) hz
      have h2 := (wm_i0 x).mp h1
      have h3 := wm_u_lt x
      rw [wm_bl_of (b := 32) (by omega) (Or.inr (by omega))]
    · refine lv_bipush (v := nI 32) hC.1 hC.2.1 d_Int_numberOfLeadingZeros_8 (by decide) ?_
      refine lv_goto (tgt := 14) hC.1 hC.2.1 d_Int_numberOfLeadingZeros_10 (by decide) ?_
      exact pu_iret hC hr hM hlk (by subst hz; rfl) d_Int_numberOfLeadingZeros_14
end
section
set_option maxHeartbeats 4000000 in
set_option maxRecDepth 100000 in
theorem c_Whole_clear (l : Launch) (D : va_G) (ad : Nat → Nat) (cA cR : ClassId) (sz : Nat) (ln : Nat → Nat) (wd : Nat → Nat → Int32) (i : Nat) (hi : i < 19) (hlen : ln i ≤ 2050) : Met l y_Whole_clear (Cond.code y_Whole_clear b_Whole_clear 1 none :: lw_T) ({ frames := 1, cells := 0, slots := 0, locals := 22 }) (va_Pc [.ref (ad i)] (wm_B D ad cA cR sz ln wd)) (va_Qv (fun u : wm_St => u = (va_up ln i 0, va_up wd i (wm_clr (wd i) 0 (ln i)))) (wm_E D ad cA cR sz) (wm_A ad sz)) 0 0 (wm_A ad sz) := by
  refine wm_met l (by decide) (Nat.le_of_ble_eq_true rfl) ?_
  intro p e s m below meth c ls hsz hC hK hr hlk hM hl
  subst hsz
  have hC : CallFix p m c b_Whole_clear 1 s _ lw_T R_Whole := hC
  have hl : lv_has ls 1 [(0, .ref (ad i))] := hl
  refine lv_aload_n hC.1 hC.2.1 d_Whole_clear_0 rfl (lv_at hl 0 rfl) ?_
  refine lv_iconst (v := nI 0) hC.1 hC.2.1 d_Whole_clear_1 (by decide) ?_
  refine wm_callVv hC hK hM (As := [.int (nI (0))]) (rest := []) (wm_at_o hi) rfl (c_Whole_settle l D ad cA cR _ ln wd i 0 hi hlen (by omega)) kc_Whole_settle km_Whole_19 ki_Whole kn_Whole_settle ke_Whole_settle kd_Whole_settle ⟨rfl, rfl⟩ ⟨Nat.le_of_ble_eq_true rfl, Nat.le_of_ble_eq_true rfl⟩ rfl hl.1 (Nat.le_of_ble_eq_true rfl) d_Whole_clear_2 (fun u H locs hp hM => ?_)
  exact wm_vret hC hK hM hr hlk hp d_Whole_clear_5
set_option maxHeartbeats 4000000 in
set_option maxRecDepth 100000 in
theorem c_Whole_become (l : Launch) (D : va_G) (ad : Nat → Nat) (cA cR : ClassId) (sz : Nat) (ln : Nat → Nat) (wd : Nat → Nat → Int32) (i j N : Nat) (hi : i < 19) (hj : j < 19) (hz : wm_ze (wd i) (ln i)) (h2 : wm_rep (wd j) (ln j) N) : Met l y_Whole_become (Cond.code y_Whole_become b_Whole_become 2 none :: lw_T) ({ frames := 1, cells := 0, slots := 0, locals := 26 }) (va_Pc [.ref (ad i), .ref (ad j)] (wm_B D ad cA cR sz ln wd)) (va_Qv (fun u : wm_St => wm_up i N ln wd u) (wm_E D ad cA cR sz) (wm_A ad sz)) 0 0 (wm_A ad sz) := by
  refine wm_met l (by decide) (Nat.le_of_ble_eq_true rfl) ?_
  intro p e s m below meth c ls hsz hC hK hr hlk hM hl
  subst hsz
  have hC : CallFix p m c b_Whole_become 2 s _ lw_T R_Whole := hC
  have hl : lv_has ls 2 [(0, .ref (ad i)), (1, .ref (ad j))] := hl
  have hj2 := h2.1
  have hz1 := hz.1
  refine lv_aload_n hC.1 hC.2.1 d_Whole_become_0 rfl (lv_at hl 1 rfl) ?_
  refine wm_wds hC hK hM (j := j) hj kf_Whole_9 d_Whole_become_1 ?_
  refine lv_iconst (v := nI 0) hC.1 hC.2.1 d_Whole_become_4 (by decide) ?_
  refine lv_aload_n hC.1 hC.2.1 d_Whole_become_5 rfl (lv_at hl 0 rfl) ?_
  refine wm_wds hC hK hM (j := i) hi kf_Whole_9 d_Whole_become_6 ?_
  refine lv_iconst (v := nI 0) hC.1 hC.2.1 d_Whole_become_9 (by decide) ?_
  refine lv_aload_n hC.1 hC.2.1 d_Whole_become_10 rfl (lv_at hl 1 rfl) ?_
  refine wm_len hC hK hM (j := j) hj kf_Whole_15 d_Whole_become_11 ?_
  refine wm_copy hC hK hM (i := i) (j := j) (sp := 0) (dp := 0) (n := ln j) hi hj (by omega) (by omega) km_Whole_23 kn_copy ks_copy ki_Sys hl.1 (Nat.le_of_ble_eq_true rfl) (Nat.le_of_ble_eq_true rfl) d_Whole_become_14 (fun H locs hM => ?_)
  refine lv_aload_n hC.1 hC.2.1 d_Whole_become_17 rfl (lv_at hl 0 rfl) ?_
  refine lv_aload_n hC.1 hC.2.1 d_Whole_become_18 rfl (lv_at hl 1 rfl) ?_
  refine wm_len hC hK hM (j := j) hj kf_Whole_15 d_Whole_become_19 ?_
  refine wm_callVv hC hK hM (As := [.int (nI (ln j))]) (rest := []) (wm_at_o hi) rfl (c_Whole_settle l D ad cA cR _ ln (va_up wd i (va_cpy (wd j) (wd i) 0 0 (ln j))) i (ln j) hi hz.1 h2.1) kc_Whole_settle km_Whole_19 ki_Whole kn_Whole_settle ke_Whole_settle kd_Whole_settle ⟨rfl, rfl⟩ ⟨Nat.le_of_ble_eq_true rfl, Nat.le_of_ble_eq_true rfl⟩ rfl hl.1 (Nat.le_of_ble_eq_true rfl) d_Whole_become_22 (fun u H locs hp hM => ?_)
  refine wm_vret hC hK hM hr hlk ?_ d_Whole_become_25
  rw [va_up_self, wm_uu] at hp
  refine wm_up_of hp h2.1 (fun k h3 h4 h5 => ?_) ?_
  · rw [pk_cpy_out (Or.inr (by omega))]
    exact hz.2 k h4 h5
  · rw [← h2.2.2.2]
    exact wm_v_congr (fun k hk => by rw [pk_cpy_in (Nat.zero_le _) (by omega), Nat.sub_zero, Nat.zero_add])
set_option maxHeartbeats 4000000 in
set_option maxRecDepth 100000 in
theorem c_Whole_size (l : Launch) (D : va_G) (ad : Nat → Nat) (cA cR : ClassId) (sz : Nat) (ln : Nat → Nat) (wd : Nat → Nat → Int32) (i N : Nat) (hi : i < 19) (h : wm_rep (wd i) (ln i) N) : Met l y_Whole_size (Cond.code y_Whole_size b_Whole_size 1 (some .int) :: lw_T) ({ frames := 1, cells := 0, slots := 0, locals := 21 }) (va_Pc [.ref (ad i)] (wm_B D ad cA cR sz ln wd)) (va_Qi (fun (r : Int32) (u : wm_St) => r = nI (wm_bl N) ∧ u = (ln, wd)) (wm_E D ad cA cR sz) (wm_A ad sz)) 0 0 (wm_A ad sz) := by
  refine wm_met l (by decide) (Nat.le_of_ble_eq_true rfl) ?_
  intro p e s m below meth c ls hsz hC hK hr hlk hM hl
  subst hsz
  have hC : CallFix p m c b_Whole_size 1 s _ lw_T R_Whole := hC
  have hl : lv_has ls 1 [(0, .ref (ad i))] := hl
  have hn := h.1
  refine lv_aload_n hC.1 hC.2.1 d_Whole_size_0 rfl (lv_at hl 0 rfl) ?_
  refine wm_len hC hK hM (j := i) hi kf_Whole_15 d_Whole_size_1 ?_
  refine nv_if_ne (tgt := 11) hC (by omega) d_Whole_size_4 (by decide) (fun hc => ?_) (fun hc => ?_)
  · obtain ⟨k, hk⟩ : ∃ k, ln i = k + 1 := ⟨ln i - 1, by omega⟩
    have h9 : wm_rep (wd i) (k + 1) N := by rw [← hk]; exact h
    refine lv_bipush (v := nI 32) hC.1 hC.2.1 d_Whole_size_11 (by decide) ?_
    refine lv_aload_n hC.1 hC.2.1 d_Whole_size_13 rfl (lv_at hl 0 rfl) ?_
    refine wm_len hC hK hM (j := i) hi kf_Whole_15 d_Whole_size_14 ?_
    refine nv_top (y := nI (k + 1)) (by rw [hk]) ?_
    refine nv_imul hC d_Whole_size_17 ?_
    refine lv_aload_n hC.1 hC.2.1 d_Whole_size_18 rfl (lv_at hl 0 rfl) ?_
    refine wm_wds hC hK hM (j := i) hi kf_Whole_9 d_Whole_size_19 ?_
    refine lv_aload_n hC.1 hC.2.1 d_Whole_size_22 rfl (lv_at hl 0 rfl) ?_
    refine wm_len hC hK hM (j := i) hi kf_Whole_15 d_Whole_size_23 ?_
    refine nv_top (y := nI (k + 1)) (by rw [hk]) ?_
    refine lv_iconst (v := nI 1) hC.1 hC.2.1 d_Whole_size_26 (by decide) ?_
    refine nv_isub hC (by omega) d_Whole_size_27 ?_
    refine wm_ald hC hK hM (j := i) (k := k) hi (by omega) d_Whole_size_28 ?_
    refine wm_callPi hC hK hM (As := [.int (wd i k)]) (rest := [.int (nI (32 * (k + 1)))]) (c_Int_numberOfLeadingZeros l _ (wd i k)) kc_Int_numberOfLeadingZeros km_Whole_50 ki_Int ks_Int_numberOfLeadingZeros kd_Int_numberOfLeadingZeros ⟨rfl, rfl⟩ ⟨Nat.le_of_ble_eq_true rfl, Nat.le_of_ble_eq_true rfl⟩ rfl hl.1 (Nat.le_of_ble_eq_true rfl) d_Whole_size_29 (fun r H locs hp hM => ?_)
    refine nv_top (y := nI (32 - wm_bl (wm_u (wd i k)))) hp ?_
    have h8 := wm_bl_rep h9
    have h7 : wm_bl (wm_u (wd i k)) ≤ 32 := wm_bl_le.mpr (wm_u_lt _)
    refine nv_isub hC (by omega) d_Whole_size_32 ?_
    exact wm_iret hC hK hM hr hlk ⟨congrArg nI (by omega), rfl⟩ d_Whole_size_33
  · refine lv_iconst (v := nI 0) hC.1 hC.2.1 d_Whole_size_7 (by decide) ?_
    refine lv_goto (tgt := 33) hC.1 hC.2.1 d_Whole_size_8 (by decide) ?_
    exact wm_iret hC hK hM hr hlk ⟨by rw [(wm_rep_0 h).mp hc]; rfl, rfl⟩ d_Whole_size_33
end
section
set_option maxHeartbeats 4000000 in
set_option maxRecDepth 100000 in
theorem lp_Whole_order {p : Program} {l : Launch} {e : Env} {R : Room} {s : State} {m : MethodId} {args : Array Value} {below : List Frame} {meth : Method} {c : Code} {Q : State → Prop} {D : va_G} {ad : Nat → Nat} {cA cR : ClassId} (hC : CallFix p m c b_Whole_order 3 s args lw_T R_Whole) (hK : va_K D classes (wm_ty cA cR) s) (ln : Nat → Nat) (wd : Nat → Nat → Int32) (i j Na Nb : Nat) (hi : i < 19) (hj : j < 19) (ha : wm_rep (wd i) (ln i) Na) (hb : wm_rep (wd j) (ln j) Nb) (hlen : ln i = ln j) (hret : ∀ (r : Int32) (pc : Nat) (H : Heap) (locs : List Loc) (ls : Array Slot), decode b_Whole_order pc = .ok (.ireturn, 1) → r = wm_ord Na Nb → wm_M D ad cA cR s ln wd H locs → W p l e R s m args below meth c H locs 0 0 Q (F0 m pc ls [.int r])) :
    ∀ (n : Nat) (x : Nat), (x ≤ ln i) → (∀ k, x ≤ k → k < ln i → wd i k = wd j k) → x + 1 ≤ n → ∀ (H : Heap) (locs : List Loc) (ls : Array Slot), wm_M D ad cA cR s (ln) (wd) H locs → lv_has ls 3 [(0, .ref (ad i)), (1, .ref (ad j)), (2, .int (nI (x) + (-1)))] → W p l e R s m args below meth c H locs 0 0 Q (F0 m 35 ls []) := by
  intro n
  induction n with
  | zero =>
    intro x hx heq hn
    exact absurd hn (by omega)
  | succ n ih =>
    intro x hx heq hn H locs ls hM hl
    have hl1 := ha.1
    refine lv_iload_n hC.1 hC.2.1 d_Whole_order_35 rfl (lv_at hl 2 rfl) ?_
    refine nv_down_lt (tgt := 92) hC (by omega) d_Whole_order_36 (by decide) (fun hz => ?_) (fun y hy => ?_)
    · subst hz
      refine lv_iconst (v := nI 0) hC.1 hC.2.1 d_Whole_order_92 (by decide) ?_
      exact hret _ _ H locs ls d_Whole_order_93 (wm_ord_eq (by rw [← ha.2.2.2, ← hb.2.2.2, ← hlen]; exact wm_v_congr (fun k hk => heq k (Nat.zero_le _) hk))).symm hM
    · subst hy
      have hl : lv_has ls 3 [(0, .ref (ad i)), (1, .ref (ad j)), (2, .int (nI (y)))] := by rw [pk_m1] at hl; exact hl
      refine lv_aload_n hC.1 hC.2.1 d_Whole_order_39 rfl (lv_at hl 0 rfl) ?_
      refine wm_wds hC hK hM (j := i) hi kf_Whole_9 d_Whole_order_40 ?_
      refine lv_iload_n hC.1 hC.2.1 d_Whole_order_43 rfl (lv_at hl 2 rfl) ?_
      refine wm_ald hC hK hM (j := i) (k := y) hi (by omega) d_Whole_order_44 ?_
      refine lv_aload_n hC.1 hC.2.1 d_Whole_order_45 rfl (lv_at hl 1 rfl) ?_
      refine wm_wds hC hK hM (j := j) hj kf_Whole_9 d_Whole_order_46 ?_
      refine lv_iload_n hC.1 hC.2.1 d_Whole_order_49 rfl (lv_at hl 2 rfl) ?_
      refine wm_ald hC hK hM (j := j) (k := y) hj (by omega) d_Whole_order_50 ?_
      refine lv_icmp_eq (tgt := 86) hC.1 hC.2.1 d_Whole_order_51 (by decide) (fun hc => ?_) (fun hc => ?_)
      · refine lv_iinc (v := nI (y) + (-1)) (lv' := [(2, .int (nI (y) + (-1))), (0, .ref (ad i)), (1, .ref (ad j))]) hC.1 hC.2.1 d_Whole_order_86 hl (k := 2) rfl (rfl) (by decide) rfl (fun ls hl => ?_)
        refine lv_goto (tgt := 35) hC.1 hC.2.1 d_Whole_order_89 (by decide) ?_
        exact ih y (by omega) (fun k h1 h2 => by
        rcases Nat.eq_or_lt_of_le h1 with z | z
        · rw [← z]; exact hc
        · exact heq k (by omega) h2) (by omega) H locs ls hM (lv_sub hl [1, 2, 0] rfl)
      · have hu1 := wm_u_lt (wd i y)
        have hu2 := wm_u_lt (wd j y)
        have hne : wm_u (wd i y) ≠ wm_u (wd j y) := fun z => hc (wm_u_inj z)
        refine lv_aload_n hC.1 hC.2.1 d_Whole_order_54 rfl (lv_at hl 0 rfl) ?_
        refine wm_wds hC hK hM (j := i) hi kf_Whole_9 d_Whole_order_55 ?_
        refine lv_iload_n hC.1 hC.2.1 d_Whole_order_58 rfl (lv_at hl 2 rfl) ?_
        refine wm_ald hC hK hM (j := i) (k := y) hi (by omega) d_Whole_order_59 ?_
        refine nv_low hC kl_Whole_35 d_Whole_order_60 d_Whole_order_61 d_Whole_order_64 ?_
        refine lv_aload_n hC.1 hC.2.1 d_Whole_order_65 rfl (lv_at hl 1 rfl) ?_
        refine wm_wds hC hK hM (j := j) hj kf_Whole_9 d_Whole_order_66 ?_
        refine lv_iload_n hC.1 hC.2.1 d_Whole_order_69 rfl (lv_at hl 2 rfl) ?_
        refine wm_ald hC hK hM (j := j) (k := y) hj (by omega) d_Whole_order_70 ?_
        refine nv_low hC kl_Whole_35 d_Whole_order_71 d_Whole_order_72 d_Whole_order_75 ?_
        refine nv_lc_ge (tgt := 84) hC (by omega) (by omega) d_Whole_order_76 d_Whole_order_77 (by decide) (fun hl2 => ?_) (fun hl2 => ?_)
        · refine lv_iconst (v := nI 1) hC.1 hC.2.1 d_Whole_order_84 (by decide) ?_
          exact hret _ _ H locs ls d_Whole_order_85 (wm_ord_gt (by rw [← ha.2.2.2, ← hb.2.2.2, ← hlen]; exact wm_v_cmp (i := y) (by omega) (fun k h1 h2 => (heq k (by omega) h2).symm) (by omega))).symm hM
        · refine lv_iconst (v := -1) hC.1 hC.2.1 d_Whole_order_80 (by decide) ?_
          refine lv_goto (tgt := 85) hC.1 hC.2.1 d_Whole_order_81 (by decide) ?_
          exact hret _ _ H locs ls d_Whole_order_85 (wm_ord_lt (by rw [← ha.2.2.2, ← hb.2.2.2, ← hlen]; exact wm_v_cmp (i := y) (by omega) (fun k h1 h2 => heq k (by omega) h2) hl2)).symm hM
set_option maxHeartbeats 4000000 in
set_option maxRecDepth 100000 in
theorem c_Whole_order (l : Launch) (D : va_G) (ad : Nat → Nat) (cA cR : ClassId) (sz : Nat) (ln : Nat → Nat) (wd : Nat → Nat → Int32) (i j Na Nb : Nat) (hi : i < 19) (hj : j < 19) (ha : wm_rep (wd i) (ln i) Na) (hb : wm_rep (wd j) (ln j) Nb) : Met l y_Whole_order (Cond.code y_Whole_order b_Whole_order 3 (some .int) :: lw_T) ({ frames := 0, cells := 0, slots := 0, locals := 0 }) (va_Pc [.ref (ad i), .ref (ad j)] (wm_B D ad cA cR sz ln wd)) (va_Qi (fun (r : Int32) (u : wm_St) => r = wm_ord Na Nb ∧ u = (ln, wd)) (wm_E D ad cA cR sz) (wm_A ad sz)) 0 0 (wm_A ad sz) := by
  refine wm_met l (by decide) (Nat.le_of_ble_eq_true rfl) ?_
  intro p e s m below meth c ls hsz hC hK hr hlk hM hl
  subst hsz
  have hC : CallFix p m c b_Whole_order 3 s _ lw_T R_Whole := hC
  have hl : lv_has ls 3 [(0, .ref (ad i)), (1, .ref (ad j))] := hl
  have hl1 := ha.1
  have hl2 := hb.1
  refine lv_aload_n hC.1 hC.2.1 d_Whole_order_0 rfl (lv_at hl 0 rfl) ?_
  refine wm_len hC hK hM (j := i) hi kf_Whole_15 d_Whole_order_1 ?_
  refine lv_aload_n hC.1 hC.2.1 d_Whole_order_4 rfl (lv_at hl 1 rfl) ?_
  refine wm_len hC hK hM (j := j) hj kf_Whole_15 d_Whole_order_5 ?_
  refine nv_icmp_eq (tgt := 28) hC (by omega) (by omega) d_Whole_order_8 (by decide) (fun hc => ?_) (fun hc => ?_)
  · refine lv_aload_n hC.1 hC.2.1 d_Whole_order_28 rfl (lv_at hl 0 rfl) ?_
    refine wm_len hC hK hM (j := i) hi kf_Whole_15 d_Whole_order_29 ?_
    refine lv_iconst (v := nI 1) hC.1 hC.2.1 d_Whole_order_32 (by decide) ?_
    refine nv_isub1 hC d_Whole_order_33 ?_
    refine lv_istore_n (lv' := [(2, .int (nI (ln i) + (-1))), (0, .ref (ad i)), (1, .ref (ad j))]) hC.1 hC.2.1 d_Whole_order_34 rfl hl (by decide) rfl (fun ls hl => ?_)
    exact lp_Whole_order hC hK ln wd i j Na Nb hi hj ha hb hc (fun r pc H locs ls hd hrr hM => wm_iret hC hK hM hr hlk ⟨hrr, rfl⟩ hd) (ln i + 1) (ln i) (Nat.le_refl _) (fun k h1 h2 => absurd h2 (by omega)) (Nat.le_refl _) _ _ _ hM (lv_sub hl [1, 2, 0] rfl)
  · refine lv_aload_n hC.1 hC.2.1 d_Whole_order_11 rfl (lv_at hl 0 rfl) ?_
    refine wm_len hC hK hM (j := i) hi kf_Whole_15 d_Whole_order_12 ?_
    refine lv_aload_n hC.1 hC.2.1 d_Whole_order_15 rfl (lv_at hl 1 rfl) ?_
    refine wm_len hC hK hM (j := j) hj kf_Whole_15 d_Whole_order_16 ?_
    refine nv_icmp_ge (tgt := 26) hC (by omega) (by omega) d_Whole_order_19 (by decide) (fun hd => ?_) (fun hd => ?_)
    · refine lv_iconst (v := nI 1) hC.1 hC.2.1 d_Whole_order_26 (by decide) ?_
      exact wm_iret hC hK hM hr hlk ⟨(wm_ord_gt (wm_rep_cmp hb ha (by omega))).symm, rfl⟩ d_Whole_order_27
    · refine lv_iconst (v := -1) hC.1 hC.2.1 d_Whole_order_22 (by decide) ?_
      refine lv_goto (tgt := 27) hC.1 hC.2.1 d_Whole_order_23 (by decide) ?_
      exact wm_iret hC hK hM hr hlk ⟨(wm_ord_lt (wm_rep_cmp ha hb hd)).symm, rfl⟩ d_Whole_order_27
set_option maxHeartbeats 4000000 in
set_option maxRecDepth 100000 in
theorem lp_Whole_becomeSum {p : Program} {l : Launch} {e : Env} {R : Room} {s : State} {m : MethodId} {args : Array Value} {below : List Frame} {meth : Method} {c : Code} {Q : State → Prop} {D : va_G} {ad : Nat → Nat} {cA cR : ClassId} (hC : CallFix p m c b_Whole_becomeSum 7 s args lw_T R_Whole) (hK : va_K D classes (wm_ty cA cR) s) (ln : Nat → Nat) (wd : Nat → Nat → Int32) (i a b cnt : Nat) (hi : i < 19) (ha : a < 19) (hb : b < 19) (hai : a ≠ i) (hbi : b ≠ i) (hcnt : cnt ≤ 2049)
    (hex : ∀ (cy : Nat) (f : Nat → Int32), (wm_v f cnt + cy * 4294967296 ^ cnt = wm_v (wd a) cnt + wm_v (wd b) cnt) → (cy ≤ 1) → ((∀ j, cnt ≤ j → f j = wd i j)) → ∀ (H : Heap) (locs : List Loc) (ls : Array Slot), wm_M D ad cA cR s (ln) (va_up wd i f) H locs → lv_has ls 7 [(0, .ref (ad i)), (1, .ref (ad a)), (2, .ref (ad b)), (3, .int (nI (cnt))), (4, .long (lN (cy))), (6, .int (nI (cnt)))] → W p l e R s m args below meth c H locs 0 0 Q (F0 m 77 ls [])) :
    ∀ (n : Nat) (k : Nat) (cy : Nat) (f : Nat → Int32), (k ≤ cnt) → (wm_v f k + cy * 4294967296 ^ k = wm_v (wd a) k + wm_v (wd b) k) → (cy ≤ 1) → (∀ j, k ≤ j → f j = wd i j) → cnt + 1 ≤ k + n → ∀ (H : Heap) (locs : List Loc) (ls : Array Slot), wm_M D ad cA cR s (ln) (va_up wd i f) H locs → lv_has ls 7 [(0, .ref (ad i)), (1, .ref (ad a)), (2, .ref (ad b)), (3, .int (nI (cnt))), (4, .long (lN (cy))), (6, .int (nI (k)))] → W p l e R s m args below meth c H locs 0 0 Q (F0 m 18 ls []) := by
  intro n
  induction n with
  | zero =>
    intro k cy f hk hS hc hf hn
    exact absurd hn (by omega)
  | succ n ih =>
    intro k cy f hk hS hc hf hn H locs ls hM hl
    have hua := wm_u_lt (wd a k)
    have hub := wm_u_lt (wd b k)
    refine lv_iload hC.1 hC.2.1 d_Whole_becomeSum_18 (lv_at hl 5 rfl) ?_
    refine lv_iload_n hC.1 hC.2.1 d_Whole_becomeSum_20 rfl (lv_at hl 3 rfl) ?_
    refine nv_icmp_ge (tgt := 77) hC (by omega) (by omega) d_Whole_becomeSum_21 (by decide) (fun hc2 => ?_) (fun hc2 => ?_)
    · obtain rfl : k = cnt := by omega
      exact hex cy f hS hc hf H locs ls hM (lv_sub hl [0, 1, 2, 3, 4, 5] rfl)
    · refine lv_lload hC.1 hC.2.1 d_Whole_becomeSum_24 (lv_at hl 4 rfl) ?_
      refine lv_aload_n hC.1 hC.2.1 d_Whole_becomeSum_26 rfl (lv_at hl 1 rfl) ?_
      refine wm_wds hC hK hM (j := a) ha kf_Whole_9 d_Whole_becomeSum_27 ?_
      refine lv_iload hC.1 hC.2.1 d_Whole_becomeSum_30 (lv_at hl 5 rfl) ?_
      refine wm_ald_o hC hK hM (j := a) (k := k) ha hai (by omega) d_Whole_becomeSum_32 ?_
      refine nv_low hC kl_Whole_35 d_Whole_becomeSum_33 d_Whole_becomeSum_34 d_Whole_becomeSum_37 ?_
      refine lv_aload_n hC.1 hC.2.1 d_Whole_becomeSum_38 rfl (lv_at hl 2 rfl) ?_
      refine wm_wds hC hK hM (j := b) hb kf_Whole_9 d_Whole_becomeSum_39 ?_
      refine lv_iload hC.1 hC.2.1 d_Whole_becomeSum_42 (lv_at hl 5 rfl) ?_
      refine wm_ald_o hC hK hM (j := b) (k := k) hb hbi (by omega) d_Whole_becomeSum_44 ?_
      refine nv_low hC kl_Whole_35 d_Whole_becomeSum_45 d_Whole_becomeSum_46 d_Whole_becomeSum_49 ?_
      refine nv_ladd hC d_Whole_becomeSum_50 ?_
      refine nv_ladd hC d_Whole_becomeSum_51 ?_
      refine lv_lstore (lv' := [(4, .long (lN (cy + ((wm_u (wd a k)) + (wm_u (wd b k)))))), (0, .ref (ad i)), (1, .ref (ad a)), (2, .ref (ad b)), (3, .int (nI (cnt))), (6, .int (nI (k)))]) hC.1 hC.2.1 d_Whole_becomeSum_52 hl (by decide) rfl (fun ls hl => ?_)
      refine lv_aload_n hC.1 hC.2.1 d_Whole_becomeSum_54 rfl (lv_at hl 1 rfl) ?_
      refine wm_wds hC hK hM (j := i) hi kf_Whole_9 d_Whole_becomeSum_55 ?_
      refine lv_iload hC.1 hC.2.1 d_Whole_becomeSum_58 (lv_at hl 5 rfl) ?_
      refine lv_lload hC.1 hC.2.1 d_Whole_becomeSum_60 (lv_at hl 0 rfl) ?_
      refine nv_l2i hC d_Whole_becomeSum_62 ?_
      refine wm_ast_s hC hK hM (k := k) hi (by omega) d_Whole_becomeSum_63 (fun H locs hM => ?_)
      refine lv_lload hC.1 hC.2.1 d_Whole_becomeSum_64 (lv_at hl 0 rfl) ?_
      refine lv_bipush (v := nI 32) hC.1 hC.2.1 d_Whole_becomeSum_66 (by decide) ?_
      refine nv_lushr32 hC (by omega) d_Whole_becomeSum_68 ?_
      refine lv_lstore (lv' := [(4, .long (lN ((cy + ((wm_u (wd a k)) + (wm_u (wd b k)))) / 4294967296))), (0, .ref (ad i)), (1, .ref (ad a)), (2, .ref (ad b)), (3, .int (nI (cnt))), (6, .int (nI (k)))]) hC.1 hC.2.1 d_Whole_becomeSum_69 hl (by decide) rfl (fun ls hl => ?_)
      refine lv_iinc (v := nI (k + 1)) (lv' := [(6, .int (nI (k + 1))), (4, .long (lN ((cy + ((wm_u (wd a k)) + (wm_u (wd b k)))) / 4294967296))), (0, .ref (ad i)), (1, .ref (ad a)), (2, .ref (ad b)), (3, .int (nI (cnt)))]) hC.1 hC.2.1 d_Whole_becomeSum_71 hl (k := 5) rfl (nv_inc _) (by decide) rfl (fun ls hl => ?_)
      refine lv_goto (tgt := 18) hC.1 hC.2.1 d_Whole_becomeSum_74 (by decide) ?_
      exact ih (k + 1) ((cy + (wm_u (wd a k) + wm_u (wd b k))) / 4294967296) (upd f k (nI (cy + (wm_u (wd a k) + wm_u (wd b k))))) (by omega) (by
        have h := wm_chain (d := wm_u (wd a k) + wm_u (wd b k)) hS
        rw [h, wm_v_s, wm_v_s, Nat.add_mul]; omega) (by omega) (fun j hj => by rw [pk_un (by omega)]; exact hf j (by omega)) (by omega) H locs ls hM (lv_sub hl [2, 3, 4, 5, 1, 0] rfl)
set_option maxHeartbeats 4000000 in
set_option maxRecDepth 100000 in
theorem c_Whole_becomeSum (l : Launch) (D : va_G) (ad : Nat → Nat) (cA cR : ClassId) (sz : Nat) (ln : Nat → Nat) (wd : Nat → Nat → Int32) (i a b Na Nb : Nat) (hi : i < 19) (ha : a < 19) (hb : b < 19) (hai : a ≠ i) (hbi : b ≠ i) (hz : wm_ze (wd i) (ln i)) (hra : wm_rep (wd a) (ln a) Na) (hrb : wm_rep (wd b) (ln b) Nb) (hla : ln a ≤ 2049) (hlb : ln b ≤ 2049) : Met l y_Whole_becomeSum (Cond.code y_Whole_becomeSum b_Whole_becomeSum 7 none :: lw_T) ({ frames := 1, cells := 0, slots := 0, locals := 23 }) (va_Pc [.ref (ad i), .ref (ad a), .ref (ad b)] (wm_B D ad cA cR sz ln wd)) (va_Qv (fun u : wm_St => wm_up i (Na + Nb) ln wd u) (wm_E D ad cA cR sz) (wm_A ad sz)) 0 0 (wm_A ad sz) := by
  refine wm_met l (by decide) (Nat.le_of_ble_eq_true rfl) ?_
  intro p e s m below meth c ls hsz hC hK hr hlk hM hl
  subst hsz
  have hC : CallFix p m c b_Whole_becomeSum 7 s _ lw_T R_Whole := hC
  have hl : lv_has ls 7 [(0, .ref (ad i)), (1, .ref (ad a)), (2, .ref (ad b))] := hl
  have hz1 := hz.1
  refine lv_aload_n hC.1 hC.2.1 d_Whole_becomeSum_0 rfl (lv_at hl 1 rfl) ?_
  refine wm_len hC hK hM (j := a) ha kf_Whole_15 d_Whole_becomeSum_1 ?_
  refine lv_aload_n hC.1 hC.2.1 d_Whole_becomeSum_4 rfl (lv_at hl 2 rfl) ?_
  refine wm_len hC hK hM (j := b) hb kf_Whole_15 d_Whole_becomeSum_5 ?_
  refine nv_mmax hC hl.1 kj_Whole_29 kj_s_max ki_Math kj_c_max (Nat.le_of_ble_eq_true rfl) (Nat.le_of_ble_eq_true rfl) d_Whole_becomeSum_8 ?_
  refine nv_top (y := nI (max (ln a) (ln b))) (nv_maxi (by omega) (by omega)) ?_
  refine lv_istore_n (lv' := [(3, .int (nI (max (ln a) (ln b)))), (0, .ref (ad i)), (1, .ref (ad a)), (2, .ref (ad b))]) hC.1 hC.2.1 d_Whole_becomeSum_11 rfl hl (by decide) rfl (fun ls hl => ?_)
  refine lv_lconst (v := lN 0) hC.1 hC.2.1 d_Whole_becomeSum_12 (by decide) ?_
  refine lv_lstore (lv' := [(4, .long (lN (0))), (3, .int (nI (max (ln a) (ln b)))), (0, .ref (ad i)), (1, .ref (ad a)), (2, .ref (ad b))]) hC.1 hC.2.1 d_Whole_becomeSum_13 hl (by decide) rfl (fun ls hl => ?_)
  refine lv_iconst (v := nI 0) hC.1 hC.2.1 d_Whole_becomeSum_15 (by decide) ?_
  refine lv_istore (lv' := [(6, .int (nI (0))), (4, .long (lN (0))), (3, .int (nI (max (ln a) (ln b)))), (0, .ref (ad i)), (1, .ref (ad a)), (2, .ref (ad b))]) hC.1 hC.2.1 d_Whole_becomeSum_16 hl (by decide) rfl (fun ls hl => ?_)
  have hM : wm_M D ad cA cR s (ln) (va_up wd i (wd i)) s.heap [] := by
    rw [wm_eta]; exact hM
  obtain ⟨cnt, hcnt⟩ : ∃ z, z = max (ln a) (ln b) := ⟨_, rfl⟩
  rw [← hcnt] at hl
  refine lp_Whole_becomeSum hC hK ln wd i a b cnt hi ha hb hai hbi (by omega) (fun cy f hS hc hf H locs ls hM hl => ?_) (cnt + 1) 0 0 (wd i) (Nat.zero_le _) rfl (Nat.zero_le _) (fun _ _ => rfl) (by omega) _ _ _ hM (lv_sub hl [3, 4, 5, 2, 1, 0] rfl)
  refine lv_aload_n hC.1 hC.2.1 d_Whole_becomeSum_77 rfl (lv_at hl 0 rfl) ?_
  refine wm_wds hC hK hM (j := i) hi kf_Whole_9 d_Whole_becomeSum_78 ?_
  refine lv_iload_n hC.1 hC.2.1 d_Whole_becomeSum_81 rfl (lv_at hl 3 rfl) ?_
  refine lv_lload hC.1 hC.2.1 d_Whole_becomeSum_82 (lv_at hl 4 rfl) ?_
  refine nv_l2i hC d_Whole_becomeSum_84 ?_
  refine wm_ast_s hC hK hM (k := cnt) hi (by omega) d_Whole_becomeSum_85 (fun H locs hM => ?_)
  refine lv_aload_n hC.1 hC.2.1 d_Whole_becomeSum_86 rfl (lv_at hl 0 rfl) ?_
  refine lv_iload_n hC.1 hC.2.1 d_Whole_becomeSum_87 rfl (lv_at hl 3 rfl) ?_
  refine lv_iconst (v := nI 1) hC.1 hC.2.1 d_Whole_becomeSum_88 (by decide) ?_
  refine nv_iadd hC d_Whole_becomeSum_89 ?_
  refine wm_callVv hC hK hM (As := [.int (nI (cnt + 1))]) (rest := []) (wm_at_o hi) rfl (c_Whole_settle l D ad cA cR _ ln (va_up wd i (upd f cnt (nI (cy)))) i (cnt + 1) hi hz.1 (by omega)) kc_Whole_settle km_Whole_19 ki_Whole kn_Whole_settle ke_Whole_settle kd_Whole_settle ⟨rfl, rfl⟩ ⟨Nat.le_of_ble_eq_true rfl, Nat.le_of_ble_eq_true rfl⟩ rfl hl.1 (Nat.le_of_ble_eq_true rfl) d_Whole_becomeSum_90 (fun u H locs hp hM => ?_)
  refine wm_vret hC hK hM hr hlk ?_ d_Whole_becomeSum_93
  rw [va_up_self, wm_uu] at hp
  refine wm_up_of hp (by omega) (fun k h3 h4 h5 => ?_) ?_
  · rw [pk_un (by omega), hf k (by omega)]
    exact hz.2 k h4 h5
  · rw [wm_v_upds, wm_un' (by omega), hS, wm_rep_v hra (by omega) (by omega), wm_rep_v hrb (by omega) (by omega)]
set_option maxHeartbeats 4000000 in
set_option maxRecDepth 100000 in
theorem lp_Whole_becomeDifference {p : Program} {l : Launch} {e : Env} {R : Room} {s : State} {m : MethodId} {args : Array Value} {below : List Frame} {meth : Method} {c : Code} {Q : State → Prop} {D : va_G} {ad : Nat → Nat} {cA cR : ClassId} (hC : CallFix p m c b_Whole_becomeDifference 9 s args lw_T R_Whole) (hK : va_K D classes (wm_ty cA cR) s) (ln : Nat → Nat) (wd : Nat → Nat → Int32) (i a b cnt : Nat) (hi : i < 19) (ha : a < 19) (hb : b < 19) (hai : a ≠ i) (hbi : b ≠ i) (hcnt : cnt ≤ 2049)
    (hex : ∀ (cy : Nat) (f : Nat → Int32), (wm_v f cnt + wm_v (wd b) cnt = wm_v (wd a) cnt + cy * 4294967296 ^ cnt) → (cy ≤ 1) → ((∀ j, cnt ≤ j → f j = wd i j)) → ∀ (H : Heap) (locs : List Loc) (ls : Array Slot), wm_M D ad cA cR s (ln) (va_up wd i f) H locs → lv_has ls 9 [(0, .ref (ad i)), (1, .ref (ad a)), (2, .ref (ad b)), (3, .int (nI (cnt))), (4, .long (lN (cy))), (6, .int (nI (cnt)))] → W p l e R s m args below meth c H locs 0 0 Q (F0 m 70 ls [])) :
    ∀ (n : Nat) (k : Nat) (cy : Nat) (f : Nat → Int32), (k ≤ cnt) → (wm_v f k + wm_v (wd b) k = wm_v (wd a) k + cy * 4294967296 ^ k) → (cy ≤ 1) → (∀ j, k ≤ j → f j = wd i j) → cnt + 1 ≤ k + n → ∀ (H : Heap) (locs : List Loc) (ls : Array Slot), wm_M D ad cA cR s (ln) (va_up wd i f) H locs → lv_has ls 9 [(0, .ref (ad i)), (1, .ref (ad a)), (2, .ref (ad b)), (3, .int (nI (cnt))), (4, .long (lN (cy))), (6, .int (nI (k)))] → W p l e R s m args below meth c H locs 0 0 Q (F0 m 11 ls []) := by
  intro n
  induction n with
  | zero =>
    intro k cy f hk hS hc hf hn
    exact absurd hn (by omega)
  | succ n ih =>
    intro k cy f hk hS hc hf hn H locs ls hM hl
    have hua := wm_u_lt (wd a k)
    have hub := wm_u_lt (wd b k)
    refine lv_iload hC.1 hC.2.1 d_Whole_becomeDifference_11 (lv_at hl 5 rfl) ?_
    refine lv_iload_n hC.1 hC.2.1 d_Whole_becomeDifference_13 rfl (lv_at hl 3 rfl) ?_
    refine nv_icmp_ge (tgt := 70) hC (by omega) (by omega) d_Whole_becomeDifference_14 (by decide) (fun hc2 => ?_) (fun hc2 => ?_)
    · obtain rfl : k = cnt := by omega
      exact hex cy f hS hc hf H locs ls hM (lv_sub hl [0, 1, 2, 3, 4, 5] rfl)
    · refine lv_aload_n hC.1 hC.2.1 d_Whole_becomeDifference_17 rfl (lv_at hl 1 rfl) ?_
      refine wm_wds hC hK hM (j := a) ha kf_Whole_9 d_Whole_becomeDifference_18 ?_
      refine lv_iload hC.1 hC.2.1 d_Whole_becomeDifference_21 (lv_at hl 5 rfl) ?_
      refine wm_ald_o hC hK hM (j := a) (k := k) ha hai (by omega) d_Whole_becomeDifference_23 ?_
      refine nv_low hC kl_Whole_35 d_Whole_becomeDifference_24 d_Whole_becomeDifference_25 d_Whole_becomeDifference_28 ?_
      refine lv_aload_n hC.1 hC.2.1 d_Whole_becomeDifference_29 rfl (lv_at hl 2 rfl) ?_
      refine wm_wds hC hK hM (j := b) hb kf_Whole_9 d_Whole_becomeDifference_30 ?_
      refine lv_iload hC.1 hC.2.1 d_Whole_becomeDifference_33 (lv_at hl 5 rfl) ?_
      refine wm_ald_o hC hK hM (j := b) (k := k) hb hbi (by omega) d_Whole_becomeDifference_35 ?_
      refine nv_low hC kl_Whole_35 d_Whole_becomeDifference_36 d_Whole_becomeDifference_37 d_Whole_becomeDifference_40 ?_
      refine nz_lsubn hC d_Whole_becomeDifference_41 ?_
      refine lv_lload hC.1 hC.2.1 d_Whole_becomeDifference_42 (lv_at hl 4 rfl) ?_
      refine nz_lsubm hC d_Whole_becomeDifference_44 ?_
      refine lv_lstore (lv' := [(7, .long (lz_i (((wm_u (wd a k) : Nat) : Int) - ((wm_u (wd b k) : Nat) : Int) - ((cy : Nat) : Int)))), (0, .ref (ad i)), (1, .ref (ad a)), (2, .ref (ad b)), (3, .int (nI (cnt))), (4, .long (lN (cy))), (6, .int (nI (k)))]) hC.1 hC.2.1 d_Whole_becomeDifference_45 hl (by decide) rfl (fun ls hl => ?_)
      refine lv_aload_n hC.1 hC.2.1 d_Whole_becomeDifference_47 rfl (lv_at hl 1 rfl) ?_
      refine wm_wds hC hK hM (j := i) hi kf_Whole_9 d_Whole_becomeDifference_48 ?_
      refine lv_iload hC.1 hC.2.1 d_Whole_becomeDifference_51 (lv_at hl 6 rfl) ?_
      refine lv_lload hC.1 hC.2.1 d_Whole_becomeDifference_53 (lv_at hl 0 rfl) ?_
      refine nz_l2i hC d_Whole_becomeDifference_55 ?_
      refine wm_ast_s hC hK hM (k := k) hi (by omega) d_Whole_becomeDifference_56 (fun H locs hM => ?_)
      refine lv_lload hC.1 hC.2.1 d_Whole_becomeDifference_57 (lv_at hl 0 rfl) ?_
      refine lv_bipush (v := nI 63) hC.1 hC.2.1 d_Whole_becomeDifference_59 (by decide) ?_
      refine nz_63 hC (by omega) (by omega) d_Whole_becomeDifference_61 ?_
      refine lv_lstore (lv' := [(4, .long (lN (if ((wm_u (wd a k) : Nat) : Int) - ((wm_u (wd b k) : Nat) : Int) - ((cy : Nat) : Int) < 0 then 1 else 0))), (7, .long (lz_i (((wm_u (wd a k) : Nat) : Int) - ((wm_u (wd b k) : Nat) : Int) - ((cy : Nat) : Int)))), (0, .ref (ad i)), (1, .ref (ad a)), (2, .ref (ad b)), (3, .int (nI (cnt))), (6, .int (nI (k)))]) hC.1 hC.2.1 d_Whole_becomeDifference_62 hl (by decide) rfl (fun ls hl => ?_)
      refine lv_iinc (v := nI (k + 1)) (lv' := [(6, .int (nI (k + 1))), (4, .long (lN (if ((wm_u (wd a k) : Nat) : Int) - ((wm_u (wd b k) : Nat) : Int) - ((cy : Nat) : Int) < 0 then 1 else 0))), (7, .long (lz_i (((wm_u (wd a k) : Nat) : Int) - ((wm_u (wd b k) : Nat) : Int) - ((cy : Nat) : Int)))), (0, .ref (ad i)), (1, .ref (ad a)), (2, .ref (ad b)), (3, .int (nI (cnt)))]) hC.1 hC.2.1 d_Whole_becomeDifference_64 hl (k := 6) rfl (nv_inc _) (by decide) rfl (fun ls hl => ?_)
      refine lv_goto (tgt := 11) hC.1 hC.2.1 d_Whole_becomeDifference_67 (by decide) ?_
      exact ih (k + 1) (if ((wm_u (wd a k) : Nat) : Int) - ((wm_u (wd b k) : Nat) : Int) - ((cy : Nat) : Int) < 0 then 1 else 0) (upd f k (Int32.ofInt (((wm_u (wd a k) : Nat) : Int) - ((wm_u (wd b k) : Nat) : Int) - ((cy : Nat) : Int)))) (by omega) (by
        rw [wm_v_upds, lz_u, wm_v_s, wm_v_s, Nat.pow_succ]
        exact wm_bstep hS (wm_bword hua hub hc)) (by split <;> omega) (fun j hj => by rw [pk_un (by omega)]; exact hf j (by omega)) (by omega) H locs ls hM (lv_sub hl [3, 4, 5, 6, 1, 0] rfl)
set_option maxHeartbeats 4000000 in
set_option maxRecDepth 100000 in
theorem c_Whole_becomeDifference (l : Launch) (D : va_G) (ad : Nat → Nat) (cA cR : ClassId) (sz : Nat) (ln : Nat → Nat) (wd : Nat → Nat → Int32) (i a b Na Nb : Nat) (hi : i < 19) (ha : a < 19) (hb : b < 19) (hai : a ≠ i) (hbi : b ≠ i) (hz : wm_ze (wd i) (ln i)) (hra : wm_rep (wd a) (ln a) Na) (hrb : wm_rep (wd b) (ln b) Nb) (hla : ln a ≤ 2049) (hle : Nb ≤ Na) : Met l y_Whole_becomeDifference (Cond.code y_Whole_becomeDifference b_Whole_becomeDifference 9 none :: lw_T) ({ frames := 1, cells := 0, slots := 0, locals := 22 }) (va_Pc [.ref (ad i), .ref (ad a), .ref (ad b)] (wm_B D ad cA cR sz ln wd)) (va_Qv (fun u : wm_St => wm_up i (Na - Nb) ln wd u) (wm_E D ad cA cR sz) (wm_A ad sz)) 0 0 (wm_A ad sz) := by
  refine wm_met l (by decide) (Nat.le_of_ble_eq_true rfl) ?_
  intro p e s m below meth c ls hsz hC hK hr hlk hM hl
  subst hsz
  have hC : CallFix p m c b_Whole_becomeDifference 9 s _ lw_T R_Whole := hC
  have hl : lv_has ls 9 [(0, .ref (ad i)), (1, .ref (ad a)), (2, .ref (ad b))] := hl
  have hz1 := hz.1
  have hlb : ln b ≤ ln a := wm_rep_le hrb (Nat.lt_of_le_of_lt hle (wm_rep_lt hra))
  refine lv_aload_n hC.1 hC.2.1 d_Whole_becomeDifference_0 rfl (lv_at hl 1 rfl) ?_
  refine wm_len hC hK hM (j := a) ha kf_Whole_15 d_Whole_becomeDifference_1 ?_
  refine lv_istore_n (lv' := [(3, .int (nI (ln a))), (0, .ref (ad i)), (1, .ref (ad a)), (2, .ref (ad b))]) hC.1 hC.2.1 d_Whole_becomeDifference_4 rfl hl (by decide) rfl (fun ls hl => ?_)
  refine lv_lconst (v := lN 0) hC.1 hC.2.1 d_Whole_becomeDifference_5 (by decide) ?_
  refine lv_lstore (lv' := [(4, .long (lN (0))), (3, .int (nI (ln a))), (0, .ref (ad i)), (1, .ref (ad a)), (2, .ref (ad b))]) hC.1 hC.2.1 d_Whole_becomeDifference_6 hl (by decide) rfl (fun ls hl => ?_)
  refine lv_iconst (v := nI 0) hC.1 hC.2.1 d_Whole_becomeDifference_8 (by decide) ?_
  refine lv_istore (lv' := [(6, .int (nI (0))), (4, .long (lN (0))), (3, .int (nI (ln a))), (0, .ref (ad i)), (1, .ref (ad a)), (2, .ref (ad b))]) hC.1 hC.2.1 d_Whole_becomeDifference_9 hl (by decide) rfl (fun ls hl => ?_)
  have hM : wm_M D ad cA cR s (ln) (va_up wd i (wd i)) s.heap [] := by
    rw [wm_eta]; exact hM
  refine lp_Whole_becomeDifference hC hK ln wd i a b (ln a) hi ha hb hai hbi (by omega) (fun cy f hS hc hf H locs ls hM hl => ?_) (ln a + 1) 0 0 (wd i) (Nat.zero_le _) rfl (Nat.zero_le _) (fun _ _ => rfl) (by omega) _ _ _ hM (lv_sub hl [3, 4, 5, 2, 1, 0] rfl)
  refine lv_aload_n hC.1 hC.2.1 d_Whole_becomeDifference_70 rfl (lv_at hl 0 rfl) ?_
  refine lv_iload_n hC.1 hC.2.1 d_Whole_becomeDifference_71 rfl (lv_at hl 3 rfl) ?_
  refine wm_callVv hC hK hM (As := [.int (nI (ln a))]) (rest := []) (wm_at_o hi) rfl (c_Whole_settle l D ad cA cR _ ln (va_up wd i f) i (ln a) hi hz.1 (by omega)) kc_Whole_settle km_Whole_19 ki_Whole kn_Whole_settle ke_Whole_settle kd_Whole_settle ⟨rfl, rfl⟩ ⟨Nat.le_of_ble_eq_true rfl, Nat.le_of_ble_eq_true rfl⟩ rfl hl.1 (Nat.le_of_ble_eq_true rfl) d_Whole_becomeDifference_72 (fun u H locs hp hM => ?_)
  refine wm_vret hC hK hM hr hlk ?_ d_Whole_becomeDifference_75
  rw [va_up_self, wm_uu] at hp
  refine wm_up_of hp (by omega) (fun k h3 h4 h5 => ?_) ?_
  · rw [hf k (by omega)]
    exact hz.2 k h4 h5
  · rw [wm_rep_v hra (by omega) (by omega), wm_rep_v hrb (by omega) (by omega)] at hS
    have h6 := wm_v_lt f (ln a)
    rcases (show cy = 0 ∨ cy = 1 by omega) with z | z
    · subst z
      omega
    · subst z
      omega
end
section
set_option maxHeartbeats 4000000 in
set_option maxRecDepth 100000 in
theorem lp_Whole_becomeShiftedLeft {p : Program} {l : Launch} {e : Env} {R : Room} {s : State} {m : MethodId} {args : Array Value} {below : List Frame} {meth : Method} {c : Code} {Q : State → Prop} {D : va_G} {ad : Nat → Nat} {cA cR : ClassId} (hC : CallFix p m c b_Whole_becomeShiftedLeft 8 s args lw_T R_Whole) (hK : va_K D classes (wm_ty cA cR) s) (ln : Nat → Nat) (wd : Nat → Nat → Int32) (i a w o : Nat) (hi : i < 19) (ha : a < 19) (hai : a ≠ i) (ho : o < 32) (hfit : ln a + w + 1 ≤ 2050)
    (hex : ∀ (cy : Nat) (f : Nat → Int32), (wm_v (wm_off f w) (ln a) + cy * 4294967296 ^ (ln a) = wm_v (wd a) (ln a) * 2 ^ o) → (cy < 2 ^ o) → (∀ j, (j < w ∨ w + ln a ≤ j) → j < 2050 → f j = 0) → ∀ (H : Heap) (locs : List Loc) (ls : Array Slot), wm_M D ad cA cR s (va_up ln i 0) (va_up wd i f) H locs → lv_has ls 8 [(0, .ref (ad i)), (1, .ref (ad a)), (3, .int (nI (w))), (4, .int (nI (o))), (5, .long (lN (cy))), (7, .int (nI (ln a)))] → W p l e R s m args below meth c H locs 0 0 Q (F0 m 74 ls [])) :
    ∀ (n : Nat) (k : Nat) (cy : Nat) (f : Nat → Int32), (k ≤ ln a) → (wm_v (wm_off f w) k + cy * 4294967296 ^ k = wm_v (wd a) k * 2 ^ o) → (cy < 2 ^ o) → (∀ j, (j < w ∨ w + k ≤ j) → j < 2050 → f j = 0) → ln a + 1 ≤ k + n → ∀ (H : Heap) (locs : List Loc) (ls : Array Slot), wm_M D ad cA cR s (va_up ln i 0) (va_up wd i f) H locs → lv_has ls 8 [(0, .ref (ad i)), (1, .ref (ad a)), (3, .int (nI (w))), (4, .int (nI (o))), (5, .long (lN (cy))), (7, .int (nI (k)))] → W p l e R s m args below meth c H locs 0 0 Q (F0 m 20 ls []) := by
  intro n
  induction n with
  | zero =>
    intro k cy f hk hS hc hf hn
    exact absurd hn (by omega)
  | succ n ih =>
    intro k cy f hk hS hc hf hn H locs ls hM hl
    have hua := wm_u_lt (wd a k)
    have hP : 2 ^ o ≤ 2 ^ 31 := Nat.pow_le_pow_right (by decide) (by omega)
    have hq : wm_u (wd a k) * 2 ^ o ≤ 4294967295 * 2 ^ o := Nat.mul_le_mul_right _ (by omega)
    refine lv_iload hC.1 hC.2.1 d_Whole_becomeShiftedLeft_20 (lv_at hl 5 rfl) ?_
    refine lv_aload_n hC.1 hC.2.1 d_Whole_becomeShiftedLeft_22 rfl (lv_at hl 1 rfl) ?_
    refine wm_len hC hK hM (j := a) ha kf_Whole_15 d_Whole_becomeShiftedLeft_23 ?_
    refine nv_top (y := nI (ln a)) (by rw [va_up_ne _ _ hai]) ?_
    refine nv_icmp_ge (tgt := 74) hC (by omega) (by omega) d_Whole_becomeShiftedLeft_26 (by decide) (fun hc2 => ?_) (fun hc2 => ?_)
    · have ek : k = ln a := by omega
      subst ek
      exact hex cy f hS hc hf H locs ls hM (lv_sub hl [0, 1, 2, 3, 4, 5] rfl)
    · refine lv_lload hC.1 hC.2.1 d_Whole_becomeShiftedLeft_29 (lv_at hl 4 rfl) ?_
      refine lv_aload_n hC.1 hC.2.1 d_Whole_becomeShiftedLeft_31 rfl (lv_at hl 1 rfl) ?_
      refine wm_wds hC hK hM (j := a) ha kf_Whole_9 d_Whole_becomeShiftedLeft_32 ?_
      refine lv_iload hC.1 hC.2.1 d_Whole_becomeShiftedLeft_35 (lv_at hl 5 rfl) ?_
      refine wm_ald_o hC hK hM (j := a) (k := k) ha hai (by omega) d_Whole_becomeShiftedLeft_37 ?_
      refine nv_low hC kl_Whole_35 d_Whole_becomeShiftedLeft_38 d_Whole_becomeShiftedLeft_39 d_Whole_becomeShiftedLeft_42 ?_
      refine lv_iload hC.1 hC.2.1 d_Whole_becomeShiftedLeft_43 (lv_at hl 3 rfl) ?_
      refine nv_lshl hC (by omega) d_Whole_becomeShiftedLeft_45 ?_
      refine nv_por (k := o) hC hc (by omega) d_Whole_becomeShiftedLeft_46 ?_
      refine lv_lstore (lv' := [(5, .long (lN (cy + (wm_u (wd a k)) * 2 ^ o))), (0, .ref (ad i)), (1, .ref (ad a)), (3, .int (nI (w))), (4, .int (nI (o))), (7, .int (nI (k)))]) hC.1 hC.2.1 d_Whole_becomeShiftedLeft_47 hl (by decide) rfl (fun ls hl => ?_)
      refine lv_aload_n hC.1 hC.2.1 d_Whole_becomeShiftedLeft_49 rfl (lv_at hl 1 rfl) ?_
      refine wm_wds hC hK hM (j := i) hi kf_Whole_9 d_Whole_becomeShiftedLeft_50 ?_
      refine lv_iload hC.1 hC.2.1 d_Whole_becomeShiftedLeft_53 (lv_at hl 5 rfl) ?_
      refine lv_iload_n hC.1 hC.2.1 d_Whole_becomeShiftedLeft_55 rfl (lv_at hl 3 rfl) ?_
      refine nv_iadd hC d_Whole_becomeShiftedLeft_56 ?_
      refine lv_lload hC.1 hC.2.1 d_Whole_becomeShiftedLeft_57 (lv_at hl 0 rfl) ?_
      refine nv_l2i hC d_Whole_becomeShiftedLeft_59 ?_
      refine wm_ast_s hC hK hM (k := k + w) hi (by omega) d_Whole_becomeShiftedLeft_60 (fun H locs hM => ?_)
      refine lv_lload hC.1 hC.2.1 d_Whole_becomeShiftedLeft_61 (lv_at hl 0 rfl) ?_
      refine lv_bipush (v := nI 32) hC.1 hC.2.1 d_Whole_becomeShiftedLeft_63 (by decide) ?_
      refine nv_lushr32 hC (by omega) d_Whole_becomeShiftedLeft_65 ?_
      refine lv_lstore (lv' := [(5, .long (lN ((cy + (wm_u (wd a k)) * 2 ^ o) / 4294967296))), (0, .ref (ad i)), (1, .ref (ad a)), (3, .int (nI (w))), (4, .int (nI (o))), (7, .int (nI (k)))]) hC.1 hC.2.1 d_Whole_becomeShiftedLeft_66 hl (by decide) rfl (fun ls hl => ?_)
      refine lv_iinc (v := nI (k + 1)) (lv' := [(7, .int (nI (k + 1))), (5, .long (lN ((cy + (wm_u (wd a k)) * 2 ^ o) / 4294967296))), (0, .ref (ad i)), (1, .ref (ad a)), (3, .int (nI (w))), (4, .int (nI (o)))]) hC.1 hC.2.1 d_Whole_becomeShiftedLeft_68 hl (k := 5) rfl (nv_inc _) (by decide) rfl (fun ls hl => ?_)
      refine lv_goto (tgt := 20) hC.1 hC.2.1 d_Whole_becomeShiftedLeft_71 (by decide) ?_
      exact ih (k + 1) ((cy + wm_u (wd a k) * 2 ^ o) / 4294967296) (upd f (k + w) (nI (cy + wm_u (wd a k) * 2 ^ o))) (by omega) (by
        have h := wm_chain (d := wm_u (wd a k) * 2 ^ o) hS
        rw [wm_off_upd', h, wm_v_s, Nat.add_mul, Nat.mul_right_comm]) (by
        rw [Nat.div_lt_iff_lt_mul (by decide)]
        omega) (fun j h1 h2 => by rw [pk_un (by omega)]; exact hf j (by omega) h2) (by omega) H locs ls hM (lv_sub hl [2, 3, 4, 5, 1, 0] rfl)
set_option maxHeartbeats 4000000 in
set_option maxRecDepth 100000 in
theorem c_Whole_becomeShiftedLeft (l : Launch) (D : va_G) (ad : Nat → Nat) (cA cR : ClassId) (sz : Nat) (ln : Nat → Nat) (wd : Nat → Nat → Int32) (i a Na cnt : Nat) (hi : i < 19) (ha : a < 19) (hai : a ≠ i) (hz : wm_ze (wd i) (ln i)) (hra : wm_rep (wd a) (ln a) Na) (hcnt : cnt < 2 ^ 31) (hfit : ln a + cnt / 32 + 1 ≤ 2050) : Met l y_Whole_becomeShiftedLeft (Cond.code y_Whole_becomeShiftedLeft b_Whole_becomeShiftedLeft 8 none :: lw_T) ({ frames := 2, cells := 0, slots := 0, locals := 42 }) (va_Pc [.ref (ad i), .ref (ad a), .int (nI (cnt))] (wm_B D ad cA cR sz ln wd)) (va_Qv (fun u : wm_St => wm_up i (Na * 2 ^ cnt) ln wd u) (wm_E D ad cA cR sz) (wm_A ad sz)) 0 0 (wm_A ad sz) := by
  refine wm_met l (by decide) (Nat.le_of_ble_eq_true rfl) ?_
  intro p e s m below meth c ls hsz hC hK hr hlk hM hl
  subst hsz
  have hC : CallFix p m c b_Whole_becomeShiftedLeft 8 s _ lw_T R_Whole := hC
  have hl : lv_has ls 8 [(0, .ref (ad i)), (1, .ref (ad a)), (2, .int (nI (cnt)))] := hl
  have hz1 := hz.1
  obtain ⟨w, hw⟩ : ∃ z, z = cnt / 2 ^ 5 := ⟨_, rfl⟩
  obtain ⟨o, ho⟩ : ∃ z, z = cnt % 2 ^ 5 := ⟨_, rfl⟩
  have ho2 : o < 32 := by omega
  have hP : 2 ^ o ≤ 2 ^ 31 := Nat.pow_le_pow_right (by decide) (by omega)
  refine lv_iload_n hC.1 hC.2.1 d_Whole_becomeShiftedLeft_0 rfl (lv_at hl 2 rfl) ?_
  refine lv_iconst (v := nI 5) hC.1 hC.2.1 d_Whole_becomeShiftedLeft_1 (by decide) ?_
  refine nv_iushr hC (by omega) (by decide) d_Whole_becomeShiftedLeft_2 ?_
  refine nv_top (y := nI (w)) (by rw [hw]) ?_
  refine lv_istore_n (lv' := [(3, .int (nI (w))), (0, .ref (ad i)), (1, .ref (ad a)), (2, .int (nI (cnt)))]) hC.1 hC.2.1 d_Whole_becomeShiftedLeft_3 rfl hl (by decide) rfl (fun ls hl => ?_)
  refine lv_iload_n hC.1 hC.2.1 d_Whole_becomeShiftedLeft_4 rfl (lv_at hl 3 rfl) ?_
  refine lv_bipush (v := nI 31) hC.1 hC.2.1 d_Whole_becomeShiftedLeft_5 (by decide) ?_
  refine nv_iand (k := 5) hC (by omega) (by decide) d_Whole_becomeShiftedLeft_7 ?_
  refine nv_top (y := nI (o)) (by rw [ho]) ?_
  refine lv_istore (lv' := [(4, .int (nI (o))), (3, .int (nI (w))), (0, .ref (ad i)), (1, .ref (ad a)), (2, .int (nI (cnt)))]) hC.1 hC.2.1 d_Whole_becomeShiftedLeft_8 hl (by decide) rfl (fun ls hl => ?_)
  refine lv_aload_n hC.1 hC.2.1 d_Whole_becomeShiftedLeft_10 rfl (lv_at hl 2 rfl) ?_
  refine wm_callVv hC hK hM (As := []) (rest := []) (wm_at_o hi) rfl (c_Whole_clear l D ad cA cR _ ln wd i hi hz.1) kc_Whole_clear km_Whole_37 ki_Whole kn_Whole_clear ke_Whole_clear kd_Whole_clear ⟨rfl, rfl⟩ ⟨Nat.le_of_ble_eq_true rfl, Nat.le_of_ble_eq_true rfl⟩ rfl hl.1 (Nat.le_of_ble_eq_true rfl) d_Whole_becomeShiftedLeft_11 (fun u H locs hp hM => ?_)
  subst hp
  have hM : wm_M D ad cA cR s (va_up ln i 0) (va_up wd i (wm_clr (wd i) 0 (ln i))) H locs := by
    exact hM
  refine lv_lconst (v := lN 0) hC.1 hC.2.1 d_Whole_becomeShiftedLeft_14 (by decide) ?_
  refine lv_lstore (lv' := [(5, .long (lN (0))), (4, .int (nI (o))), (3, .int (nI (w))), (0, .ref (ad i)), (1, .ref (ad a)), (2, .int (nI (cnt)))]) hC.1 hC.2.1 d_Whole_becomeShiftedLeft_15 hl (by decide) rfl (fun ls hl => ?_)
  refine lv_iconst (v := nI 0) hC.1 hC.2.1 d_Whole_becomeShiftedLeft_17 (by decide) ?_
  refine lv_istore (lv' := [(7, .int (nI (0))), (5, .long (lN (0))), (4, .int (nI (o))), (3, .int (nI (w))), (0, .ref (ad i)), (1, .ref (ad a)), (2, .int (nI (cnt)))]) hC.1 hC.2.1 d_Whole_becomeShiftedLeft_18 hl (by decide) rfl (fun ls hl => ?_)
  refine lp_Whole_becomeShiftedLeft hC hK ln wd i a w o hi ha hai ho2 (by omega) (fun cy f hS hc hf H locs ls hM hl => ?_) (ln a + 1) 0 0 (wm_clr (wd i) 0 (ln i)) (Nat.zero_le _) (by rw [wm_v_0, wm_v_0]; simp) (Nat.pow_pos (by decide)) (fun j _ h2 => by
    by_cases h3 : j < ln i
    · exact wm_clr_in (Nat.zero_le _) h3
    · rw [wm_clr_hi (by omega)]; exact hz.2 j (by omega) h2) (by omega) _ _ _ hM (lv_sub hl [4, 5, 3, 2, 1, 0] rfl)
  refine lv_aload_n hC.1 hC.2.1 d_Whole_becomeShiftedLeft_74 rfl (lv_at hl 0 rfl) ?_
  refine wm_wds hC hK hM (j := i) hi kf_Whole_9 d_Whole_becomeShiftedLeft_75 ?_
  refine lv_aload_n hC.1 hC.2.1 d_Whole_becomeShiftedLeft_78 rfl (lv_at hl 1 rfl) ?_
  refine wm_len hC hK hM (j := a) ha kf_Whole_15 d_Whole_becomeShiftedLeft_79 ?_
  refine nv_top (y := nI (ln a)) (by rw [va_up_ne _ _ hai]) ?_
  refine lv_iload_n hC.1 hC.2.1 d_Whole_becomeShiftedLeft_82 rfl (lv_at hl 2 rfl) ?_
  refine nv_iadd hC d_Whole_becomeShiftedLeft_83 ?_
  refine lv_lload hC.1 hC.2.1 d_Whole_becomeShiftedLeft_84 (lv_at hl 4 rfl) ?_
  refine nv_l2i hC d_Whole_becomeShiftedLeft_86 ?_
  refine wm_ast_s hC hK hM (k := (ln a) + w) hi (by omega) d_Whole_becomeShiftedLeft_87 (fun H locs hM => ?_)
  refine lv_aload_n hC.1 hC.2.1 d_Whole_becomeShiftedLeft_88 rfl (lv_at hl 0 rfl) ?_
  refine lv_aload_n hC.1 hC.2.1 d_Whole_becomeShiftedLeft_89 rfl (lv_at hl 1 rfl) ?_
  refine wm_len hC hK hM (j := a) ha kf_Whole_15 d_Whole_becomeShiftedLeft_90 ?_
  refine nv_top (y := nI (ln a)) (by rw [va_up_ne _ _ hai]) ?_
  refine lv_iload_n hC.1 hC.2.1 d_Whole_becomeShiftedLeft_93 rfl (lv_at hl 2 rfl) ?_
  refine nv_iadd hC d_Whole_becomeShiftedLeft_94 ?_
  refine lv_iconst (v := nI 1) hC.1 hC.2.1 d_Whole_becomeShiftedLeft_95 (by decide) ?_
  refine nv_iadd hC d_Whole_becomeShiftedLeft_96 ?_
  refine wm_callVv hC hK hM (As := [.int (nI (((ln a) + w) + 1))]) (rest := []) (wm_at_o hi) rfl (c_Whole_settle l D ad cA cR _ (va_up ln i 0) (va_up wd i (upd f ((ln a) + w) (nI (cy)))) i (ln a + w + 1) hi (by rw [va_up_self]; omega) (by omega)) kc_Whole_settle km_Whole_19 ki_Whole kn_Whole_settle ke_Whole_settle kd_Whole_settle ⟨rfl, rfl⟩ ⟨Nat.le_of_ble_eq_true rfl, Nat.le_of_ble_eq_true rfl⟩ rfl hl.1 (Nat.le_of_ble_eq_true rfl) d_Whole_becomeShiftedLeft_97 (fun u H locs hp hM => ?_)
  refine wm_vret hC hK hM hr hlk ?_ d_Whole_becomeShiftedLeft_100
  rw [va_up_self, va_up_self, wm_uu, wm_uu] at hp
  refine wm_up_of hp (by omega) (fun k h3 h4 h5 => ?_) ?_
  · rw [pk_un (by omega)]
    exact hf k (Or.inr (by omega)) h5
  · rw [show ln a + w + 1 = w + (ln a + 1) by omega, wm_v_lead (fun j hj => by rw [pk_un (by omega)]; exact hf j (Or.inl hj) (by omega)), wm_off_upd', wm_v_upds, wm_un' (by omega), hS, hra.2.2.2, Nat.mul_left_comm, hw, ho, wm_cnt]
set_option maxHeartbeats 4000000 in
set_option maxRecDepth 100000 in
theorem lp_Whole_becomeShiftedRight {p : Program} {l : Launch} {e : Env} {R : Room} {s : State} {m : MethodId} {args : Array Value} {below : List Frame} {meth : Method} {c : Code} {Q : State → Prop} {D : va_G} {ad : Nat → Nat} {cA cR : ClassId} (hC : CallFix p m c b_Whole_becomeShiftedRight 9 s args lw_T R_Whole) (hK : va_K D classes (wm_ty cA cR) s) (ln : Nat → Nat) (wd : Nat → Nat → Int32) (i a w o pl : Nat) (hi : i < 19) (ha : a < 19) (ho : o < 32) (hw : pl + w ≤ 2049 ∨ pl = 0)
    (hex : ∀ (f : Nat → Int32), (∀ j, j < pl → wm_u (f j) = (wm_u (wd a (j + w + 1)) * 2 ^ 32 + wm_u (wd a (j + w))) / 2 ^ o % 4294967296) → (∀ j, pl ≤ j → f j = wd i j) → ∀ (H : Heap) (locs : List Loc) (ls : Array Slot), wm_M D ad cA cR s (ln) (va_up wd i f) H locs → lv_has ls 9 [(0, .ref (ad i)), (1, .ref (ad a)), (3, .int (nI (w))), (4, .int (nI (o))), (5, .int (nI (pl))), (6, .int (nI (pl)))] → W p l e R s m args below meth c H locs 0 0 Q (F0 m 83 ls [])) :
    ∀ (n : Nat) (k : Nat) (f : Nat → Int32), (k ≤ pl) → (∀ j, j < k → wm_u (f j) = (wm_u (wd a (j + w + 1)) * 2 ^ 32 + wm_u (wd a (j + w))) / 2 ^ o % 4294967296) → (∀ j, k ≤ j → f j = wd i j) → pl + 1 ≤ k + n → ∀ (H : Heap) (locs : List Loc) (ls : Array Slot), wm_M D ad cA cR s (ln) (va_up wd i f) H locs → lv_has ls 9 [(0, .ref (ad i)), (1, .ref (ad a)), (3, .int (nI (w))), (4, .int (nI (o))), (5, .int (nI (pl))), (6, .int (nI (k)))] → W p l e R s m args below meth c H locs 0 0 Q (F0 m 25 ls []) := by
  intro n
  induction n with
  | zero =>
    intro k f hk hv hf hn
    exact absurd hn (by omega)
  | succ n ih =>
    intro k f hk hv hf hn H locs ls hM hl
    have hu1 := wm_u_lt (wd a (k + w + 1))
    have hu2 := wm_u_lt (wd a (k + w))
    refine lv_iload hC.1 hC.2.1 d_Whole_becomeShiftedRight_25 (lv_at hl 5 rfl) ?_
    refine lv_iload hC.1 hC.2.1 d_Whole_becomeShiftedRight_27 (lv_at hl 4 rfl) ?_
    refine nv_icmp_ge (tgt := 83) hC (by omega) (by omega) d_Whole_becomeShiftedRight_29 (by decide) (fun hc2 => ?_) (fun hc2 => ?_)
    · have ek : k = pl := by omega
      subst ek
      exact hex f hv hf H locs ls hM (lv_sub hl [0, 1, 2, 3, 4, 5] rfl)
    · refine lv_aload_n hC.1 hC.2.1 d_Whole_becomeShiftedRight_32 rfl (lv_at hl 1 rfl) ?_
      refine wm_wds hC hK hM (j := a) ha kf_Whole_9 d_Whole_becomeShiftedRight_33 ?_
      refine lv_iload hC.1 hC.2.1 d_Whole_becomeShiftedRight_36 (lv_at hl 5 rfl) ?_
      refine lv_iload_n hC.1 hC.2.1 d_Whole_becomeShiftedRight_38 rfl (lv_at hl 2 rfl) ?_
      refine nv_iadd hC d_Whole_becomeShiftedRight_39 ?_
      refine lv_iconst (v := nI 1) hC.1 hC.2.1 d_Whole_becomeShiftedRight_40 (by decide) ?_
      refine nv_iadd hC d_Whole_becomeShiftedRight_41 ?_
      refine wm_ald hC hK hM (j := a) (k := (k + w) + 1) ha (by omega) d_Whole_becomeShiftedRight_42 ?_
      refine nv_top (y := wd a ((k + w) + 1)) (wm_rdge hf (by omega)) ?_
      refine nv_hi hC d_Whole_becomeShiftedRight_43 d_Whole_becomeShiftedRight_44 d_Whole_becomeShiftedRight_46 ?_
      refine lv_aload_n hC.1 hC.2.1 d_Whole_becomeShiftedRight_47 rfl (lv_at hl 1 rfl) ?_
      refine wm_wds hC hK hM (j := a) ha kf_Whole_9 d_Whole_becomeShiftedRight_48 ?_
      refine lv_iload hC.1 hC.2.1 d_Whole_becomeShiftedRight_51 (lv_at hl 5 rfl) ?_
      refine lv_iload_n hC.1 hC.2.1 d_Whole_becomeShiftedRight_53 rfl (lv_at hl 2 rfl) ?_
      refine nv_iadd hC d_Whole_becomeShiftedRight_54 ?_
      refine wm_ald hC hK hM (j := a) (k := k + w) ha (by omega) d_Whole_becomeShiftedRight_55 ?_
      refine nv_top (y := wd a (k + w)) (wm_rdge hf (by omega)) ?_
      refine nv_low hC kl_Whole_35 d_Whole_becomeShiftedRight_56 d_Whole_becomeShiftedRight_57 d_Whole_becomeShiftedRight_60 ?_
      refine nv_pair (k := 32) hC (by omega) (by omega) d_Whole_becomeShiftedRight_61 ?_
      refine lv_lstore (lv' := [(7, .long (lN (wm_u (wd a ((k + w) + 1)) * 2 ^ 32 + (wm_u (wd a (k + w)))))), (0, .ref (ad i)), (1, .ref (ad a)), (3, .int (nI (w))), (4, .int (nI (o))), (5, .int (nI (pl))), (6, .int (nI (k)))]) hC.1 hC.2.1 d_Whole_becomeShiftedRight_62 hl (by decide) rfl (fun ls hl => ?_)
      refine lv_aload_n hC.1 hC.2.1 d_Whole_becomeShiftedRight_64 rfl (lv_at hl 1 rfl) ?_
      refine wm_wds hC hK hM (j := i) hi kf_Whole_9 d_Whole_becomeShiftedRight_65 ?_
      refine lv_iload hC.1 hC.2.1 d_Whole_becomeShiftedRight_68 (lv_at hl 6 rfl) ?_
      refine lv_lload hC.1 hC.2.1 d_Whole_becomeShiftedRight_70 (lv_at hl 0 rfl) ?_
      refine lv_iload hC.1 hC.2.1 d_Whole_becomeShiftedRight_72 (lv_at hl 4 rfl) ?_
      refine nv_lushr hC (by omega) (by omega) d_Whole_becomeShiftedRight_74 ?_
      refine nv_l2i hC d_Whole_becomeShiftedRight_75 ?_
      refine wm_ast_s hC hK hM (k := k) hi (by omega) d_Whole_becomeShiftedRight_76 (fun H locs hM => ?_)
      refine lv_iinc (v := nI (k + 1)) (lv' := [(6, .int (nI (k + 1))), (7, .long (lN (wm_u (wd a ((k + w) + 1)) * 2 ^ 32 + (wm_u (wd a (k + w)))))), (0, .ref (ad i)), (1, .ref (ad a)), (3, .int (nI (w))), (4, .int (nI (o))), (5, .int (nI (pl)))]) hC.1 hC.2.1 d_Whole_becomeShiftedRight_77 hl (k := 6) rfl (nv_inc _) (by decide) rfl (fun ls hl => ?_)
      refine lv_goto (tgt := 25) hC.1 hC.2.1 d_Whole_becomeShiftedRight_80 (by decide) ?_
      exact ih (k + 1) (upd f k (nI ((wm_u (wd a (k + w + 1)) * 2 ^ 32 + wm_u (wd a (k + w))) / 2 ^ o))) (by omega) (fun j hj => by
        by_cases e : j = k
        · subst e
          rw [pk_us, wm_un]
        · rw [pk_un e]
          exact hv j (by omega)) (fun j hj => by rw [pk_un (by omega)]; exact hf j (by omega)) (by omega) H locs ls hM (lv_sub hl [2, 3, 4, 5, 6, 0] rfl)
set_option maxHeartbeats 4000000 in
set_option maxRecDepth 100000 in
theorem c_Whole_becomeShiftedRight (l : Launch) (D : va_G) (ad : Nat → Nat) (cA cR : ClassId) (sz : Nat) (ln : Nat → Nat) (wd : Nat → Nat → Int32) (i a Na cnt : Nat) (hi : i < 19) (ha : a < 19) (hz : wm_ze (wd i) (ln i)) (hra : wm_rep (wd a) (ln a) Na) (hla : ln a ≤ 2049) (hcnt : cnt < 2 ^ 31) : Met l y_Whole_becomeShiftedRight (Cond.code y_Whole_becomeShiftedRight b_Whole_becomeShiftedRight 9 none :: lw_T) ({ frames := 1, cells := 0, slots := 0, locals := 23 }) (va_Pc [.ref (ad i), .ref (ad a), .int (nI (cnt))] (wm_B D ad cA cR sz ln wd)) (va_Qv (fun u : wm_St => wm_up i (Na / 2 ^ cnt) ln wd u) (wm_E D ad cA cR sz) (wm_A ad sz)) 0 0 (wm_A ad sz) := by
  refine wm_met l (by decide) (Nat.le_of_ble_eq_true rfl) ?_
  intro p e s m below meth c ls hsz hC hK hr hlk hM hl
  subst hsz
  have hC : CallFix p m c b_Whole_becomeShiftedRight 9 s _ lw_T R_Whole := hC
  have hl : lv_has ls 9 [(0, .ref (ad i)), (1, .ref (ad a)), (2, .int (nI (cnt)))] := hl
  have hz1 := hz.1
  obtain ⟨w, hw⟩ : ∃ z, z = cnt / 2 ^ 5 := ⟨_, rfl⟩
  obtain ⟨o, ho⟩ : ∃ z, z = cnt % 2 ^ 5 := ⟨_, rfl⟩
  have ho2 : o < 32 := by omega
  refine lv_iload_n hC.1 hC.2.1 d_Whole_becomeShiftedRight_0 rfl (lv_at hl 2 rfl) ?_
  refine lv_iconst (v := nI 5) hC.1 hC.2.1 d_Whole_becomeShiftedRight_1 (by decide) ?_
  refine nv_iushr hC (by omega) (by decide) d_Whole_becomeShiftedRight_2 ?_
  refine nv_top (y := nI (w)) (by rw [hw]) ?_
  refine lv_istore_n (lv' := [(3, .int (nI (w))), (0, .ref (ad i)), (1, .ref (ad a)), (2, .int (nI (cnt)))]) hC.1 hC.2.1 d_Whole_becomeShiftedRight_3 rfl hl (by decide) rfl (fun ls hl => ?_)
  refine lv_iload_n hC.1 hC.2.1 d_Whole_becomeShiftedRight_4 rfl (lv_at hl 3 rfl) ?_
  refine lv_bipush (v := nI 31) hC.1 hC.2.1 d_Whole_becomeShiftedRight_5 (by decide) ?_
  refine nv_iand (k := 5) hC (by omega) (by decide) d_Whole_becomeShiftedRight_7 ?_
  refine nv_top (y := nI (o)) (by rw [ho]) ?_
  refine lv_istore (lv' := [(4, .int (nI (o))), (3, .int (nI (w))), (0, .ref (ad i)), (1, .ref (ad a)), (2, .int (nI (cnt)))]) hC.1 hC.2.1 d_Whole_becomeShiftedRight_8 hl (by decide) rfl (fun ls hl => ?_)
  refine lv_iconst (v := nI 0) hC.1 hC.2.1 d_Whole_becomeShiftedRight_10 (by decide) ?_
  refine lv_aload_n hC.1 hC.2.1 d_Whole_becomeShiftedRight_11 rfl (lv_at hl 3 rfl) ?_
  refine wm_len hC hK hM (j := a) ha kf_Whole_15 d_Whole_becomeShiftedRight_12 ?_
  refine lv_iload_n hC.1 hC.2.1 d_Whole_becomeShiftedRight_15 rfl (lv_at hl 1 rfl) ?_
  refine lv_isub hC.1 hC.2.1 d_Whole_becomeShiftedRight_16 ?_
  refine nv_mmax hC hl.1 kj_Whole_29 kj_s_max ki_Math kj_c_max (Nat.le_of_ble_eq_true rfl) (Nat.le_of_ble_eq_true rfl) d_Whole_becomeShiftedRight_17 ?_
  refine nv_top (y := nI (ln a - w)) (nv_max0 (by omega) (by omega)) ?_
  refine lv_istore (lv' := [(5, .int (nI (ln a - w))), (4, .int (nI (o))), (3, .int (nI (w))), (0, .ref (ad i)), (1, .ref (ad a)), (2, .int (nI (cnt)))]) hC.1 hC.2.1 d_Whole_becomeShiftedRight_20 hl (by decide) rfl (fun ls hl => ?_)
  refine lv_iconst (v := nI 0) hC.1 hC.2.1 d_Whole_becomeShiftedRight_22 (by decide) ?_
  refine lv_istore (lv' := [(6, .int (nI (0))), (5, .int (nI (ln a - w))), (4, .int (nI (o))), (3, .int (nI (w))), (0, .ref (ad i)), (1, .ref (ad a)), (2, .int (nI (cnt)))]) hC.1 hC.2.1 d_Whole_becomeShiftedRight_23 hl (by decide) rfl (fun ls hl => ?_)
  have hM : wm_M D ad cA cR s (ln) (va_up wd i (wd i)) s.heap [] := by
    rw [wm_eta]; exact hM
  refine lp_Whole_becomeShiftedRight hC hK ln wd i a w o (ln a - w) hi ha ho2 (by omega) (fun f hv hf H locs ls hM hl => ?_) (ln a - w + 1) 0 (wd i) (Nat.zero_le _) (fun j hj => absurd hj (by omega)) (fun _ _ => rfl) (by omega) _ _ _ hM (lv_sub hl [4, 5, 3, 2, 1, 0] rfl)
  refine lv_aload_n hC.1 hC.2.1 d_Whole_becomeShiftedRight_83 rfl (lv_at hl 0 rfl) ?_
  refine lv_iload hC.1 hC.2.1 d_Whole_becomeShiftedRight_84 (lv_at hl 4 rfl) ?_
  refine wm_callVv hC hK hM (As := [.int (nI (ln a - w))]) (rest := []) (wm_at_o hi) rfl (c_Whole_settle l D ad cA cR _ ln (va_up wd i f) i (ln a - w) hi hz.1 (by omega)) kc_Whole_settle km_Whole_19 ki_Whole kn_Whole_settle ke_Whole_settle kd_Whole_settle ⟨rfl, rfl⟩ ⟨Nat.le_of_ble_eq_true rfl, Nat.le_of_ble_eq_true rfl⟩ rfl hl.1 (Nat.le_of_ble_eq_true rfl) d_Whole_becomeShiftedRight_86 (fun u H locs hp hM => ?_)
  refine wm_vret hC hK hM hr hlk ?_ d_Whole_becomeShiftedRight_89
  rw [va_up_self, wm_uu] at hp
  refine wm_up_of hp (by omega) (fun k h3 h4 h5 => ?_) ?_
  · rw [hf k (by omega)]
    exact hz.2 k h4 h5
  · refine wm_of_dig' (fun j hj => ?_) ?_
    · rw [hv j hj, ← wm_cnt cnt, ← hw, ← ho, wm_shr_dig ho2, wm_rep_dig hra (by omega), wm_rep_dig hra (by omega)]
    · rw [← wm_cnt cnt, ← hw, ← ho]
      exact wm_shr_lt (wm_rep_lt hra)
end
section
theorem wm_shl1 {o : Nat} (ho : o < 32) : (nI 1) <<< (nI o &&& 31) = nI (2 ^ o) := by
  have h : 2 ^ o ≤ 2 ^ 31 := Nat.pow_le_pow_right (by decide) (by omega)
  rw [pk_shlN (nI o &&& 31) o (wm_s_l o ho) (by omega), Nat.one_mul]
theorem wm_mask1 {x : Int32} {o : Nat} (ho : o < 32) : x &&& nI (2 ^ o - 1) = nI (wm_u x % 2 ^ o) := by
  have h : 2 ^ o ≤ 2 ^ 31 := Nat.pow_le_pow_right (by decide) (by omega)
  exact pk_and x o (pk_tn (by omega))
end
section
set_option maxHeartbeats 4000000 in
set_option maxRecDepth 100000 in
theorem lp_Whole_becomePairs {p : Program} {l : Launch} {e : Env} {R : Room} {s : State} {m : MethodId} {args : Array Value} {below : List Frame} {meth : Method} {c : Code} {Q : State → Prop} {D : va_G} {ad : Nat → Nat} {cA cR : ClassId} (hC : CallFix p m c b_Whole_becomePairs 5 s args lw_T R_Whole) (hK : va_K D classes (wm_ty cA cR) s) (ln : Nat → Nat) (wd : Nat → Nat → Int32) (i p0 cnt : Nat) (hi : i < 19) (hp0 : p0 < 2 ^ 64) (hcnt : cnt ≤ 1024)
    (hex : ∀ (f : Nat → Int32), (wm_v f (2 * cnt) = wm_pr p0 cnt) → (∀ j, 2 * cnt ≤ j → f j = wd i j) → ∀ (H : Heap) (locs : List Loc) (ls : Array Slot), wm_M D ad cA cR s (ln) (va_up wd i f) H locs → lv_has ls 5 [(0, .ref (ad i)), (1, .long (lN (p0))), (3, .int (nI (cnt))), (4, .int (nI (cnt)))] → W p l e R s m args below meth c H locs 0 0 Q (F0 m 42 ls [])) :
    ∀ (n : Nat) (k : Nat) (f : Nat → Int32), (k ≤ cnt) → (wm_v f (2 * k) = wm_pr p0 k) → (∀ j, 2 * k ≤ j → f j = wd i j) → cnt + 1 ≤ k + n → ∀ (H : Heap) (locs : List Loc) (ls : Array Slot), wm_M D ad cA cR s (ln) (va_up wd i f) H locs → lv_has ls 5 [(0, .ref (ad i)), (1, .long (lN (p0))), (3, .int (nI (cnt))), (4, .int (nI (k)))] → W p l e R s m args below meth c H locs 0 0 Q (F0 m 3 ls []) := by
  intro n
  induction n with
  | zero =>
    intro k f hk hS hf hn
    exact absurd hn (by omega)
  | succ n ih =>
    intro k f hk hS hf hn H locs ls hM hl
    refine lv_iload hC.1 hC.2.1 d_Whole_becomePairs_3 (lv_at hl 3 rfl) ?_
    refine lv_iload_n hC.1 hC.2.1 d_Whole_becomePairs_5 rfl (lv_at hl 2 rfl) ?_
    refine nv_icmp_ge (tgt := 42) hC (by omega) (by omega) d_Whole_becomePairs_6 (by decide) (fun hc2 => ?_) (fun hc2 => ?_)
    · have ek : k = cnt := by omega
      subst ek
      exact hex f hS hf H locs ls hM (lv_sub hl [0, 1, 2, 3] rfl)
    · refine lv_aload_n hC.1 hC.2.1 d_Whole_becomePairs_9 rfl (lv_at hl 0 rfl) ?_
      refine wm_wds hC hK hM (j := i) hi kf_Whole_9 d_Whole_becomePairs_10 ?_
      refine lv_iconst (v := nI 2) hC.1 hC.2.1 d_Whole_becomePairs_13 (by decide) ?_
      refine lv_iload hC.1 hC.2.1 d_Whole_becomePairs_14 (lv_at hl 3 rfl) ?_
      refine nv_imul hC d_Whole_becomePairs_16 ?_
      refine lv_lload_n hC.1 hC.2.1 d_Whole_becomePairs_17 rfl (lv_at hl 1 rfl) ?_
      refine nv_l2i hC d_Whole_becomePairs_18 ?_
      refine wm_ast_s hC hK hM (k := 2 * k) hi (by omega) d_Whole_becomePairs_19 (fun H locs hM => ?_)
      refine lv_aload_n hC.1 hC.2.1 d_Whole_becomePairs_20 rfl (lv_at hl 0 rfl) ?_
      refine wm_wds hC hK hM (j := i) hi kf_Whole_9 d_Whole_becomePairs_21 ?_
      refine lv_iconst (v := nI 2) hC.1 hC.2.1 d_Whole_becomePairs_24 (by decide) ?_
      refine lv_iload hC.1 hC.2.1 d_Whole_becomePairs_25 (lv_at hl 3 rfl) ?_
      refine nv_imul hC d_Whole_becomePairs_27 ?_
      refine lv_iconst (v := nI 1) hC.1 hC.2.1 d_Whole_becomePairs_28 (by decide) ?_
      refine nv_iadd hC d_Whole_becomePairs_29 ?_
      refine lv_lload_n hC.1 hC.2.1 d_Whole_becomePairs_30 rfl (lv_at hl 1 rfl) ?_
      refine lv_bipush (v := nI 32) hC.1 hC.2.1 d_Whole_becomePairs_31 (by decide) ?_
      refine nv_lushr32 hC (by omega) d_Whole_becomePairs_33 ?_
      refine nv_l2i hC d_Whole_becomePairs_34 ?_
      refine wm_ast_s hC hK hM (k := (2 * k) + 1) hi (by omega) d_Whole_becomePairs_35 (fun H locs hM => ?_)
      refine lv_iinc (v := nI (k + 1)) (lv' := [(4, .int (nI (k + 1))), (0, .ref (ad i)), (1, .long (lN (p0))), (3, .int (nI (cnt)))]) hC.1 hC.2.1 d_Whole_becomePairs_36 hl (k := 3) rfl (nv_inc _) (by decide) rfl (fun ls hl => ?_)
      refine lv_goto (tgt := 3) hC.1 hC.2.1 d_Whole_becomePairs_39 (by decide) ?_
      exact ih (k + 1) (upd (upd f (2 * k) (nI (p0))) (2 * k + 1) (nI (p0 / 4294967296))) (by omega) (by
        rw [show 2 * (k + 1) = 2 * k + 1 + 1 by omega, wm_v_pair, wm_v_upd (by omega), wm_v_upd (by omega), pk_un (by omega), pk_us, pk_us, wm_c64 hp0, hS, wm_pr_s]) (fun j hj => by rw [pk_un (by omega), pk_un (by omega)]; exact hf j (by omega)) (by omega) H locs ls hM (lv_sub hl [1, 2, 3, 0] rfl)
set_option maxHeartbeats 4000000 in
set_option maxRecDepth 100000 in
theorem c_Whole_becomePairs (l : Launch) (D : va_G) (ad : Nat → Nat) (cA cR : ClassId) (sz : Nat) (ln : Nat → Nat) (wd : Nat → Nat → Int32) (i p0 cnt : Nat) (hi : i < 19) (hp0 : p0 < 2 ^ 64) (hcnt : cnt ≤ 1024) (hz : wm_ze (wd i) (ln i)) : Met l y_Whole_becomePairs (Cond.code y_Whole_becomePairs b_Whole_becomePairs 5 none :: lw_T) ({ frames := 1, cells := 0, slots := 0, locals := 22 }) (va_Pc [.ref (ad i), .long (lN (p0)), .int (nI (cnt))] (wm_B D ad cA cR sz ln wd)) (va_Qv (fun u : wm_St => wm_up i (wm_pr p0 cnt) ln wd u) (wm_E D ad cA cR sz) (wm_A ad sz)) 0 0 (wm_A ad sz) := by
  refine wm_met l (by decide) (Nat.le_of_ble_eq_true rfl) ?_
  intro p e s m below meth c ls hsz hC hK hr hlk hM hl
  subst hsz
  have hC : CallFix p m c b_Whole_becomePairs 5 s _ lw_T R_Whole := hC
  have hl : lv_has ls 5 [(0, .ref (ad i)), (1, .long (lN (p0))), (3, .int (nI (cnt)))] := hl
  have hz1 := hz.1
  refine lv_iconst (v := nI 0) hC.1 hC.2.1 d_Whole_becomePairs_0 (by decide) ?_
  refine lv_istore (lv' := [(4, .int (nI (0))), (0, .ref (ad i)), (1, .long (lN (p0))), (3, .int (nI (cnt)))]) hC.1 hC.2.1 d_Whole_becomePairs_1 hl (by decide) rfl (fun ls hl => ?_)
  have hM : wm_M D ad cA cR s (ln) (va_up wd i (wd i)) s.heap [] := by
    rw [wm_eta]; exact hM
  refine lp_Whole_becomePairs hC hK ln wd i p0 cnt hi hp0 hcnt (fun f hS hf H locs ls hM hl => ?_) (cnt + 1) 0 (wd i) (Nat.zero_le _) rfl (fun _ _ => rfl) (by omega) _ _ _ hM (lv_sub hl [1, 2, 3, 0] rfl)
  refine lv_aload_n hC.1 hC.2.1 d_Whole_becomePairs_42 rfl (lv_at hl 0 rfl) ?_
  refine lv_iconst (v := nI 2) hC.1 hC.2.1 d_Whole_becomePairs_43 (by decide) ?_
  refine lv_iload_n hC.1 hC.2.1 d_Whole_becomePairs_44 rfl (lv_at hl 2 rfl) ?_
  refine nv_imul hC d_Whole_becomePairs_45 ?_
  refine wm_callVv hC hK hM (As := [.int (nI (2 * cnt))]) (rest := []) (wm_at_o hi) rfl (c_Whole_settle l D ad cA cR _ ln (va_up wd i f) i (2 * cnt) hi hz.1 (by omega)) kc_Whole_settle km_Whole_19 ki_Whole kn_Whole_settle ke_Whole_settle kd_Whole_settle ⟨rfl, rfl⟩ ⟨Nat.le_of_ble_eq_true rfl, Nat.le_of_ble_eq_true rfl⟩ rfl hl.1 (Nat.le_of_ble_eq_true rfl) d_Whole_becomePairs_46 (fun u H locs hp hM => ?_)
  refine wm_vret hC hK hM hr hlk ?_ d_Whole_becomePairs_49
  rw [va_up_self, wm_uu] at hp
  refine wm_up_of hp (by omega) (fun k h3 h4 h5 => ?_) hS
  rw [hf k (by omega)]
  exact hz.2 k h4 h5
set_option maxHeartbeats 4000000 in
set_option maxRecDepth 100000 in
theorem c_Whole_fillLowestPair (l : Launch) (D : va_G) (ad : Nat → Nat) (cA cR : ClassId) (sz : Nat) (ln : Nat → Nat) (wd : Nat → Nat → Int32) (i p0 N : Nat) (hi : i < 19) (hp0 : p0 < 2 ^ 64) (h : wm_rep (wd i) (ln i) N) : Met l y_Whole_fillLowestPair (Cond.code y_Whole_fillLowestPair b_Whole_fillLowestPair 3 none :: lw_T) ({ frames := 1, cells := 0, slots := 0, locals := 23 }) (va_Pc [.ref (ad i), .long (lN (p0))] (wm_B D ad cA cR sz ln wd)) (va_Qv (fun u : wm_St => wm_up i (N / 18446744073709551616 * 18446744073709551616 + p0) ln wd u) (wm_E D ad cA cR sz) (wm_A ad sz)) 0 0 (wm_A ad sz) := by
  refine wm_met l (by decide) (Nat.le_of_ble_eq_true rfl) ?_
  intro p e s m below meth c ls hsz hC hK hr hlk hM hl
  subst hsz
  have hC : CallFix p m c b_Whole_fillLowestPair 3 s _ lw_T R_Whole := hC
  have hl : lv_has ls 3 [(0, .ref (ad i)), (1, .long (lN (p0)))] := hl
  have hn := h.1
  have hM : wm_M D ad cA cR s (ln) (va_up wd i (wd i)) s.heap [] := by
    rw [wm_eta]; exact hM
  refine lv_aload_n hC.1 hC.2.1 d_Whole_fillLowestPair_0 rfl (lv_at hl 0 rfl) ?_
  refine wm_wds hC hK hM (j := i) hi kf_Whole_9 d_Whole_fillLowestPair_1 ?_
  refine lv_iconst (v := nI 0) hC.1 hC.2.1 d_Whole_fillLowestPair_4 (by decide) ?_
  refine lv_lload_n hC.1 hC.2.1 d_Whole_fillLowestPair_5 rfl (lv_at hl 1 rfl) ?_
  refine nv_l2i hC d_Whole_fillLowestPair_6 ?_
  refine wm_ast_s hC hK hM (k := 0) hi (by omega) d_Whole_fillLowestPair_7 (fun H locs hM => ?_)
  refine lv_aload_n hC.1 hC.2.1 d_Whole_fillLowestPair_8 rfl (lv_at hl 0 rfl) ?_
  refine wm_wds hC hK hM (j := i) hi kf_Whole_9 d_Whole_fillLowestPair_9 ?_
  refine lv_iconst (v := nI 1) hC.1 hC.2.1 d_Whole_fillLowestPair_12 (by decide) ?_
  refine lv_lload_n hC.1 hC.2.1 d_Whole_fillLowestPair_13 rfl (lv_at hl 1 rfl) ?_
  refine lv_bipush (v := nI 32) hC.1 hC.2.1 d_Whole_fillLowestPair_14 (by decide) ?_
  refine nv_lushr32 hC (by omega) d_Whole_fillLowestPair_16 ?_
  refine nv_l2i hC d_Whole_fillLowestPair_17 ?_
  refine wm_ast_s hC hK hM (k := 1) hi (by omega) d_Whole_fillLowestPair_18 (fun H locs hM => ?_)
  refine lv_aload_n hC.1 hC.2.1 d_Whole_fillLowestPair_19 rfl (lv_at hl 0 rfl) ?_
  refine lv_aload_n hC.1 hC.2.1 d_Whole_fillLowestPair_20 rfl (lv_at hl 0 rfl) ?_
  refine wm_len hC hK hM (j := i) hi kf_Whole_15 d_Whole_fillLowestPair_21 ?_
  refine lv_iconst (v := nI 2) hC.1 hC.2.1 d_Whole_fillLowestPair_24 (by decide) ?_
  refine nv_mmax hC hl.1 kj_Whole_29 kj_s_max ki_Math kj_c_max (Nat.le_of_ble_eq_true rfl) (Nat.le_of_ble_eq_true rfl) d_Whole_fillLowestPair_25 ?_
  refine nv_top (y := nI (max (ln i) 2)) (nv_maxi (by omega) (by omega)) ?_
  refine wm_callVv hC hK hM (As := [.int (nI (max (ln i) 2))]) (rest := []) (wm_at_o hi) rfl (c_Whole_settle l D ad cA cR _ ln (va_up wd i (upd (upd (wd i) 0 (nI (p0))) 1 (nI (p0 / 4294967296)))) i (max (ln i) 2) hi h.1 (by omega)) kc_Whole_settle km_Whole_19 ki_Whole kn_Whole_settle ke_Whole_settle kd_Whole_settle ⟨rfl, rfl⟩ ⟨Nat.le_of_ble_eq_true rfl, Nat.le_of_ble_eq_true rfl⟩ rfl hl.1 (Nat.le_of_ble_eq_true rfl) d_Whole_fillLowestPair_28 (fun u H locs hp hM => ?_)
  refine wm_vret hC hK hM hr hlk ?_ d_Whole_fillLowestPair_31
  rw [va_up_self, wm_uu] at hp
  refine wm_up_of hp (by omega) (fun k h3 h4 h5 => ?_) ?_
  · rw [pk_un (by omega), pk_un (by omega)]
    exact h.2.1 k h4 h5
  · obtain ⟨d, hd⟩ : ∃ d, max (ln i) 2 = 2 + d := ⟨max (ln i) 2 - 2, by omega⟩
    have e1 : wm_v (wd i) (2 + d) = N := wm_rep_v h (by omega) (by omega)
    have e2 := wm_v_lt (wd i) 2
    rw [wm_v_app] at e1
    rw [hd, wm_v_app, wm_v_congr (f := fun k => (upd (upd (wd i) 0 (nI (p0))) 1 (nI (p0 / 4294967296))) (2 + k)) (g := fun k => wd i (2 + k)) (fun k hk => by rw [pk_un (by omega), pk_un (by omega)])]
    rw [show wm_v (upd (upd (wd i) 0 (nI (p0))) 1 (nI (p0 / 4294967296))) 2 = p0 by rw [wm_v_pair (n := 0), pk_un (by omega), pk_us, pk_us, wm_v_0, wm_c64 hp0]; omega]
    generalize wm_v (fun k => wd i (2 + k)) d = X at *
    generalize wm_v (wd i) 2 = Y at *
    omega
set_option maxHeartbeats 4000000 in
set_option maxRecDepth 100000 in
theorem c_Whole_keepLowest (l : Launch) (D : va_G) (ad : Nat → Nat) (cA cR : ClassId) (sz : Nat) (ln : Nat → Nat) (wd : Nat → Nat → Int32) (i cnt N : Nat) (hi : i < 19) (hcnt : cnt < 2 ^ 31) (h : wm_rep (wd i) (ln i) N) : Met l y_Whole_keepLowest (Cond.code y_Whole_keepLowest b_Whole_keepLowest 3 none :: lw_T) ({ frames := 2, cells := 0, slots := 0, locals := 41 }) (va_Pc [.ref (ad i), .int (nI (cnt))] (wm_B D ad cA cR sz ln wd)) (va_Qv (fun u : wm_St => wm_up i (N % 2 ^ cnt) ln wd u) (wm_E D ad cA cR sz) (wm_A ad sz)) 0 0 (wm_A ad sz) := by
  refine wm_met l (by decide) (Nat.le_of_ble_eq_true rfl) ?_
  intro p e s m below meth c ls hsz hC hK hr hlk hM hl
  subst hsz
  have hC : CallFix p m c b_Whole_keepLowest 3 s _ lw_T R_Whole := hC
  have hl : lv_has ls 3 [(0, .ref (ad i)), (1, .int (nI (cnt)))] := hl
  have hn := h.1
  have hbl : wm_bl N ≤ 32 * ln i := by rw [wm_bl_le, ← wm_p32]; exact wm_rep_lt h
  refine lv_iload_n hC.1 hC.2.1 d_Whole_keepLowest_0 rfl (lv_at hl 1 rfl) ?_
  refine lv_aload_n hC.1 hC.2.1 d_Whole_keepLowest_1 rfl (lv_at hl 0 rfl) ?_
  refine wm_callVi hC hK hM (As := []) (rest := [.int (nI (cnt))]) (wm_at_o hi) rfl (c_Whole_size l D ad cA cR _ ln wd i N hi h) kc_Whole_size km_Whole_46 ki_Whole kn_Whole_size ke_Whole_size kd_Whole_size ⟨rfl, rfl⟩ ⟨Nat.le_of_ble_eq_true rfl, Nat.le_of_ble_eq_true rfl⟩ rfl hl.1 (Nat.le_of_ble_eq_true rfl) d_Whole_keepLowest_2 (fun r u H locs hp hM => ?_)
  obtain ⟨rfl, rfl⟩ := hp
  have hM : wm_M D ad cA cR s (ln) (wd) H locs := by
    exact hM
  refine nv_icmp_ge (tgt := 36) hC (by omega) (by omega) d_Whole_keepLowest_5 (by decide) (fun hc => ?_) (fun hc => ?_)
  · refine wm_vret hC hK hM hr hlk ⟨ln i, wd i, by rw [wm_eta, wm_eta], ?_⟩ d_Whole_keepLowest_36
    rw [Nat.mod_eq_of_lt (wm_bl_le.mp hc)]
    exact h
  · obtain ⟨w, hw⟩ : ∃ z, z = cnt / 2 ^ 5 := ⟨_, rfl⟩
    obtain ⟨o, ho⟩ : ∃ z, z = cnt % 2 ^ 5 := ⟨_, rfl⟩
    have ho2 : o < 32 := by omega
    refine lv_iload_n hC.1 hC.2.1 d_Whole_keepLowest_8 rfl (lv_at hl 1 rfl) ?_
    refine lv_iconst (v := nI 5) hC.1 hC.2.1 d_Whole_keepLowest_9 (by decide) ?_
    refine nv_iushr hC (by omega) (by decide) d_Whole_keepLowest_10 ?_
    refine nv_top (y := nI (w)) (by rw [hw]) ?_
    refine lv_istore_n (lv' := [(2, .int (nI (w))), (0, .ref (ad i)), (1, .int (nI (cnt)))]) hC.1 hC.2.1 d_Whole_keepLowest_11 rfl hl (by decide) rfl (fun ls hl => ?_)
    refine lv_aload_n hC.1 hC.2.1 d_Whole_keepLowest_12 rfl (lv_at hl 1 rfl) ?_
    refine wm_wds hC hK hM (j := i) hi kf_Whole_9 d_Whole_keepLowest_13 ?_
    refine lv_iload_n hC.1 hC.2.1 d_Whole_keepLowest_16 rfl (lv_at hl 0 rfl) ?_
    refine lv_dup2_11 hC.1 hC.2.1 d_Whole_keepLowest_17 rfl rfl ?_
    refine wm_ald hC hK hM (j := i) (k := w) hi (by omega) d_Whole_keepLowest_18 ?_
    refine lv_iconst (v := nI 1) hC.1 hC.2.1 d_Whole_keepLowest_19 (by decide) ?_
    refine lv_iload_n hC.1 hC.2.1 d_Whole_keepLowest_20 rfl (lv_at hl 2 rfl) ?_
    refine lv_bipush (v := nI 31) hC.1 hC.2.1 d_Whole_keepLowest_21 (by decide) ?_
    refine nv_iand (k := 5) hC (by omega) (by decide) d_Whole_keepLowest_23 ?_
    refine nv_top (y := nI (o)) (by rw [ho]) ?_
    refine lv_ishl hC.1 hC.2.1 d_Whole_keepLowest_24 ?_
    refine nv_top (y := nI (2 ^ o)) (wm_shl1 ho2) ?_
    have hp1 : 0 < 2 ^ o := Nat.pow_pos (by decide)
    have hp2 : 2 ^ o ≤ 2 ^ 31 := Nat.pow_le_pow_right (by decide) (by omega)
    refine lv_iconst (v := nI 1) hC.1 hC.2.1 d_Whole_keepLowest_25 (by decide) ?_
    refine nv_isub hC (by omega) d_Whole_keepLowest_26 ?_
    refine lv_iand hC.1 hC.2.1 d_Whole_keepLowest_27 ?_
    refine nv_top (y := nI (wm_u (wd i w) % 2 ^ o)) (wm_mask1 ho2) ?_
    have hM : wm_M D ad cA cR s (ln) (va_up wd i (wd i)) H locs := by
      rw [wm_eta]; exact hM
    refine wm_ast_s hC hK hM (k := w) hi (by omega) d_Whole_keepLowest_28 (fun H locs hM => ?_)
    refine lv_aload_n hC.1 hC.2.1 d_Whole_keepLowest_29 rfl (lv_at hl 1 rfl) ?_
    refine lv_iload_n hC.1 hC.2.1 d_Whole_keepLowest_30 rfl (lv_at hl 0 rfl) ?_
    refine lv_iconst (v := nI 1) hC.1 hC.2.1 d_Whole_keepLowest_31 (by decide) ?_
    refine nv_iadd hC d_Whole_keepLowest_32 ?_
    refine wm_callVv hC hK hM (As := [.int (nI (w + 1))]) (rest := []) (wm_at_o hi) rfl (c_Whole_settle l D ad cA cR _ ln (va_up wd i (upd (wd i) w (nI (wm_u (wd i w) % 2 ^ o)))) i (w + 1) hi h.1 (by omega)) kc_Whole_settle km_Whole_19 ki_Whole kn_Whole_settle ke_Whole_settle kd_Whole_settle ⟨rfl, rfl⟩ ⟨Nat.le_of_ble_eq_true rfl, Nat.le_of_ble_eq_true rfl⟩ rfl hl.1 (Nat.le_of_ble_eq_true rfl) d_Whole_keepLowest_33 (fun u H locs hp hM => ?_)
    refine wm_vret hC hK hM hr hlk ?_ d_Whole_keepLowest_36
    rw [va_up_self, wm_uu] at hp
    refine wm_up_of hp (by omega) (fun k h3 h4 h5 => ?_) ?_
    · rw [pk_un (by omega)]
      exact h.2.1 k h4 h5
    · rw [wm_v_upds, wm_un' (by have := Nat.mod_lt (wm_u (wd i w)) hp1; omega), wm_rep_dig h (by omega), ← wm_cnt cnt, ← hw, ← ho]
      have e1 : wm_v (wd i) w = N % 4294967296 ^ w := wm_of_dig (fun k hk => wm_rep_dig h (by omega))
      rw [e1, Nat.mod_mul, Nat.mul_comm (4294967296 ^ w)]
      congr 2
      exact Nat.mod_mod_of_dvd _ ⟨2 ^ (32 - o), by rw [← Nat.pow_add, show o + (32 - o) = 32 by omega]⟩
end
section
set_option maxHeartbeats 4000000 in
set_option maxRecDepth 100000 in
theorem lp_Rows_addMultiple {p : Program} {l : Launch} {e : Env} {R : Room} {s : State} {m : MethodId} {args : Array Value} {below : List Frame} {meth : Method} {c : Code} {Q : State → Prop} {D : va_G} {ad : Nat → Nat} {cA cR : ClassId} (hC : CallFix p m c b_Rows_addMultiple 9 s args lw_T R_Rows) (hK : va_K D classes (wm_ty cA cR) s) (ln : Nat → Nat) (wd : Nat → Nat → Int32) (i j a0 cnt F : Nat) (hi : i < 19) (hj : j < 19) (hji : j ≠ i) (hF : F < 4294967296) (hfit : a0 + cnt ≤ 2050)
    (hex : ∀ (cy : Nat) (f : Nat → Int32), (wm_v (wm_off f a0) cnt + cy * 4294967296 ^ cnt = wm_v (wm_off (wd i) a0) cnt + F * wm_v (wd j) cnt) → (cy < 4294967296) → (∀ q, (q < a0 ∨ a0 + cnt ≤ q) → f q = wd i q) → ∀ (H : Heap) (locs : List Loc) (ls : Array Slot), wm_M D ad cA cR s (ln) (va_up wd i f) H locs → lv_has ls 9 [(0, .ref (ad (19 + i))), (1, .int (nI (a0))), (2, .ref (ad (19 + j))), (3, .int (nI (cnt))), (4, .long (lN (F))), (6, .long (lN (cy))), (8, .int (nI (cnt)))] → W p l e R s m args below meth c H locs 0 0 Q (F0 m 63 ls [])) :
    ∀ (n : Nat) (k : Nat) (cy : Nat) (f : Nat → Int32), (k ≤ cnt) → (wm_v (wm_off f a0) k + cy * 4294967296 ^ k = wm_v (wm_off (wd i) a0) k + F * wm_v (wd j) k) → (cy < 4294967296) → (∀ q, (q < a0 ∨ a0 + k ≤ q) → f q = wd i q) → cnt + 1 ≤ k + n → ∀ (H : Heap) (locs : List Loc) (ls : Array Slot), wm_M D ad cA cR s (ln) (va_up wd i f) H locs → lv_has ls 9 [(0, .ref (ad (19 + i))), (1, .int (nI (a0))), (2, .ref (ad (19 + j))), (3, .int (nI (cnt))), (4, .long (lN (F))), (6, .long (lN (cy))), (8, .int (nI (k)))] → W p l e R s m args below meth c H locs 0 0 Q (F0 m 6 ls []) := by
  intro n
  induction n with
  | zero =>
    intro k cy f hk hS hc hf hn
    exact absurd hn (by omega)
  | succ n ih =>
    intro k cy f hk hS hc hf hn H locs ls hM hl
    have hu1 := wm_u_lt (wd j k)
    have hu2 := wm_u_lt (f (a0 + k))
    have hq : F * wm_u (wd j k) ≤ 4294967295 * 4294967295 := Nat.mul_le_mul (by omega) (by omega)
    refine lv_iload hC.1 hC.2.1 d_Rows_addMultiple_6 (lv_at hl 6 rfl) ?_
    refine lv_iload_n hC.1 hC.2.1 d_Rows_addMultiple_8 rfl (lv_at hl 3 rfl) ?_
    refine nv_icmp_ge (tgt := 63) hC (by omega) (by omega) d_Rows_addMultiple_9 (by decide) (fun hc2 => ?_) (fun hc2 => ?_)
    · have ek : k = cnt := by omega
      subst ek
      exact hex cy f hS hc hf H locs ls hM (lv_sub hl [0, 1, 2, 3, 4, 5, 6] rfl)
    · refine lv_lload hC.1 hC.2.1 d_Rows_addMultiple_12 (lv_at hl 5 rfl) ?_
      refine lv_lload hC.1 hC.2.1 d_Rows_addMultiple_14 (lv_at hl 4 rfl) ?_
      refine lv_aload_n hC.1 hC.2.1 d_Rows_addMultiple_16 rfl (lv_at hl 2 rfl) ?_
      refine lv_iload hC.1 hC.2.1 d_Rows_addMultiple_17 (lv_at hl 6 rfl) ?_
      refine wm_ald_o hC hK hM (j := j) (k := k) hj hji (by omega) d_Rows_addMultiple_19 ?_
      refine nv_low hC kl_Rows_9 d_Rows_addMultiple_20 d_Rows_addMultiple_21 d_Rows_addMultiple_24 ?_
      refine nv_lmul hC d_Rows_addMultiple_25 ?_
      refine lv_aload_n hC.1 hC.2.1 d_Rows_addMultiple_26 rfl (lv_at hl 0 rfl) ?_
      refine lv_iload_n hC.1 hC.2.1 d_Rows_addMultiple_27 rfl (lv_at hl 1 rfl) ?_
      refine lv_iload hC.1 hC.2.1 d_Rows_addMultiple_28 (lv_at hl 6 rfl) ?_
      refine nv_iadd hC d_Rows_addMultiple_30 ?_
      refine wm_ald_s hC hK hM (k := a0 + k) hi (by omega) d_Rows_addMultiple_31 ?_
      refine nv_low hC kl_Rows_9 d_Rows_addMultiple_32 d_Rows_addMultiple_33 d_Rows_addMultiple_36 ?_
      refine nv_ladd hC d_Rows_addMultiple_37 ?_
      refine nv_ladd hC d_Rows_addMultiple_38 ?_
      refine lv_lstore (lv' := [(6, .long (lN (cy + ((F * (wm_u (wd j k))) + (wm_u (f (a0 + k))))))), (0, .ref (ad (19 + i))), (1, .int (nI (a0))), (2, .ref (ad (19 + j))), (3, .int (nI (cnt))), (4, .long (lN (F))), (8, .int (nI (k)))]) hC.1 hC.2.1 d_Rows_addMultiple_39 hl (by decide) rfl (fun ls hl => ?_)
      refine lv_aload_n hC.1 hC.2.1 d_Rows_addMultiple_41 rfl (lv_at hl 1 rfl) ?_
      refine lv_iload_n hC.1 hC.2.1 d_Rows_addMultiple_42 rfl (lv_at hl 2 rfl) ?_
      refine lv_iload hC.1 hC.2.1 d_Rows_addMultiple_43 (lv_at hl 6 rfl) ?_
      refine nv_iadd hC d_Rows_addMultiple_45 ?_
      refine lv_lload hC.1 hC.2.1 d_Rows_addMultiple_46 (lv_at hl 0 rfl) ?_
      refine nv_l2i hC d_Rows_addMultiple_48 ?_
      refine wm_ast_s hC hK hM (k := a0 + k) hi (by omega) d_Rows_addMultiple_49 (fun H locs hM => ?_)
      refine lv_lload hC.1 hC.2.1 d_Rows_addMultiple_50 (lv_at hl 0 rfl) ?_
      refine lv_bipush (v := nI 32) hC.1 hC.2.1 d_Rows_addMultiple_52 (by decide) ?_
      refine nv_lushr32 hC (by omega) d_Rows_addMultiple_54 ?_
      refine lv_lstore (lv' := [(6, .long (lN ((cy + ((F * (wm_u (wd j k))) + (wm_u (f (a0 + k))))) / 4294967296))), (0, .ref (ad (19 + i))), (1, .int (nI (a0))), (2, .ref (ad (19 + j))), (3, .int (nI (cnt))), (4, .long (lN (F))), (8, .int (nI (k)))]) hC.1 hC.2.1 d_Rows_addMultiple_55 hl (by decide) rfl (fun ls hl => ?_)
      refine lv_iinc (v := nI (k + 1)) (lv' := [(8, .int (nI (k + 1))), (6, .long (lN ((cy + ((F * (wm_u (wd j k))) + (wm_u (f (a0 + k))))) / 4294967296))), (0, .ref (ad (19 + i))), (1, .int (nI (a0))), (2, .ref (ad (19 + j))), (3, .int (nI (cnt))), (4, .long (lN (F)))]) hC.1 hC.2.1 d_Rows_addMultiple_57 hl (k := 6) rfl (nv_inc _) (by decide) rfl (fun ls hl => ?_)
      refine lv_goto (tgt := 6) hC.1 hC.2.1 d_Rows_addMultiple_60 (by decide) ?_
      exact ih (k + 1) ((cy + (F * wm_u (wd j k) + wm_u (f (a0 + k)))) / 4294967296) (upd f (a0 + k) (nI (cy + (F * wm_u (wd j k) + wm_u (f (a0 + k)))))) (by omega) (by
        have h := wm_chain (d := F * wm_u (wd j k) + wm_u (f (a0 + k))) hS
        rw [wm_off_upd, h, wm_v_s, wm_v_s, Nat.add_mul, Nat.mul_add, Nat.mul_assoc, show wm_off (wd i) a0 k = f (a0 + k) from (hf (a0 + k) (Or.inr (Nat.le_refl _))).symm]
        omega) (by omega) (fun j hj => by rw [pk_un (by omega)]; exact hf j (by omega)) (by omega) H locs ls hM (lv_sub hl [2, 3, 4, 5, 6, 1, 0] rfl)
set_option maxHeartbeats 4000000 in
set_option maxRecDepth 100000 in
theorem c_Rows_addMultiple (l : Launch) (D : va_G) (ad : Nat → Nat) (cA cR : ClassId) (sz : Nat) (ln : Nat → Nat) (wd : Nat → Nat → Int32) (i j a0 cnt F : Nat) (hi : i < 19) (hj : j < 19) (hji : j ≠ i) (hF : F < 4294967296) (hfit : a0 + cnt ≤ 2050) : Met l y_Rows_addMultiple (Cond.code y_Rows_addMultiple b_Rows_addMultiple 9 (some .long) :: lw_T) ({ frames := 0, cells := 0, slots := 0, locals := 0 }) (va_Pc [.ref (ad (19 + i)), .int (nI (a0)), .ref (ad (19 + j)), .int (nI (cnt)), .long (lN (F))] (wm_B D ad cA cR sz ln wd)) (va_Ql (fun (r : Int64) (u : wm_St) => ∃ (cy : Nat) (f : Nat → Int32), r = lN cy ∧ u = (ln, va_up wd i f) ∧ wm_v (wm_off f a0) cnt + cy * 4294967296 ^ cnt = wm_v (wm_off (wd i) a0) cnt + F * wm_v (wd j) cnt ∧ cy < 4294967296 ∧ ∀ q, (q < a0 ∨ a0 + cnt ≤ q) → f q = wd i q) (wm_E D ad cA cR sz) (wm_A ad sz)) 0 0 (wm_A ad sz) := by
  refine wm_met l (by decide) (Nat.le_of_ble_eq_true rfl) ?_
  intro p e s m below meth c ls hsz hC hK hr hlk hM hl
  subst hsz
  have hC : CallFix p m c b_Rows_addMultiple 9 s _ lw_T R_Rows := hC
  have hl : lv_has ls 9 [(0, .ref (ad (19 + i))), (1, .int (nI (a0))), (2, .ref (ad (19 + j))), (3, .int (nI (cnt))), (4, .long (lN (F)))] := hl
  refine lv_lconst (v := lN 0) hC.1 hC.2.1 d_Rows_addMultiple_0 (by decide) ?_
  refine lv_lstore (lv' := [(6, .long (lN (0))), (0, .ref (ad (19 + i))), (1, .int (nI (a0))), (2, .ref (ad (19 + j))), (3, .int (nI (cnt))), (4, .long (lN (F)))]) hC.1 hC.2.1 d_Rows_addMultiple_1 hl (by decide) rfl (fun ls hl => ?_)
  refine lv_iconst (v := nI 0) hC.1 hC.2.1 d_Rows_addMultiple_3 (by decide) ?_
  refine lv_istore (lv' := [(8, .int (nI (0))), (6, .long (lN (0))), (0, .ref (ad (19 + i))), (1, .int (nI (a0))), (2, .ref (ad (19 + j))), (3, .int (nI (cnt))), (4, .long (lN (F)))]) hC.1 hC.2.1 d_Rows_addMultiple_4 hl (by decide) rfl (fun ls hl => ?_)
  have hM : wm_M D ad cA cR s (ln) (va_up wd i (wd i)) s.heap [] := by
    rw [wm_eta]; exact hM
  refine lp_Rows_addMultiple hC hK ln wd i j a0 cnt F hi hj hji hF hfit (fun cy f hS hc hf H locs ls hM hl => ?_) (cnt + 1) 0 0 (wd i) (Nat.zero_le _) rfl (by decide) (fun _ _ => rfl) (by omega) _ _ _ hM (lv_sub hl [2, 3, 4, 5, 6, 1, 0] rfl)
  refine lv_lload hC.1 hC.2.1 d_Rows_addMultiple_63 (lv_at hl 5 rfl) ?_
  exact wm_lret hC hK hM hr hlk ⟨cy, f, rfl, rfl, hS, hc, hf⟩ d_Rows_addMultiple_65
set_option maxHeartbeats 4000000 in
set_option maxRecDepth 100000 in
theorem lp_Whole_becomeProduct {p : Program} {l : Launch} {e : Env} {s : State} {m : MethodId} {args : Array Value} {below : List Frame} {meth : Method} {c : Code} {Q : State → Prop} {D : va_G} {ad : Nat → Nat} {cA cR : ClassId} (hC : CallFix p m c b_Whole_becomeProduct 6 s args lw_T R_Whole) (hK : va_K D classes (wm_ty cA cR) s) (ln : Nat → Nat) (wd : Nat → Nat → Int32) (i a b Nb : Nat) (hi : i < 19) (ha : a < 19) (hb : b < 19) (hai : a ≠ i) (hbi : b ≠ i) (hrb : wm_rep (wd b) (ln b) Nb) (hfit : ln a + ln b ≤ 2049)
    (hex : ∀ (f : Nat → Int32), (wm_v f (ln a + ln b) = wm_v (wd a) (ln a) * Nb) → (∀ q, ln a + ln b ≤ q → q < 2050 → f q = 0) → ∀ (H : Heap) (locs : List Loc) (ls : Array Slot), wm_M D ad cA cR s (va_up ln i 0) (va_up wd i f) H locs → lv_has ls 6 [(0, .ref (ad i)), (1, .ref (ad a)), (2, .ref (ad b))] → W p l e ({ frames := 2, cells := 0, slots := 0, locals := 42 }) s m args below meth c H locs 0 0 Q (F0 m 72 ls [])) :
    ∀ (n : Nat) (k : Nat) (f : Nat → Int32), (k ≤ ln a) → (wm_v f (k + ln b) = wm_v (wd a) k * Nb) → (∀ q, k + ln b ≤ q → q < 2050 → f q = 0) → ln a + 1 ≤ k + n → ∀ (H : Heap) (locs : List Loc) (ls : Array Slot), wm_M D ad cA cR s (va_up ln i 0) (va_up wd i f) H locs → lv_has ls 6 [(0, .ref (ad i)), (1, .ref (ad a)), (2, .ref (ad b)), (3, .int (nI (k)))] → W p l e ({ frames := 2, cells := 0, slots := 0, locals := 42 }) s m args below meth c H locs 0 0 Q (F0 m 6 ls []) := by
  intro n
  induction n with
  | zero =>
    intro k f hk hS hf hn
    exact absurd hn (by omega)
  | succ n ih =>
    intro k f hk hS hf hn H locs ls hM hl
    refine lv_iload_n hC.1 hC.2.1 d_Whole_becomeProduct_6 rfl (lv_at hl 3 rfl) ?_
    refine lv_aload_n hC.1 hC.2.1 d_Whole_becomeProduct_7 rfl (lv_at hl 1 rfl) ?_
    refine wm_len hC hK hM (j := a) ha kf_Whole_15 d_Whole_becomeProduct_8 ?_
    refine nv_top (y := nI (ln a)) (by rw [va_up_ne _ _ hai]) ?_
    refine nv_icmp_ge (tgt := 72) hC (by omega) (by omega) d_Whole_becomeProduct_11 (by decide) (fun hc2 => ?_) (fun hc2 => ?_)
    · have ek : k = ln a := by omega
      subst ek
      exact hex f hS hf H locs ls hM (lv_sub hl [0, 1, 2] rfl)
    · refine lv_aload_n hC.1 hC.2.1 d_Whole_becomeProduct_14 rfl (lv_at hl 1 rfl) ?_
      refine wm_wds hC hK hM (j := a) ha kf_Whole_9 d_Whole_becomeProduct_15 ?_
      refine lv_iload_n hC.1 hC.2.1 d_Whole_becomeProduct_18 rfl (lv_at hl 3 rfl) ?_
      refine wm_ald_o hC hK hM (j := a) (k := k) ha hai (by omega) d_Whole_becomeProduct_19 ?_
      refine lv_if_eq (tgt := 66) hC.1 hC.2.1 d_Whole_becomeProduct_20 (by decide) (fun hz => ?_) (fun hz => ?_)
      · refine lv_iinc (v := nI (k + 1)) (lv' := [(3, .int (nI (k + 1))), (0, .ref (ad i)), (1, .ref (ad a)), (2, .ref (ad b))]) hC.1 hC.2.1 d_Whole_becomeProduct_66 hl (k := 3) rfl (nv_inc _) (by decide) rfl (fun ls hl => ?_)
        refine lv_goto (tgt := 6) hC.1 hC.2.1 d_Whole_becomeProduct_69 (by decide) ?_
        exact ih (k + 1) f (by omega) (by
        have e := wm_v_z (f := f) (m := k + ln b) 1 (fun q h1 h2 => hf q h1 (by omega))
        rw [show k + 1 + ln b = k + ln b + 1 by omega, e, hS, wm_v_s, hz, wm_u_0, Nat.zero_mul, Nat.add_zero]) (fun q h1 h2 => hf q (by omega) h2) (by omega) H locs ls hM (lv_sub hl [1, 2, 3, 0] rfl)
      · refine lv_aload_n hC.1 hC.2.1 d_Whole_becomeProduct_23 rfl (lv_at hl 0 rfl) ?_
        refine wm_wds hC hK hM (j := i) hi kf_Whole_9 d_Whole_becomeProduct_24 ?_
        refine lv_iload_n hC.1 hC.2.1 d_Whole_becomeProduct_27 rfl (lv_at hl 3 rfl) ?_
        refine lv_aload_n hC.1 hC.2.1 d_Whole_becomeProduct_28 rfl (lv_at hl 2 rfl) ?_
        refine wm_wds hC hK hM (j := b) hb kf_Whole_9 d_Whole_becomeProduct_29 ?_
        refine lv_aload_n hC.1 hC.2.1 d_Whole_becomeProduct_32 rfl (lv_at hl 2 rfl) ?_
        refine wm_len hC hK hM (j := b) hb kf_Whole_15 d_Whole_becomeProduct_33 ?_
        refine nv_top (y := nI (ln b)) (by rw [va_up_ne _ _ hbi]) ?_
        refine lv_aload_n hC.1 hC.2.1 d_Whole_becomeProduct_36 rfl (lv_at hl 1 rfl) ?_
        refine wm_wds hC hK hM (j := a) ha kf_Whole_9 d_Whole_becomeProduct_37 ?_
        refine lv_iload_n hC.1 hC.2.1 d_Whole_becomeProduct_40 rfl (lv_at hl 3 rfl) ?_
        refine wm_ald_o hC hK hM (j := a) (k := k) ha hai (by omega) d_Whole_becomeProduct_41 ?_
        refine nv_low hC kl_Whole_35 d_Whole_becomeProduct_42 d_Whole_becomeProduct_43 d_Whole_becomeProduct_46 ?_
        refine wm_callSl hC hK hM (As := [.ref (ad (19 + i)), .int (nI (k)), .ref (ad (19 + b)), .int (nI (ln b)), .long (lN (wm_u (wd a k)))]) (rest := []) (c_Rows_addMultiple l D ad cA cR _ (va_up ln i 0) (va_up wd i f) i b k (ln b) (wm_u (wd a k)) hi hb hbi (wm_u_lt _) (by omega)) kc_Rows_addMultiple km_Whole_40 ki_Rows ks_Rows_addMultiple kd_Rows_addMultiple ⟨rfl, rfl⟩ ⟨Nat.le_of_ble_eq_true rfl, Nat.le_of_ble_eq_true rfl⟩ rfl hl.1 (Nat.le_of_ble_eq_true rfl) d_Whole_becomeProduct_47 (fun r u H locs hp hM => ?_)
        obtain ⟨cy, f2, rfl, rfl, hS2, hc2, hf2⟩ := hp
        rw [va_up_self] at hS2 hf2
        have hM : wm_M D ad cA cR s (va_up ln i 0) (va_up wd i f2) H locs := by rw [wm_uu] at hM; exact hM
        rw [va_up_ne _ _ hbi] at hS2
        refine lv_lstore (lv' := [(4, .long (lN (cy))), (0, .ref (ad i)), (1, .ref (ad a)), (2, .ref (ad b)), (3, .int (nI (k)))]) hC.1 hC.2.1 d_Whole_becomeProduct_50 hl (by decide) rfl (fun ls hl => ?_)
        refine lv_aload_n hC.1 hC.2.1 d_Whole_becomeProduct_52 rfl (lv_at hl 1 rfl) ?_
        refine wm_wds hC hK hM (j := i) hi kf_Whole_9 d_Whole_becomeProduct_53 ?_
        refine lv_iload_n hC.1 hC.2.1 d_Whole_becomeProduct_56 rfl (lv_at hl 4 rfl) ?_
        refine lv_aload_n hC.1 hC.2.1 d_Whole_becomeProduct_57 rfl (lv_at hl 3 rfl) ?_
        refine wm_len hC hK hM (j := b) hb kf_Whole_15 d_Whole_becomeProduct_58 ?_
        refine nv_top (y := nI (ln b)) (by rw [va_up_ne _ _ hbi]) ?_
        refine nv_iadd hC d_Whole_becomeProduct_61 ?_
        refine lv_lload hC.1 hC.2.1 d_Whole_becomeProduct_62 (lv_at hl 0 rfl) ?_
        refine nv_l2i hC d_Whole_becomeProduct_64 ?_
        refine wm_ast_s hC hK hM (k := k + (ln b)) hi (by omega) d_Whole_becomeProduct_65 (fun H locs hM => ?_)
        refine lv_iinc (v := nI (k + 1)) (lv' := [(3, .int (nI (k + 1))), (4, .long (lN (cy))), (0, .ref (ad i)), (1, .ref (ad a)), (2, .ref (ad b))]) hC.1 hC.2.1 d_Whole_becomeProduct_66 hl (k := 4) rfl (nv_inc _) (by decide) rfl (fun ls hl => ?_)
        refine lv_goto (tgt := 6) hC.1 hC.2.1 d_Whole_becomeProduct_69 (by decide) ?_
        exact ih (k + 1) (upd f2 (k + ln b) (nI (cy))) (by omega) (by
        rw [show k + 1 + ln b = k + (ln b + 1) by omega, wm_v_off, wm_off_upd, wm_v_upds, wm_un' hc2, hS2, wm_v_upd (by omega), wm_v_congr (f := f2) (g := f) (fun q hq => hf2 q (Or.inl hq)), Nat.mul_add, ← Nat.add_assoc, ← wm_v_off, hS, wm_v_s, Nat.add_mul, hrb.2.2.2, Nat.mul_left_comm, Nat.mul_assoc]) (fun q h1 h2 => by rw [pk_un (by omega), hf2 q (Or.inr (by omega))]; exact hf q (by omega) h2) (by omega) H locs ls hM (lv_sub hl [2, 3, 4, 0] rfl)
set_option maxHeartbeats 4000000 in
set_option maxRecDepth 100000 in
theorem c_Whole_becomeProduct (l : Launch) (D : va_G) (ad : Nat → Nat) (cA cR : ClassId) (sz : Nat) (ln : Nat → Nat) (wd : Nat → Nat → Int32) (i a b Na Nb : Nat) (hi : i < 19) (ha : a < 19) (hb : b < 19) (hai : a ≠ i) (hbi : b ≠ i) (hz : wm_ze (wd i) (ln i)) (hra : wm_rep (wd a) (ln a) Na) (hrb : wm_rep (wd b) (ln b) Nb) (hfit : ln a + ln b ≤ 2049) : Met l y_Whole_becomeProduct (Cond.code y_Whole_becomeProduct b_Whole_becomeProduct 6 none :: lw_T) ({ frames := 2, cells := 0, slots := 0, locals := 42 }) (va_Pc [.ref (ad i), .ref (ad a), .ref (ad b)] (wm_B D ad cA cR sz ln wd)) (va_Qv (fun u : wm_St => wm_up i (Na * Nb) ln wd u) (wm_E D ad cA cR sz) (wm_A ad sz)) 0 0 (wm_A ad sz) := by
  refine wm_met l (by decide) (Nat.le_of_ble_eq_true rfl) ?_
  intro p e s m below meth c ls hsz hC hK hr hlk hM hl
  subst hsz
  have hC : CallFix p m c b_Whole_becomeProduct 6 s _ lw_T R_Whole := hC
  have hl : lv_has ls 6 [(0, .ref (ad i)), (1, .ref (ad a)), (2, .ref (ad b))] := hl
  have hz1 := hz.1
  refine lv_aload_n hC.1 hC.2.1 d_Whole_becomeProduct_0 rfl (lv_at hl 0 rfl) ?_
  refine wm_callVv hC hK hM (As := []) (rest := []) (wm_at_o hi) rfl (c_Whole_clear l D ad cA cR _ ln wd i hi hz.1) kc_Whole_clear km_Whole_37 ki_Whole kn_Whole_clear ke_Whole_clear kd_Whole_clear ⟨rfl, rfl⟩ ⟨Nat.le_of_ble_eq_true rfl, Nat.le_of_ble_eq_true rfl⟩ rfl hl.1 (Nat.le_of_ble_eq_true rfl) d_Whole_becomeProduct_1 (fun u H locs hp hM => ?_)
  subst hp
  have hM : wm_M D ad cA cR s (va_up ln i 0) (va_up wd i (wm_clr (wd i) 0 (ln i))) H locs := by
    exact hM
  have h0 : ∀ q, q < 2050 → wm_clr (wd i) 0 (ln i) q = 0 := fun j h2 => by
    by_cases h3 : j < ln i
    · exact wm_clr_in (Nat.zero_le _) h3
    · rw [wm_clr_hi (by omega)]; exact hz.2 j (by omega) h2
  refine lv_iconst (v := nI 0) hC.1 hC.2.1 d_Whole_becomeProduct_4 (by decide) ?_
  refine lv_istore_n (lv' := [(3, .int (nI (0))), (0, .ref (ad i)), (1, .ref (ad a)), (2, .ref (ad b))]) hC.1 hC.2.1 d_Whole_becomeProduct_5 rfl hl (by decide) rfl (fun ls hl => ?_)
  refine lp_Whole_becomeProduct hC hK ln wd i a b Nb hi ha hb hai hbi hrb hfit (fun f hS hf H locs ls hM hl => ?_) (ln a + 1) 0 (wm_clr (wd i) 0 (ln i)) (Nat.zero_le _) (by
    have e := wm_v_z (f := wm_clr (wd i) 0 (ln i)) (m := 0) (ln b) (fun q _ h2 => h0 q (by omega))
    rw [e, wm_v_0, wm_v_0, Nat.zero_mul]) (fun q _ h2 => h0 q h2) (by omega) _ _ _ hM (lv_sub hl [1, 2, 3, 0] rfl)
  refine lv_aload_n hC.1 hC.2.1 d_Whole_becomeProduct_72 rfl (lv_at hl 0 rfl) ?_
  refine lv_aload_n hC.1 hC.2.1 d_Whole_becomeProduct_73 rfl (lv_at hl 1 rfl) ?_
  refine wm_len hC hK hM (j := a) ha kf_Whole_15 d_Whole_becomeProduct_74 ?_
  refine nv_top (y := nI (ln a)) (by rw [va_up_ne _ _ hai]) ?_
  refine lv_aload_n hC.1 hC.2.1 d_Whole_becomeProduct_77 rfl (lv_at hl 2 rfl) ?_
  refine wm_len hC hK hM (j := b) hb kf_Whole_15 d_Whole_becomeProduct_78 ?_
  refine nv_top (y := nI (ln b)) (by rw [va_up_ne _ _ hbi]) ?_
  refine nv_iadd hC d_Whole_becomeProduct_81 ?_
  refine wm_callVv hC hK hM (As := [.int (nI ((ln a) + (ln b)))]) (rest := []) (wm_at_o hi) rfl (c_Whole_settle l D ad cA cR _ (va_up ln i 0) (va_up wd i f) i (ln a + ln b) hi (by rw [va_up_self]; omega) (by omega)) kc_Whole_settle km_Whole_19 ki_Whole kn_Whole_settle ke_Whole_settle kd_Whole_settle ⟨rfl, rfl⟩ ⟨Nat.le_of_ble_eq_true rfl, Nat.le_of_ble_eq_true rfl⟩ rfl hl.1 (Nat.le_of_ble_eq_true rfl) d_Whole_becomeProduct_82 (fun u H locs hp hM => ?_)
  refine wm_vret hC hK hM hr hlk ?_ d_Whole_becomeProduct_85
  rw [va_up_self, va_up_self, wm_uu, wm_uu] at hp
  refine wm_up_of hp (by omega) (fun k h3 h4 h5 => hf k h3 h5) ?_
  rw [hS, hra.2.2.2]
end
section
set_option maxHeartbeats 4000000 in
set_option maxRecDepth 100000 in
theorem lp_Rows_takeMultiple {p : Program} {l : Launch} {e : Env} {R : Room} {s : State} {m : MethodId} {args : Array Value} {below : List Frame} {meth : Method} {c : Code} {Q : State → Prop} {D : va_G} {ad : Nat → Nat} {cA cR : ClassId} (hC : CallFix p m c b_Rows_takeMultiple 12 s args lw_T R_Rows) (hK : va_K D classes (wm_ty cA cR) s) (ln : Nat → Nat) (wd : Nat → Nat → Int32) (i j a0 fr cnt F : Nat) (hi : i < 19) (hj : j < 19) (hji : j ≠ i) (hF : F < 4294967296) (hfit : a0 + cnt ≤ 2050) (hfit2 : fr + cnt ≤ 2050)
    (hex : ∀ (cy : Nat) (f : Nat → Int32), (wm_v (wm_off f a0) cnt + F * wm_v (wm_off (wd j) fr) cnt = wm_v (wm_off (wd i) a0) cnt + cy * 4294967296 ^ cnt) → (cy ≤ F) → (∀ q, (q < a0 ∨ a0 + cnt ≤ q) → f q = wd i q) → ∀ (H : Heap) (locs : List Loc) (ls : Array Slot), wm_M D ad cA cR s (ln) (va_up wd i f) H locs → lv_has ls 12 [(0, .ref (ad (19 + i))), (1, .int (nI (a0))), (2, .ref (ad (19 + j))), (3, .int (nI (fr))), (4, .int (nI (cnt))), (5, .long (lN (F))), (7, .long (lN (cy))), (9, .int (nI (cnt)))] → W p l e R s m args below meth c H locs 0 0 Q (F0 m 80 ls [])) :
    ∀ (n : Nat) (k : Nat) (cy : Nat) (f : Nat → Int32), (k ≤ cnt) → (wm_v (wm_off f a0) k + F * wm_v (wm_off (wd j) fr) k = wm_v (wm_off (wd i) a0) k + cy * 4294967296 ^ k) → (cy ≤ F) → (∀ q, (q < a0 ∨ a0 + k ≤ q) → f q = wd i q) → cnt + 1 ≤ k + n → ∀ (H : Heap) (locs : List Loc) (ls : Array Slot), wm_M D ad cA cR s (ln) (va_up wd i f) H locs → lv_has ls 12 [(0, .ref (ad (19 + i))), (1, .int (nI (a0))), (2, .ref (ad (19 + j))), (3, .int (nI (fr))), (4, .int (nI (cnt))), (5, .long (lN (F))), (7, .long (lN (cy))), (9, .int (nI (k)))] → W p l e R s m args below meth c H locs 0 0 Q (F0 m 6 ls []) := by
  intro n
  induction n with
  | zero =>
    intro k cy f hk hS hc hf hn
    exact absurd hn (by omega)
  | succ n ih =>
    intro k cy f hk hS hc hf hn H locs ls hM hl
    have hu1 := wm_u_lt (wd j (fr + k))
    have hu2 := wm_u_lt (f (a0 + k))
    have hq : F * wm_u (wd j (fr + k)) ≤ F * 4294967295 := Nat.mul_le_mul_left _ (by omega)
    have hw := wm_tword (t := wm_u (f (a0 + k))) (b := cy + F * wm_u (wd j (fr + k))) hu2
    refine lv_iload hC.1 hC.2.1 d_Rows_takeMultiple_6 (lv_at hl 7 rfl) ?_
    refine lv_iload hC.1 hC.2.1 d_Rows_takeMultiple_8 (lv_at hl 4 rfl) ?_
    refine nv_icmp_ge (tgt := 80) hC (by omega) (by omega) d_Rows_takeMultiple_10 (by decide) (fun hc2 => ?_) (fun hc2 => ?_)
    · have ek : k = cnt := by omega
      subst ek
      exact hex cy f hS hc hf H locs ls hM (lv_sub hl [0, 1, 2, 3, 4, 5, 6, 7] rfl)
    · refine lv_lload hC.1 hC.2.1 d_Rows_takeMultiple_13 (lv_at hl 6 rfl) ?_
      refine lv_lload hC.1 hC.2.1 d_Rows_takeMultiple_15 (lv_at hl 5 rfl) ?_
      refine lv_aload_n hC.1 hC.2.1 d_Rows_takeMultiple_17 rfl (lv_at hl 2 rfl) ?_
      refine lv_iload_n hC.1 hC.2.1 d_Rows_takeMultiple_18 rfl (lv_at hl 3 rfl) ?_
      refine lv_iload hC.1 hC.2.1 d_Rows_takeMultiple_19 (lv_at hl 7 rfl) ?_
      refine nv_iadd hC d_Rows_takeMultiple_21 ?_
      refine wm_ald_o hC hK hM (j := j) (k := fr + k) hj hji (by omega) d_Rows_takeMultiple_22 ?_
      refine nv_low hC kl_Rows_9 d_Rows_takeMultiple_23 d_Rows_takeMultiple_24 d_Rows_takeMultiple_27 ?_
      refine nv_lmul hC d_Rows_takeMultiple_28 ?_
      refine nv_ladd hC d_Rows_takeMultiple_29 ?_
      refine lv_lstore (lv' := [(7, .long (lN (cy + (F * (wm_u (wd j (fr + k))))))), (0, .ref (ad (19 + i))), (1, .int (nI (a0))), (2, .ref (ad (19 + j))), (3, .int (nI (fr))), (4, .int (nI (cnt))), (5, .long (lN (F))), (9, .int (nI (k)))]) hC.1 hC.2.1 d_Rows_takeMultiple_30 hl (by decide) rfl (fun ls hl => ?_)
      refine lv_aload_n hC.1 hC.2.1 d_Rows_takeMultiple_32 rfl (lv_at hl 1 rfl) ?_
      refine lv_iload_n hC.1 hC.2.1 d_Rows_takeMultiple_33 rfl (lv_at hl 2 rfl) ?_
      refine lv_iload hC.1 hC.2.1 d_Rows_takeMultiple_34 (lv_at hl 7 rfl) ?_
      refine nv_iadd hC d_Rows_takeMultiple_36 ?_
      refine wm_ald_s hC hK hM (k := a0 + k) hi (by omega) d_Rows_takeMultiple_37 ?_
      refine nv_low hC kl_Rows_9 d_Rows_takeMultiple_38 d_Rows_takeMultiple_39 d_Rows_takeMultiple_42 ?_
      refine lv_lload hC.1 hC.2.1 d_Rows_takeMultiple_43 (lv_at hl 0 rfl) ?_
      refine lv_ldc2 (v := lN 4294967295) hC.1 hC.2.1 hC.2.2.2.1 (hC.2.2.2.2 _ kl_Rows_9) d_Rows_takeMultiple_45 ?_
      refine lv_land hC.1 hC.2.1 d_Rows_takeMultiple_48 ?_
      refine nv_topl (y := lN ((cy + (F * (wm_u (wd j (fr + k))))) % 4294967296)) (wm_lowL (by omega)) ?_
      refine nz_lsubn hC d_Rows_takeMultiple_49 ?_
      refine lv_lstore (lv' := [(10, .long (lz_i (((wm_u (f (a0 + k)) : Nat) : Int) - (((cy + (F * (wm_u (wd j (fr + k))))) % 4294967296 : Nat) : Int)))), (7, .long (lN (cy + (F * (wm_u (wd j (fr + k))))))), (0, .ref (ad (19 + i))), (1, .int (nI (a0))), (2, .ref (ad (19 + j))), (3, .int (nI (fr))), (4, .int (nI (cnt))), (5, .long (lN (F))), (9, .int (nI (k)))]) hC.1 hC.2.1 d_Rows_takeMultiple_50 hl (by decide) rfl (fun ls hl => ?_)
      refine lv_aload_n hC.1 hC.2.1 d_Rows_takeMultiple_52 rfl (lv_at hl 2 rfl) ?_
      refine lv_iload_n hC.1 hC.2.1 d_Rows_takeMultiple_53 rfl (lv_at hl 3 rfl) ?_
      refine lv_iload hC.1 hC.2.1 d_Rows_takeMultiple_54 (lv_at hl 8 rfl) ?_
      refine nv_iadd hC d_Rows_takeMultiple_56 ?_
      refine lv_lload hC.1 hC.2.1 d_Rows_takeMultiple_57 (lv_at hl 0 rfl) ?_
      refine nz_l2i hC d_Rows_takeMultiple_59 ?_
      refine wm_ast_s hC hK hM (k := a0 + k) hi (by omega) d_Rows_takeMultiple_60 (fun H locs hM => ?_)
      refine lv_lload hC.1 hC.2.1 d_Rows_takeMultiple_61 (lv_at hl 1 rfl) ?_
      refine lv_bipush (v := nI 32) hC.1 hC.2.1 d_Rows_takeMultiple_63 (by decide) ?_
      refine nv_lushr32 hC (by omega) d_Rows_takeMultiple_65 ?_
      refine lv_lload hC.1 hC.2.1 d_Rows_takeMultiple_66 (lv_at hl 0 rfl) ?_
      refine lv_bipush (v := nI 63) hC.1 hC.2.1 d_Rows_takeMultiple_68 (by decide) ?_
      refine nz_63 hC (by omega) (by omega) d_Rows_takeMultiple_70 ?_
      refine nv_ladd hC d_Rows_takeMultiple_71 ?_
      refine lv_lstore (lv' := [(7, .long (lN (((cy + (F * (wm_u (wd j (fr + k))))) / 4294967296) + (if ((wm_u (f (a0 + k)) : Nat) : Int) - (((cy + (F * (wm_u (wd j (fr + k))))) % 4294967296 : Nat) : Int) < 0 then 1 else 0)))), (10, .long (lz_i (((wm_u (f (a0 + k)) : Nat) : Int) - (((cy + (F * (wm_u (wd j (fr + k))))) % 4294967296 : Nat) : Int)))), (0, .ref (ad (19 + i))), (1, .int (nI (a0))), (2, .ref (ad (19 + j))), (3, .int (nI (fr))), (4, .int (nI (cnt))), (5, .long (lN (F))), (9, .int (nI (k)))]) hC.1 hC.2.1 d_Rows_takeMultiple_72 hl (by decide) rfl (fun ls hl => ?_)
      refine lv_iinc (v := nI (k + 1)) (lv' := [(9, .int (nI (k + 1))), (7, .long (lN (((cy + (F * (wm_u (wd j (fr + k))))) / 4294967296) + (if ((wm_u (f (a0 + k)) : Nat) : Int) - (((cy + (F * (wm_u (wd j (fr + k))))) % 4294967296 : Nat) : Int) < 0 then 1 else 0)))), (10, .long (lz_i (((wm_u (f (a0 + k)) : Nat) : Int) - (((cy + (F * (wm_u (wd j (fr + k))))) % 4294967296 : Nat) : Int)))), (0, .ref (ad (19 + i))), (1, .int (nI (a0))), (2, .ref (ad (19 + j))), (3, .int (nI (fr))), (4, .int (nI (cnt))), (5, .long (lN (F)))]) hC.1 hC.2.1 d_Rows_takeMultiple_74 hl (k := 8) rfl (nv_inc _) (by decide) rfl (fun ls hl => ?_)
      refine lv_goto (tgt := 6) hC.1 hC.2.1 d_Rows_takeMultiple_77 (by decide) ?_
      exact ih (k + 1) ((cy + F * wm_u (wd j (fr + k))) / 4294967296 + (if ((wm_u (f (a0 + k)) : Nat) : Int) - (((cy + F * wm_u (wd j (fr + k))) % 4294967296 : Nat) : Int) < 0 then 1 else 0)) (upd f (a0 + k) (Int32.ofInt (((wm_u (f (a0 + k)) : Nat) : Int) - (((cy + F * wm_u (wd j (fr + k))) % 4294967296 : Nat) : Int)))) (by omega) (by
        rw [wm_off_upd, wm_v_upds, lz_u, wm_v_s, wm_v_s, Nat.mul_add, ← Nat.mul_assoc, Nat.pow_succ, show wm_off (wd i) a0 k = f (a0 + k) from (hf (a0 + k) (Or.inr (Nat.le_refl _))).symm]
        refine wm_bstep hS ?_
        rw [Nat.add_assoc, Nat.add_comm (F * wm_u (wm_off (wd j) fr k)) cy]
        exact hw) (by omega) (fun q hq => by rw [pk_un (by omega)]; exact hf q (by omega)) (by omega) H locs ls hM (lv_sub hl [3, 4, 5, 6, 7, 8, 1, 0] rfl)
set_option maxHeartbeats 4000000 in
set_option maxRecDepth 100000 in
theorem c_Rows_takeMultiple (l : Launch) (D : va_G) (ad : Nat → Nat) (cA cR : ClassId) (sz : Nat) (ln : Nat → Nat) (wd : Nat → Nat → Int32) (i j a0 fr cnt F : Nat) (hi : i < 19) (hj : j < 19) (hji : j ≠ i) (hF : F < 4294967296) (hfit : a0 + cnt ≤ 2050) (hfit2 : fr + cnt ≤ 2050) : Met l y_Rows_takeMultiple (Cond.code y_Rows_takeMultiple b_Rows_takeMultiple 12 (some .long) :: lw_T) ({ frames := 0, cells := 0, slots := 0, locals := 0 }) (va_Pc [.ref (ad (19 + i)), .int (nI (a0)), .ref (ad (19 + j)), .int (nI (fr)), .int (nI (cnt)), .long (lN (F))] (wm_B D ad cA cR sz ln wd)) (va_Ql (fun (r : Int64) (u : wm_St) => ∃ (cy : Nat) (f : Nat → Int32), r = lN cy ∧ u = (ln, va_up wd i f) ∧ wm_v (wm_off f a0) cnt + F * wm_v (wm_off (wd j) fr) cnt = wm_v (wm_off (wd i) a0) cnt + cy * 4294967296 ^ cnt ∧ cy ≤ F ∧ ∀ q, (q < a0 ∨ a0 + cnt ≤ q) → f q = wd i q) (wm_E D ad cA cR sz) (wm_A ad sz)) 0 0 (wm_A ad sz) := by
  refine wm_met l (by decide) (Nat.le_of_ble_eq_true rfl) ?_
  intro p e s m below meth c ls hsz hC hK hr hlk hM hl
  subst hsz
  have hC : CallFix p m c b_Rows_takeMultiple 12 s _ lw_T R_Rows := hC
  have hl : lv_has ls 12 [(0, .ref (ad (19 + i))), (1, .int (nI (a0))), (2, .ref (ad (19 + j))), (3, .int (nI (fr))), (4, .int (nI (cnt))), (5, .long (lN (F)))] := hl
  refine lv_lconst (v := lN 0) hC.1 hC.2.1 d_Rows_takeMultiple_0 (by decide) ?_
  refine lv_lstore (lv' := [(7, .long (lN (0))), (0, .ref (ad (19 + i))), (1, .int (nI (a0))), (2, .ref (ad (19 + j))), (3, .int (nI (fr))), (4, .int (nI (cnt))), (5, .long (lN (F)))]) hC.1 hC.2.1 d_Rows_takeMultiple_1 hl (by decide) rfl (fun ls hl => ?_)
  refine lv_iconst (v := nI 0) hC.1 hC.2.1 d_Rows_takeMultiple_3 (by decide) ?_
  refine lv_istore (lv' := [(9, .int (nI (0))), (7, .long (lN (0))), (0, .ref (ad (19 + i))), (1, .int (nI (a0))), (2, .ref (ad (19 + j))), (3, .int (nI (fr))), (4, .int (nI (cnt))), (5, .long (lN (F)))]) hC.1 hC.2.1 d_Rows_takeMultiple_4 hl (by decide) rfl (fun ls hl => ?_)
  have hM : wm_M D ad cA cR s (ln) (va_up wd i (wd i)) s.heap [] := by
    rw [wm_eta]; exact hM
  refine lp_Rows_takeMultiple hC hK ln wd i j a0 fr cnt F hi hj hji hF hfit hfit2 (fun cy f hS hc hf H locs ls hM hl => ?_) (cnt + 1) 0 0 (wd i) (Nat.zero_le _) (by simp [wm_v_0]) (Nat.zero_le _) (fun _ _ => rfl) (by omega) _ _ _ hM (lv_sub hl [2, 3, 4, 5, 6, 7, 1, 0] rfl)
  refine lv_lload hC.1 hC.2.1 d_Rows_takeMultiple_80 (lv_at hl 6 rfl) ?_
  exact wm_lret hC hK hM hr hlk ⟨cy, f, rfl, rfl, hS, hc, hf⟩ d_Rows_takeMultiple_82
set_option maxHeartbeats 4000000 in
set_option maxRecDepth 100000 in
theorem lp_Rows_addStretch {p : Program} {l : Launch} {e : Env} {R : Room} {s : State} {m : MethodId} {args : Array Value} {below : List Frame} {meth : Method} {c : Code} {Q : State → Prop} {D : va_G} {ad : Nat → Nat} {cA cR : ClassId} (hC : CallFix p m c b_Rows_addStretch 10 s args lw_T R_Rows) (hK : va_K D classes (wm_ty cA cR) s) (ln : Nat → Nat) (wd : Nat → Nat → Int32) (i j a0 fr cnt F : Nat) (hi : i < 19) (hj : j < 19) (hji : j ≠ i) (hF : F < 2 ^ 34) (hfit : a0 + cnt ≤ 2050) (hfit2 : fr + cnt ≤ 2050)
    (hex : ∀ (cy : Nat) (f : Nat → Int32), (wm_v (wm_off f a0) cnt + cy * 4294967296 ^ cnt = wm_v (wm_off (wd i) a0) cnt + wm_v (wm_off (wd j) fr) cnt + F) → (cy < 2 ^ 34) → (∀ q, (q < a0 ∨ a0 + cnt ≤ q) → f q = wd i q) → ∀ (H : Heap) (locs : List Loc) (ls : Array Slot), wm_M D ad cA cR s (ln) (va_up wd i f) H locs → lv_has ls 10 [(0, .ref (ad (19 + i))), (1, .int (nI (a0))), (2, .ref (ad (19 + j))), (3, .int (nI (fr))), (4, .int (nI (cnt))), (7, .long (lN (cy))), (9, .int (nI (cnt)))] → W p l e R s m args below meth c H locs 0 0 Q (F0 m 64 ls [])) :
    ∀ (n : Nat) (k : Nat) (cy : Nat) (f : Nat → Int32), (k ≤ cnt) → (wm_v (wm_off f a0) k + cy * 4294967296 ^ k = wm_v (wm_off (wd i) a0) k + wm_v (wm_off (wd j) fr) k + F) → (cy < 2 ^ 34) → (∀ q, (q < a0 ∨ a0 + k ≤ q) → f q = wd i q) → cnt + 1 ≤ k + n → ∀ (H : Heap) (locs : List Loc) (ls : Array Slot), wm_M D ad cA cR s (ln) (va_up wd i f) H locs → lv_has ls 10 [(0, .ref (ad (19 + i))), (1, .int (nI (a0))), (2, .ref (ad (19 + j))), (3, .int (nI (fr))), (4, .int (nI (cnt))), (7, .long (lN (cy))), (9, .int (nI (k)))] → W p l e R s m args below meth c H locs 0 0 Q (F0 m 7 ls []) := by
  intro n
  induction n with
  | zero =>
    intro k cy f hk hS hc hf hn
    exact absurd hn (by omega)
  | succ n ih =>
    intro k cy f hk hS hc hf hn H locs ls hM hl
    have hu1 := wm_u_lt (wd j (fr + k))
    have hu2 := wm_u_lt (f (a0 + k))
    refine lv_iload hC.1 hC.2.1 d_Rows_addStretch_7 (lv_at hl 6 rfl) ?_
    refine lv_iload hC.1 hC.2.1 d_Rows_addStretch_9 (lv_at hl 4 rfl) ?_
    refine nv_icmp_ge (tgt := 64) hC (by omega) (by omega) d_Rows_addStretch_11 (by decide) (fun hc2 => ?_) (fun hc2 => ?_)
    · have ek : k = cnt := by omega
      subst ek
      exact hex cy f hS hc hf H locs ls hM (lv_sub hl [0, 1, 2, 3, 4, 5, 6] rfl)
    · refine lv_lload hC.1 hC.2.1 d_Rows_addStretch_14 (lv_at hl 5 rfl) ?_
      refine lv_aload_n hC.1 hC.2.1 d_Rows_addStretch_16 rfl (lv_at hl 0 rfl) ?_
      refine lv_iload_n hC.1 hC.2.1 d_Rows_addStretch_17 rfl (lv_at hl 1 rfl) ?_
      refine lv_iload hC.1 hC.2.1 d_Rows_addStretch_18 (lv_at hl 6 rfl) ?_
      refine nv_iadd hC d_Rows_addStretch_20 ?_
      refine wm_ald_s hC hK hM (k := a0 + k) hi (by omega) d_Rows_addStretch_21 ?_
      refine nv_low hC kl_Rows_9 d_Rows_addStretch_22 d_Rows_addStretch_23 d_Rows_addStretch_26 ?_
      refine lv_aload_n hC.1 hC.2.1 d_Rows_addStretch_27 rfl (lv_at hl 2 rfl) ?_
      refine lv_iload_n hC.1 hC.2.1 d_Rows_addStretch_28 rfl (lv_at hl 3 rfl) ?_
      refine lv_iload hC.1 hC.2.1 d_Rows_addStretch_29 (lv_at hl 6 rfl) ?_
      refine nv_iadd hC d_Rows_addStretch_31 ?_
      refine wm_ald_o hC hK hM (j := j) (k := fr + k) hj hji (by omega) d_Rows_addStretch_32 ?_
      refine nv_low hC kl_Rows_9 d_Rows_addStretch_33 d_Rows_addStretch_34 d_Rows_addStretch_37 ?_
      refine nv_ladd hC d_Rows_addStretch_38 ?_
      refine nv_ladd hC d_Rows_addStretch_39 ?_
      refine lv_lstore (lv' := [(7, .long (lN (cy + ((wm_u (f (a0 + k))) + (wm_u (wd j (fr + k))))))), (0, .ref (ad (19 + i))), (1, .int (nI (a0))), (2, .ref (ad (19 + j))), (3, .int (nI (fr))), (4, .int (nI (cnt))), (9, .int (nI (k)))]) hC.1 hC.2.1 d_Rows_addStretch_40 hl (by decide) rfl (fun ls hl => ?_)
      refine lv_aload_n hC.1 hC.2.1 d_Rows_addStretch_42 rfl (lv_at hl 1 rfl) ?_
      refine lv_iload_n hC.1 hC.2.1 d_Rows_addStretch_43 rfl (lv_at hl 2 rfl) ?_
      refine lv_iload hC.1 hC.2.1 d_Rows_addStretch_44 (lv_at hl 6 rfl) ?_
      refine nv_iadd hC d_Rows_addStretch_46 ?_
      refine lv_lload hC.1 hC.2.1 d_Rows_addStretch_47 (lv_at hl 0 rfl) ?_
      refine nv_l2i hC d_Rows_addStretch_49 ?_
      refine wm_ast_s hC hK hM (k := a0 + k) hi (by omega) d_Rows_addStretch_50 (fun H locs hM => ?_)
      refine lv_lload hC.1 hC.2.1 d_Rows_addStretch_51 (lv_at hl 0 rfl) ?_
      refine lv_bipush (v := nI 32) hC.1 hC.2.1 d_Rows_addStretch_53 (by decide) ?_
      refine nv_lushr32 hC (by omega) d_Rows_addStretch_55 ?_
      refine lv_lstore (lv' := [(7, .long (lN ((cy + ((wm_u (f (a0 + k))) + (wm_u (wd j (fr + k))))) / 4294967296))), (0, .ref (ad (19 + i))), (1, .int (nI (a0))), (2, .ref (ad (19 + j))), (3, .int (nI (fr))), (4, .int (nI (cnt))), (9, .int (nI (k)))]) hC.1 hC.2.1 d_Rows_addStretch_56 hl (by decide) rfl (fun ls hl => ?_)
      refine lv_iinc (v := nI (k + 1)) (lv' := [(9, .int (nI (k + 1))), (7, .long (lN ((cy + ((wm_u (f (a0 + k))) + (wm_u (wd j (fr + k))))) / 4294967296))), (0, .ref (ad (19 + i))), (1, .int (nI (a0))), (2, .ref (ad (19 + j))), (3, .int (nI (fr))), (4, .int (nI (cnt)))]) hC.1 hC.2.1 d_Rows_addStretch_58 hl (k := 6) rfl (nv_inc _) (by decide) rfl (fun ls hl => ?_)
      refine lv_goto (tgt := 7) hC.1 hC.2.1 d_Rows_addStretch_61 (by decide) ?_
      exact ih (k + 1) ((cy + (wm_u (f (a0 + k)) + wm_u (wd j (fr + k)))) / 4294967296) (upd f (a0 + k) (nI (cy + (wm_u (f (a0 + k)) + wm_u (wd j (fr + k)))))) (by omega) (by
        have h := wm_chain (d := wm_u (f (a0 + k)) + wm_u (wd j (fr + k))) hS
        rw [wm_off_upd, h, wm_v_s, wm_v_s, Nat.add_mul, show wm_off (wd i) a0 k = f (a0 + k) from (hf (a0 + k) (Or.inr (Nat.le_refl _))).symm, show wm_off (wd j) fr k = wd j (fr + k) from rfl]
        omega) (by omega) (fun q hq => by rw [pk_un (by omega)]; exact hf q (by omega)) (by omega) H locs ls hM (lv_sub hl [2, 3, 4, 5, 6, 1, 0] rfl)
set_option maxHeartbeats 4000000 in
set_option maxRecDepth 100000 in
theorem c_Rows_addStretch (l : Launch) (D : va_G) (ad : Nat → Nat) (cA cR : ClassId) (sz : Nat) (ln : Nat → Nat) (wd : Nat → Nat → Int32) (i j a0 fr cnt F : Nat) (hi : i < 19) (hj : j < 19) (hji : j ≠ i) (hF : F < 2 ^ 34) (hfit : a0 + cnt ≤ 2050) (hfit2 : fr + cnt ≤ 2050) : Met l y_Rows_addStretch (Cond.code y_Rows_addStretch b_Rows_addStretch 10 (some .long) :: lw_T) ({ frames := 0, cells := 0, slots := 0, locals := 0 }) (va_Pc [.ref (ad (19 + i)), .int (nI (a0)), .ref (ad (19 + j)), .int (nI (fr)), .int (nI (cnt)), .long (lN (F))] (wm_B D ad cA cR sz ln wd)) (va_Ql (fun (r : Int64) (u : wm_St) => ∃ (cy : Nat) (f : Nat → Int32), r = lN cy ∧ u = (ln, va_up wd i f) ∧ wm_v (wm_off f a0) cnt + cy * 4294967296 ^ cnt = wm_v (wm_off (wd i) a0) cnt + wm_v (wm_off (wd j) fr) cnt + F ∧ cy < 2 ^ 34 ∧ ∀ q, (q < a0 ∨ a0 + cnt ≤ q) → f q = wd i q) (wm_E D ad cA cR sz) (wm_A ad sz)) 0 0 (wm_A ad sz) := by
  refine wm_met l (by decide) (Nat.le_of_ble_eq_true rfl) ?_
  intro p e s m below meth c ls hsz hC hK hr hlk hM hl
  subst hsz
  have hC : CallFix p m c b_Rows_addStretch 10 s _ lw_T R_Rows := hC
  have hl : lv_has ls 10 [(0, .ref (ad (19 + i))), (1, .int (nI (a0))), (2, .ref (ad (19 + j))), (3, .int (nI (fr))), (4, .int (nI (cnt))), (5, .long (lN (F)))] := hl
  refine lv_lload hC.1 hC.2.1 d_Rows_addStretch_0 (lv_at hl 5 rfl) ?_
  refine lv_lstore (lv' := [(7, .long (lN (F))), (0, .ref (ad (19 + i))), (1, .int (nI (a0))), (2, .ref (ad (19 + j))), (3, .int (nI (fr))), (4, .int (nI (cnt))), (5, .long (lN (F)))]) hC.1 hC.2.1 d_Rows_addStretch_2 hl (by decide) rfl (fun ls hl => ?_)
  refine lv_iconst (v := nI 0) hC.1 hC.2.1 d_Rows_addStretch_4 (by decide) ?_
  refine lv_istore (lv' := [(9, .int (nI (0))), (7, .long (lN (F))), (0, .ref (ad (19 + i))), (1, .int (nI (a0))), (2, .ref (ad (19 + j))), (3, .int (nI (fr))), (4, .int (nI (cnt))), (5, .long (lN (F)))]) hC.1 hC.2.1 d_Rows_addStretch_5 hl (by decide) rfl (fun ls hl => ?_)
  have hM : wm_M D ad cA cR s (ln) (va_up wd i (wd i)) s.heap [] := by
    rw [wm_eta]; exact hM
  refine lp_Rows_addStretch hC hK ln wd i j a0 fr cnt F hi hj hji hF hfit hfit2 (fun cy f hS hc hf H locs ls hM hl => ?_) (cnt + 1) 0 F (wd i) (Nat.zero_le _) (by simp [wm_v_0]) hF (fun _ _ => rfl) (by omega) _ _ _ hM (lv_sub hl [2, 3, 4, 5, 6, 1, 0] rfl)
  refine lv_lload hC.1 hC.2.1 d_Rows_addStretch_64 (lv_at hl 5 rfl) ?_
  exact wm_lret hC hK hM hr hlk ⟨cy, f, rfl, rfl, hS, hc, hf⟩ d_Rows_addStretch_66
end
section
set_option maxHeartbeats 4000000 in
set_option maxRecDepth 100000 in
theorem lp_Rows_guess {p : Program} {l : Launch} {e : Env} {s : State} {m : MethodId} {args : Array Value} {below : List Frame} {meth : Method} {c : Code} {Q : State → Prop} (hC : CallFix p m c b_Rows_guess 14 s args lw_T R_Rows) (lo s2 : Int32) (pr b : Nat) (hb : 2147483648 ≤ b) (hb2 : b < 4294967296)
    (hex : ∀ (H : Heap) (locs : List Loc) (ls : Array Slot), pu_H s H locs → lv_has ls 14 [(9, .long (lN (wm_gs (pr * 4294967296 + wm_u lo) (b * 4294967296 + wm_u s2))))] → W p l e ({ frames := 1, cells := 0, slots := 0, locals := 23 }) s m args below meth c H locs 0 0 Q (F0 m 156 ls [])) :
    ∀ (n : Nat) (i : Nat) (w : Nat) (ov : Nat), (i ≤ 2) → (w * b + ov = pr) → (wm_gs (pr * 4294967296 + wm_u lo) (b * 4294967296 + wm_u s2) ≤ w) → (w < 4294967296) → (i * b ≤ ov) → (ov < (i + 2) * 4294967296) → 3 ≤ i + n → ∀ (H : Heap) (locs : List Loc) (ls : Array Slot), pu_H s H locs → lv_has ls 14 [(2, .int (lo)), (4, .int (s2)), (5, .long (lN (b))), (9, .long (lN (w))), (11, .long (lN (ov))), (13, .int (nI (i)))] → W p l e ({ frames := 1, cells := 0, slots := 0, locals := 23 }) s m args below meth c H locs 0 0 Q (F0 m 91 ls []) := by
  intro n
  induction n with
  | zero =>
    intro i w ov hi2 hw hg hw2 ho ho2 hn
    exact absurd hn (by omega)
  | succ n ih =>
    intro i w ov hi2 hw hg hw2 ho ho2 hn H locs ls hM hl
    have hlo := wm_u_lt lo
    have hs2 := wm_u_lt s2
    have hV : 0 < b * 4294967296 + wm_u s2 := by omega
    have hm1 : w * wm_u s2 ≤ 4294967295 * 4294967295 := Nat.mul_le_mul (by omega) (by omega)
    have hout : w * (b * 4294967296 + wm_u s2) ≤ pr * 4294967296 + wm_u lo → w = wm_gs (pr * 4294967296 + wm_u lo) (b * 4294967296 + wm_u s2) := fun h => wm_gs_of hV h hg hw2
    refine lv_iload hC.1 hC.2.1 d_Rows_guess_91 (lv_at hl 5 rfl) ?_
    refine lv_iconst (v := nI 2) hC.1 hC.2.1 d_Rows_guess_93 (by decide) ?_
    refine nv_icmp_ge (tgt := 156) hC (by omega) (by omega) d_Rows_guess_94 (by decide) (fun hc2 => ?_) (fun hc2 => ?_)
    · have ei : i = 2 := by omega
      rw [ei] at ho
      obtain rfl := hout (wm_gu_big hw (by omega) hw2 hs2)
      exact hex H locs ls hM (lv_sub hl [3] rfl)
    · refine lv_lload hC.1 hC.2.1 d_Rows_guess_97 (lv_at hl 4 rfl) ?_
      refine lv_ldc2 (v := lN 4294967295) hC.1 hC.2.1 hC.2.2.2.1 (hC.2.2.2.2 _ kl_Rows_9) d_Rows_guess_99 ?_
      refine nv_lc_gt (tgt := 156) hC (by omega) (by omega) d_Rows_guess_102 d_Rows_guess_103 (by decide) (fun hc3 => ?_) (fun hc3 => ?_)
      · obtain rfl := hout (wm_gu_big hw (by omega) hw2 hs2)
        exact hex H locs ls hM (lv_sub hl [3] rfl)
      · refine lv_lload hC.1 hC.2.1 d_Rows_guess_106 (lv_at hl 3 rfl) ?_
        refine lv_iload hC.1 hC.2.1 d_Rows_guess_108 (lv_at hl 1 rfl) ?_
        refine nv_low hC kl_Rows_9 d_Rows_guess_110 d_Rows_guess_111 d_Rows_guess_114 ?_
        refine nv_lmul hC d_Rows_guess_115 ?_
        refine lv_lload hC.1 hC.2.1 d_Rows_guess_116 (lv_at hl 4 rfl) ?_
        refine lv_bipush (v := nI 32) hC.1 hC.2.1 d_Rows_guess_118 (by decide) ?_
        refine nv_lshl hC (by decide) d_Rows_guess_120 ?_
        refine lv_iload_n hC.1 hC.2.1 d_Rows_guess_121 rfl (lv_at hl 0 rfl) ?_
        refine nv_low hC kl_Rows_9 d_Rows_guess_122 d_Rows_guess_123 d_Rows_guess_126 ?_
        refine nv_pair (k := 32) hC (by omega) (by omega) d_Rows_guess_127 ?_
        refine pu_calli hC hM (As := [.long (lN (w * (wm_u (s2)))), .long (lN (ov * 2 ^ 32 + (wm_u (lo))))]) (rest := []) (c_Rows_isAbove l _ (w * wm_u s2) (ov * 2 ^ 32 + wm_u lo) (by omega) (by omega)) kc_Rows_isAbove km_Rows_17 ki_Rows ks_Rows_isAbove kd_Rows_isAbove ⟨rfl, rfl⟩ ⟨Nat.le_of_ble_eq_true rfl, Nat.le_of_ble_eq_true rfl⟩ rfl hl.1 (Nat.le_of_ble_eq_true rfl) d_Rows_guess_128 (fun r H locs hp hM => ?_)
        rcases hp with ⟨ha, rfl⟩ | ⟨ha, rfl⟩
        · refine nv_if_ne (tgt := 137) hC (by omega) d_Rows_guess_131 (by decide) (fun hz => ?_) (fun hz => ?_)
          · have hd := wm_gu_dec (U := pr * 4294967296 + wm_u lo) (V := b * 4294967296 + wm_u s2) (w := w) (fun z => absurd ((wm_gu_le hw).mp z) (by omega))
            refine lv_lload hC.1 hC.2.1 d_Rows_guess_137 (lv_at hl 3 rfl) ?_
            refine lv_lconst (v := lN 1) hC.1 hC.2.1 d_Rows_guess_139 (by decide) ?_
            refine nv_lsub hC (by omega) d_Rows_guess_140 ?_
            refine lv_lstore (lv' := [(9, .long (lN (w - 1))), (2, .int (lo)), (4, .int (s2)), (5, .long (lN (b))), (11, .long (lN (ov))), (13, .int (nI (i)))]) hC.1 hC.2.1 d_Rows_guess_141 hl (by decide) rfl (fun ls hl => ?_)
            refine lv_lload hC.1 hC.2.1 d_Rows_guess_143 (lv_at hl 4 rfl) ?_
            refine lv_lload hC.1 hC.2.1 d_Rows_guess_145 (lv_at hl 3 rfl) ?_
            refine nv_ladd hC d_Rows_guess_147 ?_
            refine lv_lstore (lv' := [(11, .long (lN (ov + b))), (9, .long (lN (w - 1))), (2, .int (lo)), (4, .int (s2)), (5, .long (lN (b))), (13, .int (nI (i)))]) hC.1 hC.2.1 d_Rows_guess_148 hl (by decide) rfl (fun ls hl => ?_)
            refine lv_iinc (v := nI (i + 1)) (lv' := [(13, .int (nI (i + 1))), (11, .long (lN (ov + b))), (9, .long (lN (w - 1))), (2, .int (lo)), (4, .int (s2)), (5, .long (lN (b)))]) hC.1 hC.2.1 d_Rows_guess_150 hl (k := 5) rfl (nv_inc _) (by decide) rfl (fun ls hl => ?_)
            refine lv_goto (tgt := 91) hC.1 hC.2.1 d_Rows_guess_153 (by decide) ?_
            exact ih (i + 1) (w - 1) (ov + b) (by omega) (by
            obtain ⟨w', rfl⟩ : ∃ w', w = w' + 1 := ⟨w - 1, by omega⟩
            rw [Nat.add_sub_cancel]
            rw [Nat.add_mul, Nat.one_mul] at hw
            omega) (by omega) (by omega) (by rw [Nat.add_mul, Nat.one_mul]; omega) (by omega) (by omega) H locs ls hM (lv_sub hl [3, 4, 5, 2, 1, 0] rfl)
          · exact absurd hz (by decide)
        · refine nv_if_ne (tgt := 137) hC (by omega) d_Rows_guess_131 (by decide) (fun hz => ?_) (fun hz => ?_)
          · exact absurd rfl hz
          · refine lv_goto (tgt := 156) hC.1 hC.2.1 d_Rows_guess_134 (by decide) ?_
            obtain rfl := hout ((wm_gu_le hw).mpr ha)
            exact hex H locs ls hM (lv_sub hl [3] rfl)
set_option maxHeartbeats 4000000 in
set_option maxRecDepth 100000 in
theorem c_Rows_guess (l : Launch) (sz : Nat) (h m0 lo t s2 : Int32) (ht : 2147483648 ≤ wm_u t) (hh : wm_u h ≤ wm_u t) : Met l y_Rows_guess (Cond.code y_Rows_guess b_Rows_guess 14 (some .long) :: lw_T) ({ frames := 1, cells := 0, slots := 0, locals := 23 }) (pu_Pc [.int (h), .int (m0), .int (lo), .int (t), .int (s2)] sz) (pu_Ql (fun r => r = lN (wm_gs ((wm_u h * 2 ^ 32 + wm_u m0) * 4294967296 + wm_u lo) (wm_u t * 4294967296 + wm_u s2))) sz) 0 0 (fun q => sz ≤ q) := by
  refine pu_met l (by decide) (Nat.le_of_ble_eq_true rfl) ?_
  intro p e s m below meth c ls hsz hC hr hlk hl
  subst hsz
  have hM : pu_H s s.heap [] := va_S.rf
  have hC : CallFix p m c b_Rows_guess 14 s _ lw_T R_Rows := hC
  have hl : lv_has ls 14 [(0, .int (h)), (1, .int (m0)), (2, .int (lo)), (3, .int (t)), (4, .int (s2))] := hl
  have hb2 := wm_u_lt t
  have hm2 := wm_u_lt m0
  have hh2 := wm_u_lt h
  obtain ⟨b, hb⟩ : ∃ z, z = wm_u t := ⟨_, rfl⟩
  obtain ⟨pr, hpr⟩ : ∃ z, z = wm_u h * 2 ^ 32 + wm_u m0 := ⟨_, rfl⟩
  rw [← hb] at ht hh hb2
  obtain ⟨g1, g2, g3⟩ := wm_half (p := pr) (b := b) (by omega)
  refine lv_iload_n hC.1 hC.2.1 d_Rows_guess_0 rfl (lv_at hl 3 rfl) ?_
  refine nv_low hC kl_Rows_9 d_Rows_guess_1 d_Rows_guess_2 d_Rows_guess_5 ?_
  refine nv_topl (y := lN (b)) (by rw [hb]) ?_
  refine lv_lstore (lv' := [(5, .long (lN (b))), (0, .int (h)), (1, .int (m0)), (2, .int (lo)), (3, .int (t)), (4, .int (s2))]) hC.1 hC.2.1 d_Rows_guess_6 hl (by decide) rfl (fun ls hl => ?_)
  refine lv_lload hC.1 hC.2.1 d_Rows_guess_8 (lv_at hl 0 rfl) ?_
  refine lv_lconst (v := lN 0) hC.1 hC.2.1 d_Rows_guess_10 (by decide) ?_
  refine nv_lc_ne (tgt := 19) hC (by omega) (by omega) d_Rows_guess_11 d_Rows_guess_12 (by decide) (fun hz => ?_) (fun hz => ?_)
  · refine lv_iload_n hC.1 hC.2.1 d_Rows_guess_19 rfl (lv_at hl 1 rfl) ?_
    refine nv_hi hC d_Rows_guess_20 d_Rows_guess_21 d_Rows_guess_23 ?_
    refine lv_iload_n hC.1 hC.2.1 d_Rows_guess_24 rfl (lv_at hl 2 rfl) ?_
    refine nv_low hC kl_Rows_9 d_Rows_guess_25 d_Rows_guess_26 d_Rows_guess_29 ?_
    refine nv_pair (k := 32) hC (by omega) (by omega) d_Rows_guess_30 ?_
    refine nv_topl (y := lN (pr)) (by rw [hpr]) ?_
    refine lv_lstore (lv' := [(7, .long (lN (pr))), (5, .long (lN (b))), (0, .int (h)), (1, .int (m0)), (2, .int (lo)), (3, .int (t)), (4, .int (s2))]) hC.1 hC.2.1 d_Rows_guess_31 hl (by decide) rfl (fun ls hl => ?_)
    refine lv_lload hC.1 hC.2.1 d_Rows_guess_33 (lv_at hl 0 rfl) ?_
    refine lv_iconst (v := nI 1) hC.1 hC.2.1 d_Rows_guess_35 (by decide) ?_
    refine nv_lushr hC (by omega) (by decide) d_Rows_guess_36 ?_
    refine lv_lload hC.1 hC.2.1 d_Rows_guess_37 (lv_at hl 1 rfl) ?_
    refine nv_ldiv hC (by omega) (by omega) (by omega) d_Rows_guess_39 ?_
    refine lv_iconst (v := nI 1) hC.1 hC.2.1 d_Rows_guess_40 (by decide) ?_
    refine nv_lshl hC (by omega) d_Rows_guess_41 ?_
    refine nv_topl (y := lN (pr / 2 / b * 2)) rfl ?_
    refine lv_lstore (lv' := [(9, .long (lN (pr / 2 / b * 2))), (7, .long (lN (pr))), (5, .long (lN (b))), (0, .int (h)), (1, .int (m0)), (2, .int (lo)), (3, .int (t)), (4, .int (s2))]) hC.1 hC.2.1 d_Rows_guess_42 hl (by decide) rfl (fun ls hl => ?_)
    refine lv_lload hC.1 hC.2.1 d_Rows_guess_44 (lv_at hl 0 rfl) ?_
    refine lv_lload hC.1 hC.2.1 d_Rows_guess_46 (lv_at hl 1 rfl) ?_
    refine lv_lload hC.1 hC.2.1 d_Rows_guess_48 (lv_at hl 0 rfl) ?_
    refine lv_lload hC.1 hC.2.1 d_Rows_guess_50 (lv_at hl 2 rfl) ?_
    refine nv_lmul hC d_Rows_guess_52 ?_
    refine nv_lsub hC g1 d_Rows_guess_53 ?_
    refine lv_lload hC.1 hC.2.1 d_Rows_guess_54 (lv_at hl 2 rfl) ?_
    refine nv_lc_lt (tgt := 64) hC (by omega) (by omega) d_Rows_guess_56 d_Rows_guess_57 (by decide) (fun hs => ?_) (fun hs => ?_)
    · refine lv_lconst (v := lN 0) hC.1 hC.2.1 d_Rows_guess_64 (by decide) ?_
      refine nv_ladd hC d_Rows_guess_65 ?_
      refine nv_topl (y := lN (pr / b)) (by rw [g3, if_neg (by omega)]) ?_
      refine lv_lstore (lv' := [(9, .long (lN (pr / b))), (7, .long (lN (pr))), (5, .long (lN (b))), (0, .int (h)), (1, .int (m0)), (2, .int (lo)), (3, .int (t)), (4, .int (s2))]) hC.1 hC.2.1 d_Rows_guess_66 hl (by decide) rfl (fun ls hl => ?_)
      refine lv_lload hC.1 hC.2.1 d_Rows_guess_68 (lv_at hl 0 rfl) ?_
      refine lv_ldc2 (v := lN 4294967295) hC.1 hC.2.1 hC.2.2.2.1 (hC.2.2.2.2 _ kl_Rows_9) d_Rows_guess_70 ?_
      have hqd : pr / b * b ≤ pr := Nat.div_mul_le_self _ _
      have hqm := Nat.mod_add_div pr b
      have hqr := Nat.mod_lt pr (show b > 0 by omega)
      have hqb : pr / b < 2 ^ 63 := by rw [Nat.div_lt_iff_lt_mul (by omega)]; have : 2 ^ 63 * 2147483648 ≤ 2 ^ 63 * b := Nat.mul_le_mul_left _ (by omega); omega
      refine nv_mminL hC hl.1 kj_Rows_11 kj_s_minL ki_Math kj_c_minL (Nat.le_of_ble_eq_true rfl) (Nat.le_of_ble_eq_true rfl) hqb (by decide) d_Rows_guess_73 ?_
      obtain ⟨w1, hw1⟩ : ∃ z, z = min (pr / b) 4294967295 := ⟨_, rfl⟩
      refine nv_topl (y := lN (w1)) (by rw [hw1]) ?_
      have hle : w1 * b ≤ pr := Nat.le_trans (Nat.mul_le_mul_right b (show w1 ≤ pr / b by omega)) hqd
      have hov : pr - w1 * b < 2 * 4294967296 := by
        rcases Nat.lt_or_ge (pr / b) 4294967295 with z | z
        · have e : w1 = pr / b := by omega
          rw [e, Nat.mul_comm]
          omega
        · have e : w1 = 4294967295 := by omega
          rw [e]
          omega
      refine lv_lstore (lv' := [(9, .long (lN (w1))), (7, .long (lN (pr))), (5, .long (lN (b))), (0, .int (h)), (1, .int (m0)), (2, .int (lo)), (3, .int (t)), (4, .int (s2))]) hC.1 hC.2.1 d_Rows_guess_76 hl (by decide) rfl (fun ls hl => ?_)
      refine lv_lload hC.1 hC.2.1 d_Rows_guess_78 (lv_at hl 1 rfl) ?_
      refine lv_lload hC.1 hC.2.1 d_Rows_guess_80 (lv_at hl 0 rfl) ?_
      refine lv_lload hC.1 hC.2.1 d_Rows_guess_82 (lv_at hl 2 rfl) ?_
      refine nv_lmul hC d_Rows_guess_84 ?_
      refine nv_lsub hC hle d_Rows_guess_85 ?_
      refine lv_lstore (lv' := [(11, .long (lN (pr - (w1 * b)))), (9, .long (lN (w1))), (7, .long (lN (pr))), (5, .long (lN (b))), (0, .int (h)), (1, .int (m0)), (2, .int (lo)), (3, .int (t)), (4, .int (s2))]) hC.1 hC.2.1 d_Rows_guess_86 hl (by decide) rfl (fun ls hl => ?_)
      refine lv_iconst (v := nI 0) hC.1 hC.2.1 d_Rows_guess_88 (by decide) ?_
      refine lv_istore (lv' := [(13, .int (nI (0))), (11, .long (lN (pr - (w1 * b)))), (9, .long (lN (w1))), (7, .long (lN (pr))), (5, .long (lN (b))), (0, .int (h)), (1, .int (m0)), (2, .int (lo)), (3, .int (t)), (4, .int (s2))]) hC.1 hC.2.1 d_Rows_guess_89 hl (by decide) rfl (fun ls hl => ?_)
      refine lp_Rows_guess hC lo s2 pr b (by omega) hb2 (fun H locs ls hM hl => ?_) 3 0 w1 (pr - w1 * b) (by decide) (by omega) (by
        have h1 := wm_gu_0 (pair := pr) (b := b) (sec := wm_u s2) (lo := wm_u lo) (by omega) (wm_u_lt _)
        have h2 := wm_gs_lt (pr * 4294967296 + wm_u lo) (b * 4294967296 + wm_u s2)
        omega) (by omega) (by omega) (by omega) (by decide) _ _ _ hM (lv_sub hl [7, 9, 4, 2, 1, 0] rfl)
      refine lv_lload hC.1 hC.2.1 d_Rows_guess_156 (lv_at hl 0 rfl) ?_
      exact pu_lret hC hr hM hlk (by rw [hpr, hb]) d_Rows_guess_158
    · refine lv_lconst (v := lN 1) hC.1 hC.2.1 d_Rows_guess_60 (by decide) ?_
      refine lv_goto (tgt := 65) hC.1 hC.2.1 d_Rows_guess_61 (by decide) ?_
      refine nv_ladd hC d_Rows_guess_65 ?_
      refine nv_topl (y := lN (pr / b)) (by rw [g3, if_pos hs]) ?_
      refine lv_lstore (lv' := [(9, .long (lN (pr / b))), (7, .long (lN (pr))), (5, .long (lN (b))), (0, .int (h)), (1, .int (m0)), (2, .int (lo)), (3, .int (t)), (4, .int (s2))]) hC.1 hC.2.1 d_Rows_guess_66 hl (by decide) rfl (fun ls hl => ?_)
      refine lv_lload hC.1 hC.2.1 d_Rows_guess_68 (lv_at hl 0 rfl) ?_
      refine lv_ldc2 (v := lN 4294967295) hC.1 hC.2.1 hC.2.2.2.1 (hC.2.2.2.2 _ kl_Rows_9) d_Rows_guess_70 ?_
      have hqd : pr / b * b ≤ pr := Nat.div_mul_le_self _ _
      have hqm := Nat.mod_add_div pr b
      have hqr := Nat.mod_lt pr (show b > 0 by omega)
      have hqb : pr / b < 2 ^ 63 := by rw [Nat.div_lt_iff_lt_mul (by omega)]; have : 2 ^ 63 * 2147483648 ≤ 2 ^ 63 * b := Nat.mul_le_mul_left _ (by omega); omega
      refine nv_mminL hC hl.1 kj_Rows_11 kj_s_minL ki_Math kj_c_minL (Nat.le_of_ble_eq_true rfl) (Nat.le_of_ble_eq_true rfl) hqb (by decide) d_Rows_guess_73 ?_
      obtain ⟨w1, hw1⟩ : ∃ z, z = min (pr / b) 4294967295 := ⟨_, rfl⟩
      refine nv_topl (y := lN (w1)) (by rw [hw1]) ?_
      have hle : w1 * b ≤ pr := Nat.le_trans (Nat.mul_le_mul_right b (show w1 ≤ pr / b by omega)) hqd
      have hov : pr - w1 * b < 2 * 4294967296 := by
        rcases Nat.lt_or_ge (pr / b) 4294967295 with z | z
        · have e : w1 = pr / b := by omega
          rw [e, Nat.mul_comm]
          omega
        · have e : w1 = 4294967295 := by omega
          rw [e]
          omega
      refine lv_lstore (lv' := [(9, .long (lN (w1))), (7, .long (lN (pr))), (5, .long (lN (b))), (0, .int (h)), (1, .int (m0)), (2, .int (lo)), (3, .int (t)), (4, .int (s2))]) hC.1 hC.2.1 d_Rows_guess_76 hl (by decide) rfl (fun ls hl => ?_)
      refine lv_lload hC.1 hC.2.1 d_Rows_guess_78 (lv_at hl 1 rfl) ?_
      refine lv_lload hC.1 hC.2.1 d_Rows_guess_80 (lv_at hl 0 rfl) ?_
      refine lv_lload hC.1 hC.2.1 d_Rows_guess_82 (lv_at hl 2 rfl) ?_
      refine nv_lmul hC d_Rows_guess_84 ?_
      refine nv_lsub hC hle d_Rows_guess_85 ?_
      refine lv_lstore (lv' := [(11, .long (lN (pr - (w1 * b)))), (9, .long (lN (w1))), (7, .long (lN (pr))), (5, .long (lN (b))), (0, .int (h)), (1, .int (m0)), (2, .int (lo)), (3, .int (t)), (4, .int (s2))]) hC.1 hC.2.1 d_Rows_guess_86 hl (by decide) rfl (fun ls hl => ?_)
      refine lv_iconst (v := nI 0) hC.1 hC.2.1 d_Rows_guess_88 (by decide) ?_
      refine lv_istore (lv' := [(13, .int (nI (0))), (11, .long (lN (pr - (w1 * b)))), (9, .long (lN (w1))), (7, .long (lN (pr))), (5, .long (lN (b))), (0, .int (h)), (1, .int (m0)), (2, .int (lo)), (3, .int (t)), (4, .int (s2))]) hC.1 hC.2.1 d_Rows_guess_89 hl (by decide) rfl (fun ls hl => ?_)
      refine lp_Rows_guess hC lo s2 pr b (by omega) hb2 (fun H locs ls hM hl => ?_) 3 0 w1 (pr - w1 * b) (by decide) (by omega) (by
        have h1 := wm_gu_0 (pair := pr) (b := b) (sec := wm_u s2) (lo := wm_u lo) (by omega) (wm_u_lt _)
        have h2 := wm_gs_lt (pr * 4294967296 + wm_u lo) (b * 4294967296 + wm_u s2)
        omega) (by omega) (by omega) (by omega) (by decide) _ _ _ hM (lv_sub hl [7, 9, 4, 2, 1, 0] rfl)
      refine lv_lload hC.1 hC.2.1 d_Rows_guess_156 (lv_at hl 0 rfl) ?_
      exact pu_lret hC hr hM hlk (by rw [hpr, hb]) d_Rows_guess_158
  · exact absurd hz (by omega)
end
section
theorem wm_v_2 (g : Nat → Int32) (c : Nat) : wm_v g (c + 2) = (wm_u (g (c + 1)) * 4294967296 + wm_u (g c)) * 4294967296 ^ c + wm_v g c := by
  have e : wm_v g (c + 2) = wm_v g c + wm_u (g c) * 4294967296 ^ c + wm_u (g (c + 1)) * 4294967296 ^ (c + 1) := rfl
  rw [e, Nat.pow_succ, Nat.add_mul, Nat.mul_comm (4294967296 ^ c), Nat.mul_assoc]
  omega
theorem wm_v_3 (g : Nat → Int32) (c : Nat) : wm_v g (c + 3) = ((wm_u (g (c + 2)) * 4294967296 + wm_u (g (c + 1))) * 4294967296 + wm_u (g c)) * 4294967296 ^ c + wm_v g c := by
  have e : wm_v g (c + 3) = wm_v g (c + 2) + wm_u (g (c + 2)) * 4294967296 ^ (c + 2) := rfl
  have e2 : 4294967296 ^ (c + 2) = 4294967296 * 4294967296 * 4294967296 ^ c := by rw [Nat.pow_add, Nat.mul_comm]
  rw [e, wm_v_2, e2, Nat.add_mul _ (wm_u (g c)), Nat.add_mul _ (wm_u (g c)), Nat.add_mul (wm_u (g (c + 2)) * 4294967296), Nat.add_mul, ← Nat.mul_assoc (wm_u (g (c + 2))), ← Nat.mul_assoc (wm_u (g (c + 2)))]
  omega
theorem wm_nw_top {g dv : Nat → Int32} {c : Nat} (hlt : wm_v g (c + 2) < wm_v dv (c + 1) * 4294967296) : wm_u (g (c + 1)) ≤ wm_u (dv c) := by
  have h1 : wm_u (g (c + 1)) * 4294967296 ^ (c + 1) ≤ wm_v g (c + 2) := by
    have e : wm_v g (c + 2) = wm_v g (c + 1) + wm_u (g (c + 1)) * 4294967296 ^ (c + 1) := rfl
    omega
  have h2 : wm_v dv (c + 1) < (wm_u (dv c) + 1) * 4294967296 ^ c := by
    have := wm_v_lt dv c
    rw [wm_v_s, Nat.add_mul, Nat.one_mul]
    omega
  have h3 : wm_v dv (c + 1) * 4294967296 < (wm_u (dv c) + 1) * 4294967296 ^ c * 4294967296 := by omega
  rw [Nat.mul_assoc, ← Nat.pow_succ] at h3
  have h4 := Nat.lt_of_mul_lt_mul_right (Nat.lt_of_le_of_lt h1 (Nat.lt_trans hlt h3))
  omega
theorem wm_nw2 {g dv : Nat → Int32} {c q : Nat} (ht : 2147483648 ≤ wm_u (dv (c + 1))) (hlt : wm_v g (c + 3) < wm_v dv (c + 2) * 4294967296) (hq : q = wm_gs ((wm_u (g (c + 2)) * 2 ^ 32 + wm_u (g (c + 1))) * 4294967296 + wm_u (g c)) (wm_u (dv (c + 1)) * 4294967296 + wm_u (dv c))) : q * wm_v dv (c + 2) < wm_v g (c + 3) + wm_v dv (c + 2) ∧ wm_v g (c + 3) < (q + 1) * wm_v dv (c + 2) := by
  have hu := wm_v_3 g c
  have hv := wm_v_2 dv c
  have b1 := wm_v_lt g c
  have b2 := wm_v_lt dv c
  have hV : 4294967296 ≤ wm_u (dv (c + 1)) * 4294967296 + wm_u (dv c) := by omega
  have hq1 : q < 4294967296 := by rw [hq]; exact wm_gs_lt _ _
  have hq2 : q * (wm_u (dv (c + 1)) * 4294967296 + wm_u (dv c)) ≤ (wm_u (g (c + 2)) * 4294967296 + wm_u (g (c + 1))) * 4294967296 + wm_u (g c) := by rw [hq]; exact wm_gs_mul
  refine ⟨wm_knuth1 hu hv b2 hV hq1 hq2, ?_⟩
  have h3 := wm_gs_hi (U := (wm_u (g (c + 2)) * 2 ^ 32 + wm_u (g (c + 1))) * 4294967296 + wm_u (g c)) (V := wm_u (dv (c + 1)) * 4294967296 + wm_u (dv c)) (by omega)
  rw [← hq] at h3
  rcases h3 with h3 | h3
  · exact wm_knuth2 hu b1 hv h3
  · rw [h3, Nat.mul_comm]
    exact hlt
theorem wm_nw1 {g dv : Nat → Int32} {q : Nat} (ht : 2147483648 ≤ wm_u (dv 0)) (hlt : wm_v g 2 < wm_v dv 1 * 4294967296) (hq : q = wm_gs ((wm_u (g 1) * 2 ^ 32 + wm_u (g 0)) * 4294967296 + wm_u (nI 0)) (wm_u (dv 0) * 4294967296 + wm_u (nI 0))) : q * wm_v dv 1 < wm_v g 2 + wm_v dv 1 ∧ wm_v g 2 < (q + 1) * wm_v dv 1 := by
  have z : wm_u (nI 0) = 0 := by decide
  have hu : wm_v g 2 = wm_u (g 1) * 4294967296 + wm_u (g 0) := by rw [wm_v_2 g 0, wm_v_0, Nat.pow_zero, Nat.mul_one, Nat.add_zero]
  have hv : wm_v dv 1 = wm_u (dv 0) := by rw [wm_v_s, wm_v_0, Nat.pow_zero, Nat.mul_one, Nat.zero_add]
  rw [z, Nat.add_zero, Nat.add_zero] at hq
  have h1 : q * (wm_u (dv 0) * 4294967296) ≤ (wm_u (g 1) * 2 ^ 32 + wm_u (g 0)) * 4294967296 := by rw [hq]; exact wm_gs_mul
  have h3 := wm_gs_hi (U := (wm_u (g 1) * 2 ^ 32 + wm_u (g 0)) * 4294967296) (V := wm_u (dv 0) * 4294967296) (by omega)
  rw [← hq] at h3
  rw [hu, hv] at hlt ⊢
  have h4 : q * wm_u (dv 0) ≤ wm_u (g 1) * 4294967296 + wm_u (g 0) := Nat.le_of_mul_le_mul_right (c := 4294967296) (by rw [Nat.mul_assoc]; exact h1) (by decide)
  refine ⟨by omega, ?_⟩
  rcases h3 with h3 | h3
  · exact Nat.lt_of_mul_lt_mul_right (a := 4294967296) (by rw [Nat.mul_assoc]; exact h3)
  · rw [h3]
    omega
theorem wm_du {h b P X Z : Nat} (hX : X < P) (hZ : Z < P) (e : h * P + X = b * P + Z) : h = b ∧ X = Z := by
  rcases Nat.lt_trichotomy h b with z | z | z
  · have : (h + 1) * P ≤ b * P := Nat.mul_le_mul_right _ z
    rw [Nat.add_mul, Nat.one_mul] at this
    omega
  · subst z
    omega
  · have : (b + 1) * P ≤ h * P := Nat.mul_le_mul_right _ z
    rw [Nat.add_mul, Nat.one_mul] at this
    omega
theorem wm_nw_a {X P q Y b h T : Nat} (hX : X < P) (hS : X + q = Y + b * P) (hT : T = Y + h * P) (hq : q ≤ T) (hlt : T < q + P) : b = h ∧ X + q = T := by
  obtain ⟨e1, e2⟩ := wm_du (h := h) (b := b) (P := P) (X := X) (Z := T - q) hX (by omega) (by omega)
  omega
theorem wm_nw_b {X P q Y b h T : Nat} (hX : X < P) (hS : X + q = Y + b * P) (hT : T = Y + h * P) (hq : T < q) (hlt : q < T + P) : b = h + 1 ∧ X + q = T + P := by
  rcases Nat.lt_or_ge (X + q - T) P with z | z
  · obtain ⟨e1, e2⟩ := wm_du (h := h) (b := b) (P := P) (X := X + q - T) (Z := 0) z (by omega) (by omega)
    omega
  · have e3 : (h + 1) * P = h * P + P := by rw [Nat.add_mul, Nat.one_mul]
    obtain ⟨e1, e2⟩ := wm_du (h := h + 1) (b := b) (P := P) (X := X + q - T - P) (Z := 0) (by omega) (by omega) (by omega)
    omega
theorem wm_nw_c {X X2 P c v T Q : Nat} (hX2 : X2 < P) (hS : X2 + c * P = X + v) (hX : X + (Q + v) = T + P) (hq : T < Q + v) (k1 : Q + v < T + v) (hv : v < P) : c = 1 ∧ X2 + Q = T := by
  obtain ⟨e1, e2⟩ := wm_du (h := c) (b := 1) (P := P) (X := X2) (Z := T - Q) hX2 (by omega) (by omega)
  exact ⟨e1, by omega⟩
end
section
set_option maxHeartbeats 4000000 in
set_option maxRecDepth 100000 in
theorem tl_Div_nextWord {p : Program} {l : Launch} {e : Env} {s : State} {m : MethodId} {args : Array Value} {below : List Frame} {meth : Method} {c : Code} {Q : State → Prop} {D : va_G} {ad : Nat → Nat} {cA cR : ClassId} (hC : CallFix p m c b_Div_nextWord 11 s args lw_T R_Div) (hK : va_K D classes (wm_ty cA cR) s) (ln : Nat → Nat) (wd : Nat → Nat → Int32) (i j a0 cnt : Nat) (hi : i < 19) (hj : j < 19) (hji : j ≠ i) (hcnt : 1 ≤ cnt) (hfit : a0 + cnt < 2050) (q : Nat) (hqlt : q < 4294967296) (k1 : q * wm_v (wd j) cnt < wm_v (wm_off (wd i) a0) (cnt + 1) + wm_v (wd j) cnt) (k2 : wm_v (wm_off (wd i) a0) (cnt + 1) < (q + 1) * wm_v (wd j) cnt) (hret : ∀ (q : Nat) (f : Nat → Int32) (pc : Nat) (H : Heap) (locs : List Loc) (ls : Array Slot), decode b_Div_nextWord pc = .ok (.ireturn, 1) → (q < 4294967296 ∧ wm_v (wm_off f a0) (cnt + 1) + q * wm_v (wd j) cnt = wm_v (wm_off (wd i) a0) (cnt + 1) ∧ wm_v (wm_off (wd i) a0) (cnt + 1) < (q + 1) * wm_v (wd j) cnt ∧ ∀ k, (k < a0 ∨ a0 + cnt < k) → f k = wd i k) → wm_M D ad cA cR s ln (va_up wd i f) H locs → W p l e ({ frames := 2, cells := 0, slots := 0, locals := 56 }) s m args below meth c H locs 0 0 Q (F0 m pc ls [.int (nI q)])) :
    ∀ (H : Heap) (locs : List Loc) (ls : Array Slot), wm_M D ad cA cR s (ln) (wd) H locs → lv_has ls 11 [(0, .ref (ad (19 + i))), (1, .ref (ad (19 + j))), (2, .int (nI (a0))), (3, .int (nI (cnt))), (4, .int (nI (a0 + cnt)))] → W p l e ({ frames := 2, cells := 0, slots := 0, locals := 56 }) s m args below meth c H locs 0 0 Q (F0 m 60 ls [.long (lN (q))]) := by
  intro H locs ls hM hl
  refine lv_lstore (lv' := [(7, .long (lN (q))), (0, .ref (ad (19 + i))), (1, .ref (ad (19 + j))), (2, .int (nI (a0))), (3, .int (nI (cnt))), (4, .int (nI (a0 + cnt)))]) hC.1 hC.2.1 d_Div_nextWord_60 hl (by decide) rfl (fun ls hl => ?_)
  refine lv_aload_n hC.1 hC.2.1 d_Div_nextWord_62 rfl (lv_at hl 1 rfl) ?_
  refine lv_iload hC.1 hC.2.1 d_Div_nextWord_63 (lv_at hl 5 rfl) ?_
  refine wm_ald hC hK hM (j := i) (k := a0 + cnt) hi (by omega) d_Div_nextWord_65 ?_
  refine nv_low hC kl_Div_55 d_Div_nextWord_66 d_Div_nextWord_67 d_Div_nextWord_70 ?_
  refine lv_aload_n hC.1 hC.2.1 d_Div_nextWord_71 rfl (lv_at hl 1 rfl) ?_
  refine lv_iload_n hC.1 hC.2.1 d_Div_nextWord_72 rfl (lv_at hl 3 rfl) ?_
  refine lv_aload_n hC.1 hC.2.1 d_Div_nextWord_73 rfl (lv_at hl 2 rfl) ?_
  refine lv_iconst (v := nI 0) hC.1 hC.2.1 d_Div_nextWord_74 (by decide) ?_
  refine lv_iload_n hC.1 hC.2.1 d_Div_nextWord_75 rfl (lv_at hl 4 rfl) ?_
  refine lv_lload hC.1 hC.2.1 d_Div_nextWord_76 (lv_at hl 0 rfl) ?_
  refine wm_callSl hC hK hM (As := [.ref (ad (19 + i)), .int (nI (a0)), .ref (ad (19 + j)), .int (nI (0)), .int (nI (cnt)), .long (lN (q))]) (rest := [.long (lN (wm_u (wd i (a0 + cnt))))]) (c_Rows_takeMultiple l D ad cA cR _ ln wd i j a0 0 cnt q hi hj hji hqlt (by omega) (by omega)) kc_Rows_takeMultiple km_Div_57 ki_Rows ks_Rows_takeMultiple kd_Rows_takeMultiple ⟨rfl, rfl⟩ ⟨Nat.le_of_ble_eq_true rfl, Nat.le_of_ble_eq_true rfl⟩ rfl hl.1 (Nat.le_of_ble_eq_true rfl) d_Div_nextWord_78 (fun r u H locs hp hM => ?_)
  obtain ⟨b, f, rfl, rfl, hS, hb, hf⟩ := hp
  rw [wm_off_0] at hS
  have hP := wm_v_lt (wm_off f a0) cnt
  have hv := wm_v_lt (wd j) cnt
  have hT := wm_v_s (wm_off (wd i) a0) cnt
  have hend : wm_off (wd i) a0 cnt = wd i (a0 + cnt) := rfl
  rw [hend] at hT
  have z0 : wm_u (nI 0) = 0 := by decide
  have hM : wm_M D ad cA cR s (ln) (va_up wd i f) H locs := by
    exact hM
  rcases Nat.lt_or_ge (wm_v (wm_off (wd i) a0) (cnt + 1)) (q * wm_v (wd j) cnt) with hc | hc
  · obtain ⟨hbh, hX⟩ := wm_nw_b hP hS hT hc (Nat.lt_trans k1 (Nat.add_lt_add_left hv _))
    have hq1 : 1 ≤ q := by
      rcases Nat.eq_zero_or_pos q with z | z
      · rw [z, Nat.zero_mul] at hc
        exact absurd hc (Nat.not_lt_zero _)
      · exact z
    obtain ⟨q1, rfl⟩ : ∃ z, q = z + 1 := ⟨q - 1, by omega⟩
    rw [Nat.add_mul, Nat.one_mul] at k1 hc hX
    refine nz_lsubn hC d_Div_nextWord_81 ?_
    refine nv_topl (y := -1) (by rw [show ((wm_u (wd i (a0 + cnt)) : Nat) : Int) - ((b : Nat) : Int) = -1 by omega]; decide) ?_
    refine lv_lstore (lv' := [(9, .long (-1)), (7, .long (lN (q1 + 1))), (0, .ref (ad (19 + i))), (1, .ref (ad (19 + j))), (2, .int (nI (a0))), (3, .int (nI (cnt))), (4, .int (nI (a0 + cnt)))]) hC.1 hC.2.1 d_Div_nextWord_82 hl (by decide) rfl (fun ls hl => ?_)
    refine lv_lload hC.1 hC.2.1 d_Div_nextWord_84 (lv_at hl 0 rfl) ?_
    refine lv_lconst (v := lN 0) hC.1 hC.2.1 d_Div_nextWord_86 (by decide) ?_
    refine W.lcmp hC.1 hC.2.1 d_Div_nextWord_87 ?_
    refine lv_if_ge (tgt := 111) hC.1 hC.2.1 d_Div_nextWord_88 (by decide) (fun hg => ?_) (fun hg => ?_)
    · exact absurd hg (by decide)
    · refine lv_lload hC.1 hC.2.1 d_Div_nextWord_91 (lv_at hl 1 rfl) ?_
      refine lv_lconst (v := lN 1) hC.1 hC.2.1 d_Div_nextWord_93 (by decide) ?_
      refine nv_lsub hC (by omega) d_Div_nextWord_94 ?_
      refine lv_lstore (lv' := [(7, .long (lN (q1))), (9, .long (-1)), (0, .ref (ad (19 + i))), (1, .ref (ad (19 + j))), (2, .int (nI (a0))), (3, .int (nI (cnt))), (4, .int (nI (a0 + cnt)))]) hC.1 hC.2.1 d_Div_nextWord_95 hl (by decide) rfl (fun ls hl => ?_)
      refine lv_lload hC.1 hC.2.1 d_Div_nextWord_97 (lv_at hl 1 rfl) ?_
      refine lv_aload_n hC.1 hC.2.1 d_Div_nextWord_99 rfl (lv_at hl 2 rfl) ?_
      refine lv_iload_n hC.1 hC.2.1 d_Div_nextWord_100 rfl (lv_at hl 4 rfl) ?_
      refine lv_aload_n hC.1 hC.2.1 d_Div_nextWord_101 rfl (lv_at hl 3 rfl) ?_
      refine lv_iconst (v := nI 0) hC.1 hC.2.1 d_Div_nextWord_102 (by decide) ?_
      refine lv_iload_n hC.1 hC.2.1 d_Div_nextWord_103 rfl (lv_at hl 5 rfl) ?_
      refine lv_lconst (v := lN 0) hC.1 hC.2.1 d_Div_nextWord_104 (by decide) ?_
      refine wm_callSl hC hK hM (As := [.ref (ad (19 + i)), .int (nI (a0)), .ref (ad (19 + j)), .int (nI (0)), .int (nI (cnt)), .long (lN (0))]) (rest := [.long (-1)]) (c_Rows_addStretch l D ad cA cR _ ln (va_up wd i f) i j a0 0 cnt 0 hi hj hji (by decide) (by omega) (by omega)) kc_Rows_addStretch km_Div_61 ki_Rows ks_Rows_addStretch kd_Rows_addStretch ⟨rfl, rfl⟩ ⟨Nat.le_of_ble_eq_true rfl, Nat.le_of_ble_eq_true rfl⟩ rfl hl.1 (Nat.le_of_ble_eq_true rfl) d_Div_nextWord_105 (fun r u H locs hp hM => ?_)
      obtain ⟨c2, f2, rfl, rfl, hS2, hc2, hf2⟩ := hp
      rw [va_up_self] at hS2 hf2
      rw [va_up_ne _ _ hji, wm_off_0, Nat.add_zero] at hS2
      have hP2 := wm_v_lt (wm_off f2 a0) cnt
      obtain ⟨e1, e2⟩ := wm_nw_c hP2 hS2 hX hc k1 hv
      subst e1
      have hM : wm_M D ad cA cR s (ln) (va_up wd i f2) H locs := by rw [wm_uu] at hM; exact hM
      refine lv_ladd hC.1 hC.2.1 d_Div_nextWord_108 ?_
      refine nv_topl (y := lN (0)) (by decide) ?_
      refine lv_lstore (lv' := [(9, .long (lN (0))), (7, .long (lN (q1))), (0, .ref (ad (19 + i))), (1, .ref (ad (19 + j))), (2, .int (nI (a0))), (3, .int (nI (cnt))), (4, .int (nI (a0 + cnt)))]) hC.1 hC.2.1 d_Div_nextWord_109 hl (by decide) rfl (fun ls hl => ?_)
      refine lv_aload_n hC.1 hC.2.1 d_Div_nextWord_111 rfl (lv_at hl 2 rfl) ?_
      refine lv_iload hC.1 hC.2.1 d_Div_nextWord_112 (lv_at hl 6 rfl) ?_
      refine lv_lload hC.1 hC.2.1 d_Div_nextWord_114 (lv_at hl 0 rfl) ?_
      refine nv_l2i hC d_Div_nextWord_116 ?_
      refine wm_ast_s hC hK hM (k := a0 + cnt) hi (by omega) d_Div_nextWord_117 (fun H locs hM => ?_)
      refine lv_lload hC.1 hC.2.1 d_Div_nextWord_118 (lv_at hl 1 rfl) ?_
      refine nv_l2i hC d_Div_nextWord_120 ?_
      refine hret q1 (upd f2 (a0 + cnt) (nI 0)) _ H locs ls d_Div_nextWord_121 ⟨by omega, ?_, ?_, ?_⟩ hM
      · rw [wm_off_upd, wm_v_upds, z0, Nat.zero_mul, Nat.add_zero]
        exact e2
      · rw [Nat.add_mul, Nat.one_mul]
        exact hc
      · intro k hk
        rw [pk_un (by omega), hf2 k (by omega), hf k (by omega)]
  · obtain ⟨hbh, hX⟩ := wm_nw_a hP hS hT hc (by rw [Nat.add_mul, Nat.one_mul] at k2; exact Nat.lt_trans k2 (Nat.add_lt_add_left hv _))
    refine nz_lsubn hC d_Div_nextWord_81 ?_
    refine nv_topl (y := lN (0)) (by rw [show ((wm_u (wd i (a0 + cnt)) : Nat) : Int) - ((b : Nat) : Int) = 0 by omega]; decide) ?_
    refine lv_lstore (lv' := [(9, .long (lN (0))), (7, .long (lN (q))), (0, .ref (ad (19 + i))), (1, .ref (ad (19 + j))), (2, .int (nI (a0))), (3, .int (nI (cnt))), (4, .int (nI (a0 + cnt)))]) hC.1 hC.2.1 d_Div_nextWord_82 hl (by decide) rfl (fun ls hl => ?_)
    refine lv_lload hC.1 hC.2.1 d_Div_nextWord_84 (lv_at hl 0 rfl) ?_
    refine lv_lconst (v := lN 0) hC.1 hC.2.1 d_Div_nextWord_86 (by decide) ?_
    refine nv_lc_ge (tgt := 111) hC (by decide) (by decide) d_Div_nextWord_87 d_Div_nextWord_88 (by decide) (fun hg => ?_) (fun hg => ?_)
    · refine lv_aload_n hC.1 hC.2.1 d_Div_nextWord_111 rfl (lv_at hl 2 rfl) ?_
      refine lv_iload hC.1 hC.2.1 d_Div_nextWord_112 (lv_at hl 6 rfl) ?_
      refine lv_lload hC.1 hC.2.1 d_Div_nextWord_114 (lv_at hl 0 rfl) ?_
      refine nv_l2i hC d_Div_nextWord_116 ?_
      refine wm_ast_s hC hK hM (k := a0 + cnt) hi (by omega) d_Div_nextWord_117 (fun H locs hM => ?_)
      refine lv_lload hC.1 hC.2.1 d_Div_nextWord_118 (lv_at hl 1 rfl) ?_
      refine nv_l2i hC d_Div_nextWord_120 ?_
      refine hret q (upd f (a0 + cnt) (nI 0)) _ H locs ls d_Div_nextWord_121 ⟨hqlt, ?_, k2, ?_⟩ hM
      · rw [wm_off_upd, wm_v_upds, z0, Nat.zero_mul, Nat.add_zero]
        exact hX
      · intro k hk
        rw [pk_un (by omega), hf k (by omega)]
    · exact absurd hg (Nat.lt_irrefl _)
set_option maxHeartbeats 4000000 in
set_option maxRecDepth 100000 in
theorem c_Div_nextWord (l : Launch) (D : va_G) (ad : Nat → Nat) (cA cR : ClassId) (sz : Nat) (ln : Nat → Nat) (wd : Nat → Nat → Int32) (i j a0 cnt : Nat) (hi : i < 19) (hj : j < 19) (hji : j ≠ i) (hcnt : 1 ≤ cnt) (hfit : a0 + cnt < 2050) (ht : 2147483648 ≤ wm_u (wd j (cnt - 1))) (hlt : wm_v (wm_off (wd i) a0) (cnt + 1) < wm_v (wd j) cnt * 4294967296) : Met l y_Div_nextWord (Cond.code y_Div_nextWord b_Div_nextWord 11 (some .int) :: lw_T) ({ frames := 2, cells := 0, slots := 0, locals := 56 }) (va_Pc [.ref (ad (19 + i)), .ref (ad (19 + j)), .int (nI (a0)), .int (nI (cnt))] (wm_B D ad cA cR sz ln wd)) (va_Qi (fun (r : Int32) (u : wm_St) => ∃ (q : Nat) (f : Nat → Int32), r = nI q ∧ q < 4294967296 ∧ u = (ln, va_up wd i f) ∧ wm_v (wm_off f a0) (cnt + 1) + q * wm_v (wd j) cnt = wm_v (wm_off (wd i) a0) (cnt + 1) ∧ wm_v (wm_off (wd i) a0) (cnt + 1) < (q + 1) * wm_v (wd j) cnt ∧ ∀ k, (k < a0 ∨ a0 + cnt < k) → f k = wd i k) (wm_E D ad cA cR sz) (wm_A ad sz)) 0 0 (wm_A ad sz) := by
  refine wm_met l (by decide) (Nat.le_of_ble_eq_true rfl) ?_
  intro p e s m below meth c ls hsz hC hK hr hlk hM hl
  subst hsz
  have hC : CallFix p m c b_Div_nextWord 11 s _ lw_T R_Div := hC
  have hl : lv_has ls 11 [(0, .ref (ad (19 + i))), (1, .ref (ad (19 + j))), (2, .int (nI (a0))), (3, .int (nI (cnt)))] := hl
  refine lv_iload_n hC.1 hC.2.1 d_Div_nextWord_0 rfl (lv_at hl 2 rfl) ?_
  refine lv_iload_n hC.1 hC.2.1 d_Div_nextWord_1 rfl (lv_at hl 3 rfl) ?_
  refine nv_iadd hC d_Div_nextWord_2 ?_
  refine lv_istore (lv' := [(4, .int (nI (a0 + cnt))), (0, .ref (ad (19 + i))), (1, .ref (ad (19 + j))), (2, .int (nI (a0))), (3, .int (nI (cnt)))]) hC.1 hC.2.1 d_Div_nextWord_3 hl (by decide) rfl (fun ls hl => ?_)
  refine lv_iload_n hC.1 hC.2.1 d_Div_nextWord_5 rfl (lv_at hl 4 rfl) ?_
  refine lv_iconst (v := nI 1) hC.1 hC.2.1 d_Div_nextWord_6 (by decide) ?_
  refine nv_icmp_le (tgt := 19) hC (by omega) (by omega) d_Div_nextWord_7 (by decide) (fun h1 => ?_) (fun h1 => ?_)
  · obtain rfl : cnt = 1 := by omega
    refine lv_iconst (v := nI 0) hC.1 hC.2.1 d_Div_nextWord_19 (by decide) ?_
    refine lv_istore (lv' := [(5, .int (nI (0))), (4, .int (nI (a0 + 1))), (0, .ref (ad (19 + i))), (1, .ref (ad (19 + j))), (2, .int (nI (a0))), (3, .int (nI (1)))]) hC.1 hC.2.1 d_Div_nextWord_20 hl (by decide) rfl (fun ls hl => ?_)
    refine lv_iload_n hC.1 hC.2.1 d_Div_nextWord_22 rfl (lv_at hl 5 rfl) ?_
    refine lv_iconst (v := nI 1) hC.1 hC.2.1 d_Div_nextWord_23 (by decide) ?_
    refine nv_icmp_le (tgt := 35) hC (by omega) (by omega) d_Div_nextWord_24 (by decide) (fun h2 => ?_) (fun h2 => ?_)
    · refine lv_iconst (v := nI 0) hC.1 hC.2.1 d_Div_nextWord_35 (by decide) ?_
      refine lv_istore (lv' := [(6, .int (nI (0))), (5, .int (nI (0))), (4, .int (nI (a0 + 1))), (0, .ref (ad (19 + i))), (1, .ref (ad (19 + j))), (2, .int (nI (a0))), (3, .int (nI (1)))]) hC.1 hC.2.1 d_Div_nextWord_36 hl (by decide) rfl (fun ls hl => ?_)
      refine lv_aload_n hC.1 hC.2.1 d_Div_nextWord_38 rfl (lv_at hl 3 rfl) ?_
      refine lv_iload hC.1 hC.2.1 d_Div_nextWord_39 (lv_at hl 2 rfl) ?_
      refine wm_ald hC hK hM (j := i) (k := a0 + 1) hi (by omega) d_Div_nextWord_41 ?_
      refine lv_aload_n hC.1 hC.2.1 d_Div_nextWord_42 rfl (lv_at hl 3 rfl) ?_
      refine lv_iload hC.1 hC.2.1 d_Div_nextWord_43 (lv_at hl 2 rfl) ?_
      refine lv_iconst (v := nI 1) hC.1 hC.2.1 d_Div_nextWord_45 (by decide) ?_
      refine nv_isub hC (by omega) d_Div_nextWord_46 ?_
      refine nv_top (y := nI (a0 + 0)) rfl ?_
      refine wm_ald hC hK hM (j := i) (k := a0 + 0) hi (by omega) d_Div_nextWord_47 ?_
      refine lv_iload hC.1 hC.2.1 d_Div_nextWord_48 (lv_at hl 1 rfl) ?_
      refine lv_aload_n hC.1 hC.2.1 d_Div_nextWord_50 rfl (lv_at hl 4 rfl) ?_
      refine lv_iload_n hC.1 hC.2.1 d_Div_nextWord_51 rfl (lv_at hl 6 rfl) ?_
      refine lv_iconst (v := nI 1) hC.1 hC.2.1 d_Div_nextWord_52 (by decide) ?_
      refine nv_isub hC (by omega) d_Div_nextWord_53 ?_
      refine nv_top (y := nI (0)) rfl ?_
      refine wm_ald hC hK hM (j := j) (k := 0) hj (by omega) d_Div_nextWord_54 ?_
      refine lv_iload hC.1 hC.2.1 d_Div_nextWord_55 (lv_at hl 0 rfl) ?_
      have hh := wm_nw_top (g := wm_off (wd i) a0) (dv := wd j) (c := 0) hlt
      refine wm_callPl hC hK hM (As := [.int (wd i (a0 + 1)), .int (wd i (a0 + 0)), .int (nI (0)), .int (wd j 0), .int (nI (0))]) (rest := []) (c_Rows_guess l _ (wd i (a0 + 1)) (wd i (a0 + 0)) (nI 0) (wd j (0)) (nI 0) ht hh) kc_Rows_guess km_Div_49 ki_Rows ks_Rows_guess kd_Rows_guess ⟨rfl, rfl⟩ ⟨Nat.le_of_ble_eq_true rfl, Nat.le_of_ble_eq_true rfl⟩ rfl hl.1 (Nat.le_of_ble_eq_true rfl) d_Div_nextWord_57 (fun r H locs hp hM => ?_)
      subst hp
      obtain ⟨k1, k2⟩ := wm_nw1 (g := wm_off (wd i) a0) (dv := wd j) ht hlt rfl
      exact tl_Div_nextWord hC hK ln wd i j a0 (1) hi hj hji hcnt hfit _ (wm_gs_lt _ _) k1 k2 (fun q f pc H locs ls hd hp hM => wm_iret hC hK hM hr hlk ⟨q, f, rfl, hp.1, rfl, hp.2⟩ hd) H locs ls hM (lv_sub hl [3, 4, 5, 6, 2] rfl)
    · exact absurd h2 (by omega)
  · obtain ⟨c0, rfl⟩ : ∃ z, cnt = z + 2 := ⟨cnt - 2, by omega⟩
    refine lv_aload_n hC.1 hC.2.1 d_Div_nextWord_10 rfl (lv_at hl 1 rfl) ?_
    refine lv_iload hC.1 hC.2.1 d_Div_nextWord_11 (lv_at hl 0 rfl) ?_
    refine lv_iconst (v := nI 2) hC.1 hC.2.1 d_Div_nextWord_13 (by decide) ?_
    refine nv_isub hC (by omega) d_Div_nextWord_14 ?_
    refine nv_top (y := nI (a0 + c0)) rfl ?_
    refine wm_ald hC hK hM (j := i) (k := a0 + c0) hi (by omega) d_Div_nextWord_15 ?_
    refine lv_goto (tgt := 20) hC.1 hC.2.1 d_Div_nextWord_16 (by decide) ?_
    refine lv_istore (lv' := [(5, .int (wd i (a0 + c0))), (4, .int (nI (a0 + (c0 + 2)))), (0, .ref (ad (19 + i))), (1, .ref (ad (19 + j))), (2, .int (nI (a0))), (3, .int (nI (c0 + 2)))]) hC.1 hC.2.1 d_Div_nextWord_20 hl (by decide) rfl (fun ls hl => ?_)
    refine lv_iload_n hC.1 hC.2.1 d_Div_nextWord_22 rfl (lv_at hl 5 rfl) ?_
    refine lv_iconst (v := nI 1) hC.1 hC.2.1 d_Div_nextWord_23 (by decide) ?_
    refine nv_icmp_le (tgt := 35) hC (by omega) (by omega) d_Div_nextWord_24 (by decide) (fun h2 => ?_) (fun h2 => ?_)
    · exact absurd h2 (by omega)
    · refine lv_aload_n hC.1 hC.2.1 d_Div_nextWord_27 rfl (lv_at hl 3 rfl) ?_
      refine lv_iload_n hC.1 hC.2.1 d_Div_nextWord_28 rfl (lv_at hl 5 rfl) ?_
      refine lv_iconst (v := nI 2) hC.1 hC.2.1 d_Div_nextWord_29 (by decide) ?_
      refine nv_isub hC (by omega) d_Div_nextWord_30 ?_
      refine nv_top (y := nI (c0)) rfl ?_
      refine wm_ald hC hK hM (j := j) (k := c0) hj (by omega) d_Div_nextWord_31 ?_
      refine lv_goto (tgt := 36) hC.1 hC.2.1 d_Div_nextWord_32 (by decide) ?_
      refine lv_istore (lv' := [(6, .int (wd j c0)), (5, .int (wd i (a0 + c0))), (4, .int (nI (a0 + (c0 + 2)))), (0, .ref (ad (19 + i))), (1, .ref (ad (19 + j))), (2, .int (nI (a0))), (3, .int (nI (c0 + 2)))]) hC.1 hC.2.1 d_Div_nextWord_36 hl (by decide) rfl (fun ls hl => ?_)
      refine lv_aload_n hC.1 hC.2.1 d_Div_nextWord_38 rfl (lv_at hl 3 rfl) ?_
      refine lv_iload hC.1 hC.2.1 d_Div_nextWord_39 (lv_at hl 2 rfl) ?_
      refine wm_ald hC hK hM (j := i) (k := a0 + (c0 + 2)) hi (by omega) d_Div_nextWord_41 ?_
      refine lv_aload_n hC.1 hC.2.1 d_Div_nextWord_42 rfl (lv_at hl 3 rfl) ?_
      refine lv_iload hC.1 hC.2.1 d_Div_nextWord_43 (lv_at hl 2 rfl) ?_
      refine lv_iconst (v := nI 1) hC.1 hC.2.1 d_Div_nextWord_45 (by decide) ?_
      refine nv_isub hC (by omega) d_Div_nextWord_46 ?_
      refine nv_top (y := nI (a0 + (c0 + 1))) rfl ?_
      refine wm_ald hC hK hM (j := i) (k := a0 + (c0 + 1)) hi (by omega) d_Div_nextWord_47 ?_
      refine lv_iload hC.1 hC.2.1 d_Div_nextWord_48 (lv_at hl 1 rfl) ?_
      refine lv_aload_n hC.1 hC.2.1 d_Div_nextWord_50 rfl (lv_at hl 4 rfl) ?_
      refine lv_iload_n hC.1 hC.2.1 d_Div_nextWord_51 rfl (lv_at hl 6 rfl) ?_
      refine lv_iconst (v := nI 1) hC.1 hC.2.1 d_Div_nextWord_52 (by decide) ?_
      refine nv_isub hC (by omega) d_Div_nextWord_53 ?_
      refine nv_top (y := nI (c0 + 1)) rfl ?_
      refine wm_ald hC hK hM (j := j) (k := c0 + 1) hj (by omega) d_Div_nextWord_54 ?_
      refine lv_iload hC.1 hC.2.1 d_Div_nextWord_55 (lv_at hl 0 rfl) ?_
      have hh := wm_nw_top (g := wm_off (wd i) a0) (dv := wd j) (c := c0 + 1) hlt
      refine wm_callPl hC hK hM (As := [.int (wd i (a0 + (c0 + 2))), .int (wd i (a0 + (c0 + 1))), .int (wd i (a0 + c0)), .int (wd j (c0 + 1)), .int (wd j c0)]) (rest := []) (c_Rows_guess l _ (wd i (a0 + (c0 + 2))) (wd i (a0 + (c0 + 1))) (wd i (a0 + c0)) (wd j (c0 + 1)) (wd j c0) ht hh) kc_Rows_guess km_Div_49 ki_Rows ks_Rows_guess kd_Rows_guess ⟨rfl, rfl⟩ ⟨Nat.le_of_ble_eq_true rfl, Nat.le_of_ble_eq_true rfl⟩ rfl hl.1 (Nat.le_of_ble_eq_true rfl) d_Div_nextWord_57 (fun r H locs hp hM => ?_)
      subst hp
      obtain ⟨k1, k2⟩ := wm_nw2 (g := wm_off (wd i) a0) (dv := wd j) ht hlt rfl
      exact tl_Div_nextWord hC hK ln wd i j a0 (c0 + 2) hi hj hji hcnt hfit _ (wm_gs_lt _ _) k1 k2 (fun q f pc H locs ls hd hp hM => wm_iret hC hK hM hr hlk ⟨q, f, rfl, hp.1, rfl, hp.2⟩ hd) H locs ls hM (lv_sub hl [3, 4, 5, 6, 2] rfl)
end
section
theorem nv_max0' {a b : Nat} (ha : a < 2 ^ 29) (hb : b < 2 ^ 29) : (if nI 0 < nI a - nI b + nI 1 then nI a - nI b + nI 1 else nI 0) = nI (a + 1 - b) := by
  have e : nI a - nI b + nI 1 = nI (a + 1) - nI b := by
    rw [← nI_add, Int32.sub_eq_add_neg, Int32.sub_eq_add_neg, Int32.add_assoc, Int32.add_comm (-nI b), Int32.add_assoc]
  rw [e]
  exact nv_max0 (by omega) (by omega)
theorem wm_comm {α : Type} (f : Nat → α) {i j : Nat} (h : i ≠ j) (v w : α) : va_up (va_up f i v) j w = va_up (va_up f j w) i v := by
  funext k
  by_cases e1 : k = i
  · subst e1
    rw [va_up_ne _ _ h, va_up_self, va_up_self]
  · by_cases e2 : k = j
    · subst e2
      rw [va_up_self, va_up_ne _ _ e1, va_up_self]
    · rw [va_up_ne _ _ e2, va_up_ne _ _ e1, va_up_ne _ _ e1, va_up_ne _ _ e2]
theorem wm_v_zero {f : Nat → Int32} {n : Nat} (h : wm_v f n = 0) : ∀ k, k < n → f k = 0 := by
  intro k hk
  have h1 := wm_dig (f := f) hk
  rw [h, Nat.zero_div] at h1
  exact wm_u_z.mp h1.symm
theorem wm_small {f : Nat → Int32} {n m : Nat} (h : wm_v f n < 4294967296 ^ m) (hm : m ≤ n) : wm_v f n = wm_v f m ∧ ∀ k, m ≤ k → k < n → f k = 0 := by
  obtain ⟨d, rfl⟩ : ∃ d, n = m + d := ⟨n - m, by omega⟩
  have e := wm_v_off f m d
  have h2 : wm_v (wm_off f m) d = 0 := by
    rcases Nat.eq_zero_or_pos (wm_v (wm_off f m) d) with z | z
    · exact z
    · have h3 : 4294967296 ^ m * 1 ≤ 4294967296 ^ m * wm_v (wm_off f m) d := Nat.mul_le_mul_left _ z
      omega
  rw [h2, Nat.mul_zero, Nat.add_zero] at e
  refine ⟨e, fun k h3 h4 => ?_⟩
  have h5 := wm_v_zero h2 (k - m) (by omega)
  have h6 : wm_off f m (k - m) = f k := by
    show f (m + (k - m)) = f k
    rw [Nat.add_sub_cancel' h3]
  rw [← h6, h5]
theorem wm_v_first (f : Nat → Int32) (y n : Nat) : wm_v (wm_off f y) (n + 1) = wm_u (f y) + 4294967296 * wm_v (wm_off f (y + 1)) n := by
  have e := wm_v_off (wm_off f y) 1 n
  rw [show n + 1 = 1 + n by omega, e, wm_v_s, wm_v_0, Nat.pow_zero, Nat.mul_one, Nat.zero_add, Nat.pow_one]
  have e2 : wm_off (wm_off f y) 1 = wm_off f (y + 1) := by
    funext k
    show f (y + (1 + k)) = f (y + 1 + k)
    rw [Nat.add_assoc]
  rw [e2]
  rfl
theorem wm_off_ge {f : Nat → Int32} {y z n : Nat} {x : Int32} (h : z < y) : wm_v (wm_off (upd f z x) y) n = wm_v (wm_off f y) n := wm_v_congr (fun k hk => by
  show upd f z x (y + k) = f (y + k)
  rw [pk_un (by omega)])
/-- the divisor shifted so that its highest bit is that of a word -/
theorem wm_norm {f : Nat → Int32} {n N : Nat} (h : wm_rep f (n + 1) N) : N * 2 ^ (32 * (n + 1) - wm_bl N) < 4294967296 ^ (n + 1) ∧ 2147483648 * 4294967296 ^ n ≤ N * 2 ^ (32 * (n + 1) - wm_bl N) ∧ 4294967296 ^ n * 2 ^ (32 * (n + 1) - wm_bl N) ≤ N * 2 ^ (32 * (n + 1) - wm_bl N) ∧ 32 * (n + 1) - wm_bl N < 32 := by
  have hN : 4294967296 ^ n ≤ N := wm_rep_ge h
  have hp := wm_pp n
  have hlt : N < 4294967296 ^ (n + 1) := wm_rep_lt h
  have hb1 : wm_bl N ≤ 32 * (n + 1) := wm_bl_le.mpr (by rw [← wm_p32]; exact hlt)
  have hb2 : 32 * n < wm_bl N := by
    rcases Nat.lt_or_ge (32 * n) (wm_bl N) with z | z
    · exact z
    · have := wm_bl_le.mp z
      rw [← wm_p32] at this
      omega
  obtain ⟨d, hd⟩ : ∃ d, 32 * (n + 1) = wm_bl N + d := ⟨32 * (n + 1) - wm_bl N, by omega⟩
  rw [hd, Nat.add_sub_cancel_left]
  have h1 := wm_bl_lt N
  have h2 := wm_bl_ge (show 0 < N by omega)
  refine ⟨?_, ?_, Nat.mul_le_mul_right _ hN, by omega⟩
  · rw [wm_p32, hd, Nat.pow_add]
    exact Nat.mul_lt_mul_of_pos_right h1 (Nat.pow_pos (by decide))
  · have e : 2147483648 * 4294967296 ^ n = 2 ^ (wm_bl N - 1) * 2 ^ d := by
      rw [wm_p32, show (2147483648 : Nat) = 2 ^ 31 by decide, ← Nat.pow_add, ← Nat.pow_add]
      congr 1
      omega
    rw [e]
    exact Nat.mul_le_mul_right _ h2
theorem wm_topword {f : Nat → Int32} {k n v : Nat} (h : wm_rep f k v) (h1 : v < 4294967296 ^ (n + 1)) (h2 : 2147483648 * 4294967296 ^ n ≤ v) (hn : n < 2050) : 2147483648 ≤ wm_u (f n) := by
  rw [wm_rep_dig h hn, Nat.mod_eq_of_lt (by rw [Nat.div_lt_iff_lt_mul (wm_pp n), Nat.mul_comm, ← Nat.pow_succ]; exact h1), Nat.le_div_iff_mul_le (wm_pp n)]
  exact h2
/-- a step of the long division, over the whole row -/
theorem wm_fd_step {fl f fq : Nat → Int32} {y cnt v q pl A : Nat} (hv : v < 4294967296 ^ cnt) (hfit : y + cnt < 2050)
    (hA : wm_v (wm_off fq (y + 1)) (pl - (y + 1)) * v * 4294967296 ^ (y + 1) + wm_v fl 2050 = A) (hlt : wm_v fl 2050 < v * 4294967296 ^ (y + 1))
    (h1 : wm_v (wm_off f y) (cnt + 1) + q * v = wm_v (wm_off fl y) (cnt + 1)) (h2 : wm_v (wm_off fl y) (cnt + 1) < (q + 1) * v) (hf : ∀ k, (k < y ∨ y + cnt < k) → f k = fl k) (hq : q < 4294967296) (hy : y < pl) :
    wm_v (wm_off (upd fq y (nI q)) y) (pl - y) * v * 4294967296 ^ y + wm_v f 2050 = A ∧ wm_v f 2050 < v * 4294967296 ^ y := by
  have hp := wm_pp y
  have b1 : wm_v fl 2050 < 4294967296 ^ (y + (cnt + 1)) := by
    have : v * 4294967296 ^ (y + 1) ≤ 4294967296 ^ cnt * 4294967296 ^ (y + 1) := Nat.mul_le_mul_right _ (Nat.le_of_lt hv)
    rw [← Nat.pow_add, show cnt + (y + 1) = y + (cnt + 1) by omega] at this
    omega
  obtain ⟨e1, z1⟩ := wm_small b1 (by omega)
  have e2 : wm_v f 2050 = wm_v f (y + (cnt + 1)) := wm_v_z' (by omega) (fun k h3 h4 => by rw [hf k (Or.inr (by omega))]; exact z1 k h3 h4)
  have e3 : wm_v f y = wm_v fl y := wm_v_congr (fun k hk => hf k (Or.inl hk))
  rw [wm_v_off] at e1 e2
  obtain ⟨s1, s2⟩ := wm_dv_step (L := wm_v (wm_off fl y) (cnt + 1)) (T := wm_v fl 2050) (v := v) (P := 4294967296 ^ y) (q := q) (r := wm_v fl y) (by rw [e1, Nat.mul_comm, Nat.add_comm]) (wm_v_lt fl y) (by omega) h2
  have e4 : wm_v f 2050 = (wm_v (wm_off fl y) (cnt + 1) - q * v) * 4294967296 ^ y + wm_v fl y := by
    rw [e2, e3, ← h1, Nat.add_sub_cancel, Nat.mul_comm, Nat.add_comm]
  rw [← e4] at s1 s2
  refine ⟨?_, s2⟩
  obtain ⟨d, hd⟩ : ∃ d, pl - y = d + 1 := ⟨pl - y - 1, by omega⟩
  rw [show pl - (y + 1) = d by omega] at hA
  rw [hd, wm_v_first, pk_us, wm_un' hq, wm_off_ge (by omega), Nat.add_mul, Nat.add_mul, ← hA, s1, Nat.pow_succ]
  have e5 : 4294967296 * wm_v (wm_off fq (y + 1)) d * v * 4294967296 ^ y = wm_v (wm_off fq (y + 1)) d * v * (4294967296 ^ y * 4294967296) := by
    rw [Nat.mul_comm (4294967296 ^ y), ← Nat.mul_assoc, Nat.mul_comm 4294967296, Nat.mul_right_comm (wm_v (wm_off fq (y + 1)) d)]
  rw [e5]
  omega
theorem wm_fd_pre {fl : Nat → Int32} {y cnt v : Nat} (hv : v < 4294967296 ^ cnt) (hfit : y + cnt < 2050) (hlt : wm_v fl 2050 < v * 4294967296 ^ (y + 1)) : wm_v (wm_off fl y) (cnt + 1) < v * 4294967296 := by
  have hp := wm_pp y
  have e := wm_v_off fl y (2050 - y)
  rw [show y + (2050 - y) = 2050 by omega] at e
  have h2 : wm_v (wm_off fl y) (cnt + 1) ≤ wm_v (wm_off fl y) (2050 - y) := wm_v_mono _ (by omega)
  have h3 : 4294967296 ^ y * wm_v (wm_off fl y) (cnt + 1) ≤ 4294967296 ^ y * wm_v (wm_off fl y) (2050 - y) := Nat.mul_le_mul_left _ h2
  have h4 : 4294967296 ^ y * wm_v (wm_off fl y) (cnt + 1) < 4294967296 ^ y * (v * 4294967296) := by
    have e2 : v * 4294967296 ^ (y + 1) = 4294967296 ^ y * (v * 4294967296) := by rw [Nat.pow_succ, Nat.mul_left_comm]
    omega
  exact Nat.lt_of_mul_lt_mul_left h4
theorem wm_fd_fin {A B p Q L : Nat} (hp : 0 < p) (h : Q * (B * p) + L = A * p) (hl : L < B * p) : Q = A / B ∧ L / p = A % B := by
  rw [← Nat.mul_assoc] at h
  have h1 : Q * B ≤ A := Nat.le_of_mul_le_mul_right (c := p) (by omega) hp
  obtain ⟨r, rfl⟩ : ∃ r, A = Q * B + r := ⟨A - Q * B, by omega⟩
  rw [Nat.add_mul] at h
  have e : L = r * p := by omega
  have hr : r < B := by
    rw [e] at hl
    exact Nat.lt_of_mul_lt_mul_right hl
  have hB : 0 < B := by omega
  refine ⟨?_, ?_⟩
  · rw [Nat.mul_comm Q B, Nat.add_comm, Nat.add_mul_div_left _ _ hB, Nat.div_eq_of_lt hr, Nat.zero_add]
  · rw [e, Nat.mul_div_cancel _ hp, Nat.mul_comm Q B, Nat.add_comm, Nat.add_mul_mod_self_left, Nat.mod_eq_of_lt hr]
theorem wm_ok_get {N : Nat → Nat} {ln : Nat → Nat} {wd : Nat → Nat → Int32} {i j X : Nat} (h : wm_ok (va_up N i X) ln wd) (hj : j < 19) (e : j ≠ i) : wm_rep (wd j) (ln j) (N j) := by
  have := h j hj
  rw [va_up_ne _ _ e] at this
  exact this
theorem wm_ok_self {N : Nat → Nat} {ln : Nat → Nat} {wd : Nat → Nat → Int32} {i X : Nat} (h : wm_ok (va_up N i X) ln wd) (hi : i < 19) : wm_rep (wd i) (ln i) X := by
  have := h i hi
  rw [va_up_self] at this
  exact this
theorem wm_ok_congr {N M : Nat → Nat} {ln : Nat → Nat} {wd : Nat → Nat → Int32} (h : wm_ok N ln wd) (e : ∀ j, j < 19 → N j = M j) : wm_ok M ln wd := fun j hj => by rw [← e j hj]; exact h j hj
/-- row i is written anew, the others hold what they held -/
theorem wm_ok_row {N : Nat → Nat} {ln : Nat → Nat} {wd : Nat → Nat → Int32} {i n X : Nat} {g : Nat → Int32} (h : ∀ j, j < 19 → j ≠ i → wm_rep (wd j) (ln j) (N j)) (hr : wm_rep g n X) : wm_ok (va_up N i X) (va_up ln i n) (va_up wd i g) := by
  intro j hj
  by_cases e : j = i
  · subst e
    rw [va_up_self, va_up_self, va_up_self]
    exact hr
  · rw [va_up_ne _ _ e, va_up_ne _ _ e, va_up_ne _ _ e]
    exact h j hj e
theorem wm_fd_0 {A n k p v pl : Nat} (hA : A < 4294967296 ^ n) (hv : 4294967296 ^ k * p ≤ v) (h : n ≤ k + pl) : A * p < v * 4294967296 ^ pl ∨ p = 0 := by
  rcases Nat.eq_zero_or_pos p with z | z
  · exact Or.inr z
  · refine Or.inl ?_
    have h1 : A * p < 4294967296 ^ n * p := Nat.mul_lt_mul_of_pos_right hA z
    have h2 : 4294967296 ^ n ≤ 4294967296 ^ (k + pl) := Nat.pow_le_pow_right (by decide) h
    have h3 : 4294967296 ^ n * p ≤ 4294967296 ^ (k + pl) * p := Nat.mul_le_mul_right _ h2
    have h4 : 4294967296 ^ k * p * 4294967296 ^ pl ≤ v * 4294967296 ^ pl := Nat.mul_le_mul_right _ hv
    rw [Nat.mul_right_comm, ← Nat.pow_add] at h4
    omega
end
section
set_option maxHeartbeats 4000000 in
set_option maxRecDepth 100000 in
theorem lp_Div_find {p : Program} {l : Launch} {e : Env} {s : State} {m : MethodId} {args : Array Value} {below : List Frame} {meth : Method} {c : Code} {Q : State → Prop} {D : va_G} {ad : Nat → Nat} {cA cR : ClassId} (hC : CallFix p m c b_Div_find 9 s args lw_T R_Div) (hK : va_K D classes (wm_ty cA cR) s) (Ln : Nat → Nat) (W0 : Nat → Nat → Int32) (cnt pl fr v A : Nat) (hcnt : 1 ≤ cnt) (hpl : pl ≤ 2050) (hfit : ∀ y, y < pl → y + cnt < 2050) (hv : v = wm_v (W0 18) cnt) (hvlt : v < 4294967296 ^ cnt) (ht : 2147483648 ≤ wm_u (W0 18 (cnt - 1)))
    (hex : ∀ (fq fl : Nat → Int32), (wm_v fq pl * v + wm_v fl 2050 = A) → (wm_v fl 2050 < v) → (∀ k, pl ≤ k → k < 2050 → fq k = 0) → ∀ (H : Heap) (locs : List Loc) (ls : Array Slot), wm_M D ad cA cR s (Ln) (va_up (va_up W0 16 fq) 17 fl) H locs → lv_has ls 9 [(2, .ref (ad 16)), (3, .ref (ad 17)), (4, .ref (ad 18)), (5, .int (nI (cnt))), (6, .int (nI (pl))), (7, .int (nI (fr)))] → W p l e ({ frames := 3, cells := 0, slots := 0, locals := 86 }) s m args below meth c H locs 0 0 Q (F0 m 92 ls [])) :
    ∀ (n : Nat) (x : Nat) (fq : Nat → Int32) (fl : Nat → Int32), (x ≤ pl) → (wm_v (wm_off fq x) (pl - x) * v * 4294967296 ^ x + wm_v fl 2050 = A) → (wm_v fl 2050 < v * 4294967296 ^ x) → (∀ k, (k < x ∨ pl ≤ k) → k < 2050 → fq k = 0) → x + 1 ≤ n → ∀ (H : Heap) (locs : List Loc) (ls : Array Slot), wm_M D ad cA cR s (Ln) (va_up (va_up W0 16 fq) 17 fl) H locs → lv_has ls 9 [(2, .ref (ad 16)), (3, .ref (ad 17)), (4, .ref (ad 18)), (5, .int (nI (cnt))), (6, .int (nI (pl))), (7, .int (nI (fr))), (8, .int (nI (x) + (-1)))] → W p l e ({ frames := 3, cells := 0, slots := 0, locals := 86 }) s m args below meth c H locs 0 0 Q (F0 m 58 ls []) := by
  intro n
  induction n with
  | zero =>
    intro x fq fl hx hA hlt hq0 hn
    exact absurd hn (by omega)
  | succ n ih =>
    intro x fq fl hx hA hlt hq0 hn H locs ls hM hl
    refine lv_iload hC.1 hC.2.1 d_Div_find_58 (lv_at hl 6 rfl) ?_
    refine nv_down_lt (tgt := 92) hC (by omega) d_Div_find_60 (by decide) (fun hz => ?_) (fun y hy => ?_)
    · subst hz
      exact hex fq fl (by rw [Nat.pow_zero, Nat.mul_one, Nat.sub_zero, wm_off_0] at hA; exact hA) (by rw [Nat.pow_zero, Nat.mul_one] at hlt; exact hlt) (fun k h1 h2 => hq0 k (Or.inr h1) h2) H locs ls hM (lv_sub hl [0, 1, 2, 3, 4, 5] rfl)
    · subst hy
      have hl : lv_has ls 9 [(2, .ref (ad 16)), (3, .ref (ad 17)), (4, .ref (ad 18)), (5, .int (nI (cnt))), (6, .int (nI (pl))), (7, .int (nI (fr))), (8, .int (nI (y)))] := by rw [pk_m1] at hl; exact hl
      have hy := hfit y (by omega)
      refine lv_aload_n hC.1 hC.2.1 d_Div_find_63 rfl (lv_at hl 0 rfl) ?_
      refine wm_wds hC hK hM (j := 16) (by decide) kf_Div_32 d_Div_find_64 ?_
      refine lv_iload hC.1 hC.2.1 d_Div_find_67 (lv_at hl 6 rfl) ?_
      refine lv_aload_n hC.1 hC.2.1 d_Div_find_69 rfl (lv_at hl 1 rfl) ?_
      refine wm_wds hC hK hM (j := 17) (by decide) kf_Div_32 d_Div_find_70 ?_
      refine lv_aload hC.1 hC.2.1 d_Div_find_73 (lv_at hl 2 rfl) ?_
      refine wm_wds hC hK hM (j := 18) (by decide) kf_Div_32 d_Div_find_75 ?_
      refine lv_iload hC.1 hC.2.1 d_Div_find_78 (lv_at hl 6 rfl) ?_
      refine lv_iload hC.1 hC.2.1 d_Div_find_80 (lv_at hl 3 rfl) ?_
      refine wm_callSi hC hK hM (As := [.ref (ad (19 + 17)), .ref (ad (19 + 18)), .int (nI (y)), .int (nI (cnt))]) (rest := [.int (nI (y)), .ref (ad (19 + 16))]) (c_Div_nextWord l D ad cA cR _ Ln (va_up (va_up W0 16 fq) 17 fl) 17 18 y cnt (by decide) (by decide) (by decide) hcnt hy (by rw [va_up_ne _ _ (by decide), va_up_ne _ _ (by decide)]; exact ht) (by rw [va_up_self, va_up_ne _ _ (by decide), va_up_ne _ _ (by decide), ← hv]; exact wm_fd_pre hvlt hy hlt)) kc_Div_nextWord km_Div_36 ki_Div ks_Div_nextWord kd_Div_nextWord ⟨rfl, rfl⟩ ⟨Nat.le_of_ble_eq_true rfl, Nat.le_of_ble_eq_true rfl⟩ rfl hl.1 (Nat.le_of_ble_eq_true rfl) d_Div_find_82 (fun r u H locs hp hM => ?_)
      obtain ⟨q, f, rfl, hqlt, rfl, e1, e2, hf⟩ := hp
      rw [va_up_self] at e1 e2 hf
      rw [va_up_ne _ _ (by decide), va_up_ne _ _ (by decide), ← hv] at e1 e2
      obtain ⟨s1, s2⟩ := wm_fd_step hvlt hy hA hlt e1 e2 hf hqlt (by omega)
      have hM : wm_M D ad cA cR s (Ln) (va_up (va_up W0 16 fq) 17 f) H locs := by
        rw [wm_uu] at hM; exact hM
      refine wm_ast hC hK hM (j := 16) (k := y) (by decide) (by omega) d_Div_find_85 (fun H locs hM => ?_)
      have hM : wm_M D ad cA cR s (Ln) (va_up (va_up W0 16 (upd fq y (nI q))) 17 f) H locs := by
        rw [va_up_ne _ _ (by decide), va_up_self, wm_comm _ (by decide), wm_uu] at hM; exact hM
      refine lv_iinc (v := nI (y) + (-1)) (lv' := [(8, .int (nI (y) + (-1))), (2, .ref (ad 16)), (3, .ref (ad 17)), (4, .ref (ad 18)), (5, .int (nI (cnt))), (6, .int (nI (pl))), (7, .int (nI (fr)))]) hC.1 hC.2.1 d_Div_find_86 hl (k := 6) rfl (rfl) (by decide) rfl (fun ls hl => ?_)
      refine lv_goto (tgt := 58) hC.1 hC.2.1 d_Div_find_89 (by decide) ?_
      exact ih y (upd fq y (nI q)) f (by omega) s1 s2 (fun k h1 h2 => by
        by_cases e : k = y
        · omega
        · rw [pk_un e]; exact hq0 k (by omega) h2) (by omega) H locs ls hM (lv_sub hl [1, 2, 3, 4, 5, 6, 0] rfl)
set_option maxHeartbeats 4000000 in
set_option maxRecDepth 100000 in
theorem c_Div_find (l : Launch) (D : va_G) (ad : Nat → Nat) (cA cR : ClassId) (sz : Nat) (ln : Nat → Nat) (wd : Nat → Nat → Int32) (N : Nat → Nat) (a b : Nat) (ha : a < 16) (hb : b < 16) (hok : wm_ok N ln wd) (hla : ln a ≤ 2048) (hlb : ln b ≤ 2048) (hb0 : N b ≠ 0) : Met l y_Div_find (Cond.code y_Div_find b_Div_find 9 none :: lw_T) ({ frames := 3, cells := 0, slots := 0, locals := 86 }) (va_Pc [.ref (ad a), .ref (ad b), .ref (ad 16), .ref (ad 17), .ref (ad 18)] (wm_B D ad cA cR sz ln wd)) (va_Qv (fun u : wm_St => ∃ h, wm_ok (va_up (va_up (va_up N 18 h) 16 (N a / N b)) 17 (N a % N b)) u.1 u.2) (wm_E D ad cA cR sz) (wm_A ad sz)) 0 0 (wm_A ad sz) := by
  refine wm_met l (by decide) (Nat.le_of_ble_eq_true rfl) ?_
  intro p e s m below meth c ls hsz hC hK hr hlk hM hl
  subst hsz
  have hC : CallFix p m c b_Div_find 9 s _ lw_T R_Div := hC
  have hl : lv_has ls 9 [(0, .ref (ad a)), (1, .ref (ad b)), (2, .ref (ad 16)), (3, .ref (ad 17)), (4, .ref (ad 18))] := hl
  have ra := hok a (by omega)
  have rb := hok b (by omega)
  obtain ⟨n, hn⟩ : ∃ n, ln b = n + 1 := ⟨ln b - 1, by have := (wm_rep_0 rb).mp; omega⟩
  have rb1 : wm_rep (wd b) (n + 1) (N b) := by rw [← hn]; exact rb
  obtain ⟨g1, g2, g3, g4⟩ := wm_norm rb1
  have hbl : wm_bl (N b) ≤ 32 * ln b := by rw [wm_bl_le, ← wm_p32]; exact wm_rep_lt rb
  obtain ⟨fr, hfr⟩ : ∃ z, z = 32 * ln b - wm_bl (N b) := ⟨_, rfl⟩
  rw [← hn, ← hfr] at g1 g2 g3 g4
  have hpp : 0 < 2 ^ fr := Nat.pow_pos (by decide)
  refine lv_aload_n hC.1 hC.2.1 d_Div_find_0 rfl (lv_at hl 1 rfl) ?_
  refine wm_len hC hK hM (j := b) (by omega) kf_Div_9 d_Div_find_1 ?_
  refine lv_istore (lv' := [(5, .int (nI (ln b))), (0, .ref (ad a)), (1, .ref (ad b)), (2, .ref (ad 16)), (3, .ref (ad 17)), (4, .ref (ad 18))]) hC.1 hC.2.1 d_Div_find_4 hl (by decide) rfl (fun ls hl => ?_)
  refine lv_iconst (v := nI 0) hC.1 hC.2.1 d_Div_find_6 (by decide) ?_
  refine lv_aload_n hC.1 hC.2.1 d_Div_find_7 rfl (lv_at hl 1 rfl) ?_
  refine wm_len hC hK hM (j := a) (by omega) kf_Div_9 d_Div_find_8 ?_
  refine lv_iload hC.1 hC.2.1 d_Div_find_11 (lv_at hl 0 rfl) ?_
  refine lv_isub hC.1 hC.2.1 d_Div_find_13 ?_
  refine lv_iconst (v := nI 1) hC.1 hC.2.1 d_Div_find_14 (by decide) ?_
  refine lv_iadd hC.1 hC.2.1 d_Div_find_15 ?_
  refine nv_mmax hC hl.1 kj_Div_15 kj_s_max ki_Math kj_c_max (Nat.le_of_ble_eq_true rfl) (Nat.le_of_ble_eq_true rfl) d_Div_find_16 ?_
  obtain ⟨pl, hpl⟩ : ∃ z, z = ln a + 1 - ln b := ⟨_, rfl⟩
  refine nv_top (y := nI (pl)) (by rw [hpl]; exact nv_max0' (by omega) (by omega)) ?_
  refine lv_istore (lv' := [(6, .int (nI (pl))), (5, .int (nI (ln b))), (0, .ref (ad a)), (1, .ref (ad b)), (2, .ref (ad 16)), (3, .ref (ad 17)), (4, .ref (ad 18))]) hC.1 hC.2.1 d_Div_find_19 hl (by decide) rfl (fun ls hl => ?_)
  refine lv_bipush (v := nI 32) hC.1 hC.2.1 d_Div_find_21 (by decide) ?_
  refine lv_iload hC.1 hC.2.1 d_Div_find_23 (lv_at hl 1 rfl) ?_
  refine nv_imul hC d_Div_find_25 ?_
  refine lv_aload_n hC.1 hC.2.1 d_Div_find_26 rfl (lv_at hl 3 rfl) ?_
  refine wm_callVi hC hK hM (As := []) (rest := [.int (nI (32 * (ln b)))]) (wm_at_o (by omega)) rfl (c_Whole_size l D ad cA cR _ ln wd b (N b) (by omega) rb) kc_Whole_size km_Div_21 ki_Whole kn_Whole_size ke_Whole_size kd_Whole_size ⟨rfl, rfl⟩ ⟨Nat.le_of_ble_eq_true rfl, Nat.le_of_ble_eq_true rfl⟩ rfl hl.1 (Nat.le_of_ble_eq_true rfl) d_Div_find_27 (fun r u H locs hp hM => ?_)
  obtain ⟨rfl, rfl⟩ := hp
  have hM : wm_M D ad cA cR s (ln) (wd) H locs := by
    exact hM
  refine nv_isub hC (by omega) d_Div_find_30 ?_
  refine nv_top (y := nI (fr)) (by rw [hfr]) ?_
  refine lv_istore (lv' := [(7, .int (nI (fr))), (6, .int (nI (pl))), (5, .int (nI (ln b))), (0, .ref (ad a)), (1, .ref (ad b)), (2, .ref (ad 16)), (3, .ref (ad 17)), (4, .ref (ad 18))]) hC.1 hC.2.1 d_Div_find_31 hl (by decide) rfl (fun ls hl => ?_)
  refine lv_aload_n hC.1 hC.2.1 d_Div_find_33 rfl (lv_at hl 6 rfl) ?_
  refine lv_aload_n hC.1 hC.2.1 d_Div_find_34 rfl (lv_at hl 3 rfl) ?_
  refine lv_iload hC.1 hC.2.1 d_Div_find_35 (lv_at hl 0 rfl) ?_
  refine wm_callVv hC hK hM (As := [.ref (ad a), .int (nI (fr))]) (rest := []) (wm_at_o (by decide)) rfl (c_Whole_becomeShiftedLeft l D ad cA cR _ ln wd 17 a (N a) fr (by decide) (by omega) (by omega) (wm_rep_ze (hok 17 (by decide))) ra (by omega) (by omega)) kc_Whole_becomeShiftedLeft km_Div_25 ki_Whole kn_Whole_becomeShiftedLeft ke_Whole_becomeShiftedLeft kd_Whole_becomeShiftedLeft ⟨rfl, rfl⟩ ⟨Nat.le_of_ble_eq_true rfl, Nat.le_of_ble_eq_true rfl⟩ rfl hl.1 (Nat.le_of_ble_eq_true rfl) d_Div_find_37 (fun u1 H locs hp1 hM => ?_)
  have ok1 := wm_ok_up hok hp1
  have eb1 : u1.1 b = ln b := wm_rep_uniq (wm_ok_get ok1 (by omega) (by omega)) rb
  refine lv_aload hC.1 hC.2.1 d_Div_find_40 (lv_at hl 7 rfl) ?_
  refine lv_aload_n hC.1 hC.2.1 d_Div_find_42 rfl (lv_at hl 4 rfl) ?_
  refine lv_iload hC.1 hC.2.1 d_Div_find_43 (lv_at hl 0 rfl) ?_
  refine wm_callVv hC hK hM (As := [.ref (ad b), .int (nI (fr))]) (rest := []) (wm_at_o (by decide)) rfl (c_Whole_becomeShiftedLeft l D ad cA cR _ (u1.1) (u1.2) 18 b (N b) fr (by decide) (by omega) (by omega) (wm_rep_ze (ok1 18 (by decide))) (wm_ok_get ok1 (by omega) (by omega)) (by omega) (by omega)) kc_Whole_becomeShiftedLeft km_Div_25 ki_Whole kn_Whole_becomeShiftedLeft ke_Whole_becomeShiftedLeft kd_Whole_becomeShiftedLeft ⟨rfl, rfl⟩ ⟨Nat.le_of_ble_eq_true rfl, Nat.le_of_ble_eq_true rfl⟩ rfl hl.1 (Nat.le_of_ble_eq_true rfl) d_Div_find_45 (fun u2 H locs hp2 hM => ?_)
  have ok2 := wm_ok_up ok1 hp2
  have r18 := wm_ok_self ok2 (by decide)
  have r17 : wm_rep (u2.2 17) (u2.1 17) (N a * 2 ^ fr) := by
    have := wm_ok_get ok2 (j := 17) (by decide) (by decide)
    rw [va_up_self] at this
    exact this
  refine lv_aload_n hC.1 hC.2.1 d_Div_find_48 rfl (lv_at hl 5 rfl) ?_
  refine wm_callVv hC hK hM (As := []) (rest := []) (wm_at_o (by decide)) rfl (c_Whole_clear l D ad cA cR _ (u2.1) (u2.2) 16 (by decide) (ok2 16 (by decide)).1) kc_Whole_clear km_Div_29 ki_Whole kn_Whole_clear ke_Whole_clear kd_Whole_clear ⟨rfl, rfl⟩ ⟨Nat.le_of_ble_eq_true rfl, Nat.le_of_ble_eq_true rfl⟩ rfl hl.1 (Nat.le_of_ble_eq_true rfl) d_Div_find_49 (fun u3 H locs hp3 hM => ?_)
  subst hp3
  obtain ⟨fq0, hfq0⟩ : ∃ z, z = wm_clr (u2.2 16) 0 (u2.1 16) := ⟨_, rfl⟩
  have h0 : ∀ k, k < 2050 → fq0 k = 0 := fun j h2 => by
    rw [hfq0]
    by_cases h3 : j < u2.1 16
    · exact wm_clr_in (Nat.zero_le _) h3
    · rw [wm_clr_hi (by omega)]; exact (ok2 16 (by decide)).2.1 j (by omega) h2
  have hM : wm_M D ad cA cR s (va_up u2.1 16 0) (va_up (va_up u2.2 16 fq0) 17 (u2.2 17)) H locs := by
    rw [← hfq0] at hM; rw [wm_comm _ (by decide), wm_eta]; exact hM
  refine lv_iload hC.1 hC.2.1 d_Div_find_52 (lv_at hl 1 rfl) ?_
  refine lv_iconst (v := nI 1) hC.1 hC.2.1 d_Div_find_54 (by decide) ?_
  refine nv_isub1 hC d_Div_find_55 ?_
  refine lv_istore (lv' := [(8, .int (nI (pl) + (-1))), (7, .int (nI (fr))), (6, .int (nI (pl))), (5, .int (nI (ln b))), (0, .ref (ad a)), (1, .ref (ad b)), (2, .ref (ad 16)), (3, .ref (ad 17)), (4, .ref (ad 18))]) hC.1 hC.2.1 d_Div_find_56 hl (by decide) rfl (fun ls hl => ?_)
  obtain ⟨v, hvd⟩ : ∃ z, z = wm_v (u2.2 18) (ln b) := ⟨_, rfl⟩
  have hn18 : u2.1 18 ≤ ln b := wm_rep_le r18 (by rw [hn]; rw [hn] at g1; exact g1)
  have hv2 : v = N b * 2 ^ fr := by rw [hvd]; exact wm_rep_v r18 hn18 (by omega)
  have hn17 := r17.1
  refine lp_Div_find hC hK (va_up u2.1 16 0) u2.2 (ln b) pl fr v (N a * 2 ^ fr) (by omega) (by omega) (by omega) hvd (by rw [hv2]; exact g1) (by
    rw [hn, Nat.add_sub_cancel]
    exact wm_topword r18 (by rw [hn] at g1; exact g1) g2 (by omega)) (fun fq fl hA hlt hq0 H locs ls hM hl => ?_) (pl + 1) pl fq0 (u2.2 17) (Nat.le_refl _) (by
    rw [Nat.sub_self, wm_v_0, Nat.zero_mul, Nat.zero_mul, Nat.zero_add]
    exact wm_rep_v r17 hn17 (Nat.le_refl _)) (by
    rw [wm_rep_v r17 hn17 (Nat.le_refl _), hv2]
    exact (wm_fd_0 (wm_rep_lt ra) g3 (by omega)).resolve_right (by omega)) (fun k _ h2 => h0 k h2) (Nat.le_refl _) _ _ _ hM (lv_sub hl [6, 7, 8, 3, 2, 1, 0] rfl)
  rw [hv2] at hA hlt
  obtain ⟨f1, f2⟩ := wm_fd_fin hpp hA hlt
  have f3 : wm_v fl 2050 = wm_v fl (ln b) := (wm_small (Nat.lt_trans hlt g1) (by omega)).1
  have f4 := (wm_small (Nat.lt_trans hlt g1) (show ln b ≤ 2050 by omega)).2
  refine lv_aload_n hC.1 hC.2.1 d_Div_find_92 rfl (lv_at hl 0 rfl) ?_
  refine lv_iload hC.1 hC.2.1 d_Div_find_93 (lv_at hl 4 rfl) ?_
  refine wm_callVv hC hK hM (As := [.int (nI (pl))]) (rest := []) (wm_at_o (by decide)) rfl (c_Whole_settle l D ad cA cR _ (va_up u2.1 16 0) (va_up (va_up u2.2 16 fq) 17 fl) 16 pl (by decide) (by rw [va_up_self]; omega) (by omega)) kc_Whole_settle km_Div_42 ki_Whole kn_Whole_settle ke_Whole_settle kd_Whole_settle ⟨rfl, rfl⟩ ⟨Nat.le_of_ble_eq_true rfl, Nat.le_of_ble_eq_true rfl⟩ rfl hl.1 (Nat.le_of_ble_eq_true rfl) d_Div_find_95 (fun u4 H locs hp4 hM => ?_)
  rw [va_up_self, wm_uu, va_up_ne _ _ (by decide), va_up_self, wm_comm _ (by decide), wm_uu] at hp4
  have r16 := wm_settled (g := fq) (c := pl) (n0 := 0) (by omega) (fun k h1 _ h3 => hq0 k h1 h3)
  obtain ⟨n4, hn4⟩ : ∃ z, z = wm_top fq pl := ⟨_, rfl⟩
  obtain ⟨g5, hg5⟩ : ∃ z, z = wm_clr fq pl 0 := ⟨_, rfl⟩
  rw [← hn4, ← hg5] at hp4 r16
  subst hp4
  have hM : wm_M D ad cA cR s (va_up u2.1 16 n4) (va_up (va_up u2.2 16 g5) 17 fl) H locs := by
    exact hM
  refine lv_aload_n hC.1 hC.2.1 d_Div_find_98 rfl (lv_at hl 1 rfl) ?_
  refine lv_iload hC.1 hC.2.1 d_Div_find_99 (lv_at hl 3 rfl) ?_
  refine wm_callVv hC hK hM (As := [.int (nI (ln b))]) (rest := []) (wm_at_o (by decide)) rfl (c_Whole_settle l D ad cA cR _ (va_up u2.1 16 n4) (va_up (va_up u2.2 16 g5) 17 fl) 17 (ln b) (by decide) (by rw [va_up_ne _ _ (by decide)]; exact hn17) (by omega)) kc_Whole_settle km_Div_42 ki_Whole kn_Whole_settle ke_Whole_settle kd_Whole_settle ⟨rfl, rfl⟩ ⟨Nat.le_of_ble_eq_true rfl, Nat.le_of_ble_eq_true rfl⟩ rfl hl.1 (Nat.le_of_ble_eq_true rfl) d_Div_find_101 (fun u5 H locs hp5 hM => ?_)
  rw [va_up_self, wm_uu, va_up_ne _ _ (by decide)] at hp5
  have r17b := wm_settled (g := fl) (c := ln b) (n0 := u2.1 17) (by omega) (fun k h1 _ h3 => f4 k h1 h3)
  rw [← f3] at r17b
  have ok5 : wm_ok (va_up (va_up (va_up (va_up N 17 (N a * 2 ^ fr)) 18 (N b * 2 ^ fr)) 16 (wm_v fq pl)) 17 (wm_v fl 2050)) u5.1 u5.2 := by
    rw [hp5]
    refine wm_ok_row (fun j hj e => ?_) r17b
    exact wm_ok_row (fun j hj e => ok2 j hj) r16 j hj
  have h17 : u5.1 17 ≤ 2049 := wm_rep_le (wm_ok_self ok5 (by decide)) (Nat.lt_of_lt_of_le (Nat.lt_trans hlt g1) (Nat.pow_le_pow_right (by decide) (by omega)))
  refine lv_aload_n hC.1 hC.2.1 d_Div_find_104 rfl (lv_at hl 1 rfl) ?_
  refine lv_aload_n hC.1 hC.2.1 d_Div_find_105 rfl (lv_at hl 1 rfl) ?_
  refine lv_iload hC.1 hC.2.1 d_Div_find_106 (lv_at hl 5 rfl) ?_
  refine wm_callVv hC hK hM (As := [.ref (ad 17), .int (nI (fr))]) (rest := []) (wm_at_o (by decide)) rfl (c_Whole_becomeShiftedRight l D ad cA cR _ (u5.1) (u5.2) 17 17 (wm_v fl 2050) fr (by decide) (by decide) (wm_rep_ze (ok5 17 (by decide))) (wm_ok_self ok5 (by decide)) h17 (by omega)) kc_Whole_becomeShiftedRight km_Div_46 ki_Whole kn_Whole_becomeShiftedRight ke_Whole_becomeShiftedRight kd_Whole_becomeShiftedRight ⟨rfl, rfl⟩ ⟨Nat.le_of_ble_eq_true rfl, Nat.le_of_ble_eq_true rfl⟩ rfl hl.1 (Nat.le_of_ble_eq_true rfl) d_Div_find_108 (fun u6 H locs hp6 hM => ?_)
  have ok6 := wm_ok_up ok5 hp6
  refine wm_vret hC hK hM hr hlk ⟨N b * 2 ^ fr, wm_ok_congr ok6 (fun j hj => ?_)⟩ d_Div_find_111
  rw [f2, f1]
  simp only [va_up]
  repeat' split
  all_goals first | rfl | omega
end
section
/-! ===== halves of rows of words ===== -/
def wm_hv (a b : Nat) : Nat := a % 2 * 2147483648 + b / 2
theorem wm_hv_lt {a b : Nat} (hb : b < 4294967296) : wm_hv a b < 4294967296 := by
  unfold wm_hv
  omega
theorem wm_or (x y : Int32) : wm_u (x ||| y) = wm_u x ||| wm_u y := by
  show (x ||| y).toBitVec.toNat = _
  rw [Int32.toBitVec_or, BitVec.toNat_or]
  rfl
theorem wm_halv (x y : Int32) : x <<< (nI 31 &&& 31) ||| nI (wm_u y / 2 ^ 1) = nI (wm_hv (wm_u x) (wm_u y)) := by
  apply wm_u_inj
  have h1 := wm_u_lt x
  have h2 := wm_u_lt y
  have e1 : wm_u (x <<< (nI 31 &&& 31)) = wm_u x % 2 * 2 ^ 31 := by
    have e : wm_u (x <<< (nI 31 &&& 31)) = wm_u x * 2 ^ 31 % 2 ^ 32 := pk_shl x (nI 31 &&& 31) 31 (by decide)
    rw [e]
    omega
  have e2 : wm_u x % 2 * 2 ^ 31 ||| wm_u y / 2 ^ 1 = wm_u x % 2 * 2 ^ 31 + wm_u y / 2 ^ 1 := by
    rw [← Nat.shiftLeft_eq, Nat.shiftLeft_add_eq_or_of_lt (by omega)]
  rw [wm_or, e1, wm_un' (by omega), wm_un' (wm_hv_lt h2), e2]
  rfl
/-- a word whose lowest bit is 0, and a bit -/
theorem wm_orbit {x : Int32} {b : Nat} (hx : wm_u x % 2 = 0) (hb : b < 2) : x ||| nI b = nI (wm_u x + b) := by
  apply wm_u_inj
  have h1 := wm_u_lt x
  have e2 : wm_u x ||| b = wm_u x + b := by
    have e : wm_u x = (wm_u x / 2) <<< 1 := by rw [Nat.shiftLeft_eq]; omega
    rw [e, Nat.shiftLeft_add_eq_or_of_lt (by omega)]
  rw [wm_or, wm_un' (by omega), wm_un' (by omega), e2]
/-- half of three words, where the highest is 0 or 1 -/
theorem wm_hv2 {a b c : Nat} (ha : a ≤ 1) (hb : b < 4294967296) (hc : c < 4294967296) : wm_hv a b * 4294967296 + wm_hv b c = ((a * 4294967296 + b) * 4294967296 + c) / 2 := by
  unfold wm_hv
  omega
theorem wm_hv3 {a b c d : Nat} (ha : a ≤ 1) (hb : b < 4294967296) (hc : c < 4294967296) (hd : d < 4294967296) : (wm_hv a b * 2 ^ 32 + wm_hv b c) * 4294967296 + wm_hv c d = (((a * 4294967296 + b) * 4294967296 + c) * 4294967296 + d) / 2 := by
  unfold wm_hv
  omega
theorem wm_v_4 (g : Nat → Int32) (c : Nat) : wm_v g (c + 4) = (((wm_u (g (c + 3)) * 4294967296 + wm_u (g (c + 2))) * 4294967296 + wm_u (g (c + 1))) * 4294967296 + wm_u (g c)) * 4294967296 ^ c + wm_v g c := by
  have e : wm_v g (c + 4) = wm_v g (c + 3) + wm_u (g (c + 3)) * 4294967296 ^ (c + 3) := rfl
  have e2 : 4294967296 ^ (c + 3) = 4294967296 * 4294967296 * 4294967296 * 4294967296 ^ c := by rw [Nat.pow_add, Nat.mul_comm]
  have e3 : ((wm_u (g (c + 3)) * 4294967296 + wm_u (g (c + 2))) * 4294967296 + wm_u (g (c + 1))) * 4294967296 + wm_u (g c) = wm_u (g (c + 3)) * (4294967296 * 4294967296 * 4294967296) + ((wm_u (g (c + 2)) * 4294967296 + wm_u (g (c + 1))) * 4294967296 + wm_u (g c)) := by omega
  rw [e, wm_v_3, e2, e3, Nat.add_mul (wm_u (g (c + 3)) * (4294967296 * 4294967296 * 4294967296)), Nat.mul_assoc (wm_u (g (c + 3)))]
  omega
/-- half of a row, and the highest words of it -/
theorem wm_half_top {T U S r : Nat} (h : T = U * S + r) (hr : r < S) : ∃ r', T / 2 = U / 2 * S + r' ∧ r' < S := by
  rcases Nat.mod_two_eq_zero_or_one U with z | z
  · obtain ⟨k, rfl⟩ : ∃ k, U = 2 * k := ⟨U / 2, by omega⟩
    refine ⟨r / 2, ?_, by omega⟩
    rw [h, show 2 * k / 2 = k by omega, Nat.mul_assoc]
    omega
  · obtain ⟨k, rfl⟩ : ∃ k, U = 2 * k + 1 := ⟨U / 2, by omega⟩
    refine ⟨(S + r) / 2, ?_, by omega⟩
    rw [h, show (2 * k + 1) / 2 = k by omega, Nat.add_mul, Nat.one_mul, Nat.mul_assoc]
    omega
theorem wm_top1 {f : Nat → Int32} {n : Nat} (h : wm_v f (n + 1) < 2 * 4294967296 ^ n) : wm_u (f n) ≤ 1 := by
  rw [wm_v_s] at h
  rcases Nat.lt_or_ge (wm_u (f n)) 2 with z | z
  · omega
  · have : 2 * 4294967296 ^ n ≤ wm_u (f n) * 4294967296 ^ n := Nat.mul_le_mul_right _ z
    omega
set_option maxRecDepth 100000 in
/-- the guess for a word of a root: e the doubled root (with a word 0 below it), T what is left -/
theorem wm_rg {t d : Nat → Int32} {K s g : Nat} (hD : wm_v d (K + 3) = 2 * (s * 4294967296)) (hs1 : 4294967296 ^ (K + 1) ≤ 2 * s) (hs2 : s < 4294967296 ^ (K + 1)) (hT : wm_v t (K + 4) < (2 * s + 1) * (4294967296 * 4294967296)) :
    2147483648 ≤ wm_hv (wm_u (d (K + 2))) (wm_u (d (K + 1))) ∧ wm_hv (wm_u (t (K + 3))) (wm_u (t (K + 2))) ≤ wm_hv (wm_u (d (K + 2))) (wm_u (d (K + 1))) ∧
    (g = wm_gs ((wm_hv (wm_u (t (K + 3))) (wm_u (t (K + 2))) * 2 ^ 32 + wm_hv (wm_u (t (K + 2))) (wm_u (t (K + 1)))) * 4294967296 + wm_hv (wm_u (t (K + 1))) (wm_u (t K))) (wm_hv (wm_u (d (K + 2))) (wm_u (d (K + 1))) * 4294967296 + wm_hv (wm_u (d (K + 1))) (wm_u (d K))) →
      g * (s * 4294967296) < wm_v t (K + 4) / 2 + s * 4294967296 ∧ wm_v t (K + 4) < (g + 1) * (2 * (s * 4294967296) + (g + 1))) := by
  have hp := wm_pp K
  have ep1 : 4294967296 ^ (K + 1) = 4294967296 * 4294967296 ^ K := by rw [Nat.pow_succ, Nat.mul_comm]
  have ep2 : 4294967296 ^ (K + 2) = 4294967296 * 4294967296 * 4294967296 ^ K := by rw [Nat.pow_add, Nat.mul_comm]
  have ep3 : 4294967296 ^ (K + 3) = 4294967296 * 4294967296 * 4294967296 * 4294967296 ^ K := by rw [Nat.pow_add, Nat.mul_comm]
  have hd1 : wm_u (d (K + 2)) ≤ 1 := wm_top1 (by rw [hD, ep2]; omega)
  have ht1 : wm_u (t (K + 3)) ≤ 1 := wm_top1 (n := K + 3) (by
    have : (2 * s + 1) * (4294967296 * 4294967296) ≤ 2 * 4294967296 ^ (K + 3) := by rw [ep3]; omega
    exact Nat.lt_of_lt_of_le hT this)
  have eT := wm_v_4 t K
  have eD := wm_v_3 d K
  have u0 := wm_u_lt (t K)
  have u1 := wm_u_lt (t (K + 1))
  have u2 := wm_u_lt (t (K + 2))
  have v0 := wm_u_lt (d K)
  have v1 := wm_u_lt (d (K + 1))
  have rT := wm_v_lt t K
  have rD := wm_v_lt d K
  obtain ⟨x, hx, hx2⟩ := wm_half_top eT rT
  obtain ⟨y, hy, hy2⟩ := wm_half_top eD rD
  rw [← wm_hv3 ht1 u2 u1 u0] at hx
  rw [← wm_hv2 hd1 v1 v0, hD, show 2 * (s * 4294967296) / 2 = s * 4294967296 by omega] at hy
  have hh0 : wm_hv (wm_u (t (K + 2))) (wm_u (t (K + 1))) < 4294967296 := wm_hv_lt u1
  have hh1 : wm_hv (wm_u (t (K + 1))) (wm_u (t K)) < 4294967296 := wm_hv_lt u0
  have hh2 : wm_hv (wm_u (d (K + 1))) (wm_u (d K)) < 4294967296 := wm_hv_lt v0
  generalize wm_hv (wm_u (t (K + 3))) (wm_u (t (K + 2))) = a1 at *
  generalize wm_hv (wm_u (t (K + 2))) (wm_u (t (K + 1))) = a2 at *
  generalize wm_hv (wm_u (t (K + 1))) (wm_u (t K)) = a3 at *
  generalize wm_hv (wm_u (d (K + 2))) (wm_u (d (K + 1))) = b1 at *
  generalize wm_hv (wm_u (d (K + 1))) (wm_u (d K)) = b2 at *
  generalize wm_v t (K + 4) = T at *
  generalize 4294967296 ^ K = S at *
  have hb1 : 2147483648 ≤ b1 := by
    rcases Nat.lt_or_ge b1 2147483648 with z | z
    · have h1 : (b1 * 4294967296 + b2) * S ≤ (2147483648 * 4294967296 - 1) * S := Nat.mul_le_mul_right _ (by omega)
      have h2 : (2147483648 * 4294967296 - 1) * S = 2147483648 * 4294967296 * S - S := by
        rw [Nat.sub_mul, Nat.one_mul]
      omega
    · exact z
  have hab : a1 ≤ b1 := by
    rcases Nat.lt_or_ge b1 a1 with z | z
    · obtain ⟨Y, hY⟩ : ∃ z, z = (b1 + 1) * S := ⟨_, rfl⟩
      have h1 : Y * (4294967296 * 4294967296) ≤ ((a1 * 2 ^ 32 + a2) * 4294967296 + a3) * S := by
        rw [hY, Nat.mul_right_comm]
        exact Nat.mul_le_mul_right _ (by omega)
      have h2 : (b1 * 4294967296 + b2) * S + S ≤ Y * 4294967296 := by
        have h0 : b1 * 4294967296 + b2 + 1 ≤ (b1 + 1) * 4294967296 := by
          rw [Nat.add_mul, Nat.one_mul, Nat.add_assoc]
          exact Nat.add_le_add_left hh2 _
        have h3 := Nat.mul_le_mul_right S h0
        rw [Nat.add_mul, Nat.one_mul, Nat.mul_right_comm] at h3
        rw [hY]
        exact h3
      omega
    · exact z
  refine ⟨hb1, hab, fun hg => ?_⟩
  have hV : 4294967296 ≤ b1 * 4294967296 + b2 := by omega
  have hq1 : g < 4294967296 := by rw [hg]; exact wm_gs_lt _ _
  have hq2 : g * (b1 * 4294967296 + b2) ≤ (a1 * 2 ^ 32 + a2) * 4294967296 + a3 := by rw [hg]; exact wm_gs_mul
  have hq3 := wm_gs_hi (U := (a1 * 2 ^ 32 + a2) * 4294967296 + a3) (V := b1 * 4294967296 + b2) (by omega)
  rw [← hg] at hq3
  refine ⟨wm_knuth1 hx hy hy2 hV hq1 hq2, ?_⟩
  have e9 : (g + 1) * (2 * (s * 4294967296) + (g + 1)) = 2 * ((g + 1) * (s * 4294967296)) + (g + 1) * (g + 1) := by
    rw [Nat.mul_add, Nat.mul_left_comm]
  rw [e9]
  rcases hq3 with h3 | h3
  · have h4 := wm_knuth2 hx hx2 hy h3
    omega
  · rw [h3]
    omega
end
section
set_option maxHeartbeats 4000000 in
set_option maxRecDepth 100000 in
theorem c_Rows_halved (l : Launch) (sz : Nat) (x y : Int32) : Met l y_Rows_halved (Cond.code y_Rows_halved b_Rows_halved 2 (some .int) :: lw_T) ({ frames := 0, cells := 0, slots := 0, locals := 0 }) (pu_Pc [.int (x), .int (y)] sz) (pu_Qi (fun r => r = nI (wm_hv (wm_u x) (wm_u y))) sz) 0 0 (fun q => sz ≤ q) := by
  refine pu_met l (by decide) (Nat.le_of_ble_eq_true rfl) ?_
  intro p e s m below meth c ls hsz hC hr hlk hl
  subst hsz
  have hM : pu_H s s.heap [] := va_S.rf
  have hC : CallFix p m c b_Rows_halved 2 s _ lw_T R_Rows := hC
  have hl : lv_has ls 2 [(0, .int (x)), (1, .int (y))] := hl
  refine lv_iload_n hC.1 hC.2.1 d_Rows_halved_0 rfl (lv_at hl 0 rfl) ?_
  refine lv_bipush (v := nI 31) hC.1 hC.2.1 d_Rows_halved_1 (by decide) ?_
  refine lv_ishl hC.1 hC.2.1 d_Rows_halved_3 ?_
  refine lv_iload_n hC.1 hC.2.1 d_Rows_halved_4 rfl (lv_at hl 1 rfl) ?_
  refine nv_top (y := nI (wm_u y)) (wm_nu y).symm ?_
  refine lv_iconst (v := nI 1) hC.1 hC.2.1 d_Rows_halved_5 (by decide) ?_
  refine nv_iushr hC (wm_u_lt y) (by decide) d_Rows_halved_6 ?_
  refine lv_ior hC.1 hC.2.1 d_Rows_halved_7 ?_
  exact pu_iret hC hr hM hlk (wm_halv x y) d_Rows_halved_8
set_option maxHeartbeats 4000000 in
set_option maxRecDepth 100000 in
theorem lp_Root_rootOfPair {p : Program} {l : Launch} {e : Env} {s : State} {m : MethodId} {args : Array Value} {below : List Frame} {meth : Method} {c : Code} {Q : State → Prop} (hC : CallFix p m c b_Root_rootOfPair 7 s args lw_T R_Root) (p0 : Nat) (hp64 : p0 < 2 ^ 64)
    (hex : ∀ (w : Nat), (w * w ≤ p0) → (p0 < (w + 1) * (w + 1)) → (w < 4294967296) → ∀ (H : Heap) (locs : List Loc) (ls : Array Slot), pu_H s H locs → lv_has ls 7 [(2, .long (lN (w)))] → W p l e ({ frames := 1, cells := 0, slots := 0, locals := 23 }) s m args below meth c H locs 0 0 Q (F0 m 40 ls [])) :
    ∀ (n : Nat) (x : Nat) (w : Nat), (x ≤ 32) → (w * w ≤ p0) → (p0 < (w + 2 ^ x) * (w + 2 ^ x)) → (∃ t, w = t * 2 ^ x) → (w + 2 ^ x ≤ 4294967296) → x + 1 ≤ n → ∀ (H : Heap) (locs : List Loc) (ls : Array Slot), pu_H s H locs → lv_has ls 7 [(0, .long (lN (p0))), (2, .long (lN (w))), (4, .int (nI (x) + (-1)))] → W p l e ({ frames := 1, cells := 0, slots := 0, locals := 23 }) s m args below meth c H locs 0 0 Q (F0 m 6 ls []) := by
  intro n
  induction n with
  | zero =>
    intro x w hx h1 h2 h3 h4 hn
    exact absurd hn (by omega)
  | succ n ih =>
    intro x w hx h1 h2 h3 h4 hn H locs ls hM hl
    refine lv_iload hC.1 hC.2.1 d_Root_rootOfPair_6 (lv_at hl 2 rfl) ?_
    refine nv_down_lt (tgt := 40) hC (by omega) d_Root_rootOfPair_8 (by decide) (fun hz => ?_) (fun y hy => ?_)
    · subst hz
      rw [Nat.pow_zero] at h2 h4
      exact hex w h1 h2 (by omega) H locs ls hM (lv_sub hl [1] rfl)
    · subst hy
      have hl : lv_has ls 7 [(0, .long (lN (p0))), (2, .long (lN (w))), (4, .int (nI (y)))] := by rw [pk_m1] at hl; exact hl
      have hpy : 2 ^ (y + 1) = 2 * 2 ^ y := by rw [Nat.pow_succ, Nat.mul_comm]
      have hp0 : 0 < 2 ^ y := Nat.pow_pos (by decide)
      rw [hpy] at h2 h4
      obtain ⟨t, ht⟩ := h3
      have hm : (w + 2 ^ y) * (w + 2 ^ y) ≤ 4294967295 * 4294967295 := Nat.mul_le_mul (by omega) (by omega)
      refine lv_lload_n hC.1 hC.2.1 d_Root_rootOfPair_11 rfl (lv_at hl 1 rfl) ?_
      refine lv_lconst (v := lN 1) hC.1 hC.2.1 d_Root_rootOfPair_12 (by decide) ?_
      refine lv_iload hC.1 hC.2.1 d_Root_rootOfPair_13 (lv_at hl 2 rfl) ?_
      refine nv_lshl hC (by omega) d_Root_rootOfPair_15 ?_
      refine nv_topl (y := lN (2 ^ y)) (by rw [Nat.one_mul]) ?_
      refine lv_lor hC.1 hC.2.1 d_Root_rootOfPair_16 ?_
      refine nv_topl (y := lN (w + 2 ^ y)) (by rw [ht]; exact g_or (k := y + 1) rfl (by omega) (by rw [← ht]; omega)) ?_
      refine lv_lstore (lv' := [(5, .long (lN (w + 2 ^ y))), (0, .long (lN (p0))), (2, .long (lN (w))), (4, .int (nI (y)))]) hC.1 hC.2.1 d_Root_rootOfPair_17 hl (by decide) rfl (fun ls hl => ?_)
      refine lv_lload hC.1 hC.2.1 d_Root_rootOfPair_19 (lv_at hl 0 rfl) ?_
      refine lv_lload hC.1 hC.2.1 d_Root_rootOfPair_21 (lv_at hl 0 rfl) ?_
      refine nv_lmul hC d_Root_rootOfPair_23 ?_
      refine lv_lload_n hC.1 hC.2.1 d_Root_rootOfPair_24 rfl (lv_at hl 1 rfl) ?_
      refine pu_calli hC hM (As := [.long (lN ((w + 2 ^ y) * (w + 2 ^ y))), .long (lN (p0))]) (rest := []) (c_Rows_isAbove l _ ((w + 2 ^ y) * (w + 2 ^ y)) p0 (by omega) hp64) kc_Rows_isAbove km_Root_54 ki_Rows ks_Rows_isAbove kd_Rows_isAbove ⟨rfl, rfl⟩ ⟨Nat.le_of_ble_eq_true rfl, Nat.le_of_ble_eq_true rfl⟩ rfl hl.1 (Nat.le_of_ble_eq_true rfl) d_Root_rootOfPair_25 (fun r H locs hp hM => ?_)
      rcases hp with ⟨ha, rfl⟩ | ⟨ha, rfl⟩
      · refine nv_if_ne (tgt := 34) hC (by omega) d_Root_rootOfPair_28 (by decide) (fun hz => ?_) (fun hz => ?_)
        · refine lv_iinc (v := nI (y) + (-1)) (lv' := [(4, .int (nI (y) + (-1))), (5, .long (lN (w + 2 ^ y))), (0, .long (lN (p0))), (2, .long (lN (w)))]) hC.1 hC.2.1 d_Root_rootOfPair_34 hl (k := 3) rfl (rfl) (by decide) rfl (fun ls hl => ?_)
          refine lv_goto (tgt := 6) hC.1 hC.2.1 d_Root_rootOfPair_37 (by decide) ?_
          exact ih y w (by omega) h1 ha ⟨2 * t, by rw [ht, hpy, Nat.mul_left_comm, Nat.mul_assoc]⟩ (by omega) (by omega) H locs ls hM (lv_sub hl [2, 3, 0] rfl)
        · exact absurd hz (by decide)
      · refine nv_if_ne (tgt := 34) hC (by omega) d_Root_rootOfPair_28 (by decide) (fun hz => ?_) (fun hz => ?_)
        · exact absurd rfl hz
        · refine lv_lload hC.1 hC.2.1 d_Root_rootOfPair_31 (lv_at hl 0 rfl) ?_
          refine lv_lstore_n (lv' := [(2, .long (lN (w + 2 ^ y))), (5, .long (lN (w + 2 ^ y))), (0, .long (lN (p0))), (4, .int (nI (y)))]) hC.1 hC.2.1 d_Root_rootOfPair_33 rfl hl (by decide) rfl (fun ls hl => ?_)
          refine lv_iinc (v := nI (y) + (-1)) (lv' := [(4, .int (nI (y) + (-1))), (2, .long (lN (w + 2 ^ y))), (5, .long (lN (w + 2 ^ y))), (0, .long (lN (p0)))]) hC.1 hC.2.1 d_Root_rootOfPair_34 hl (k := 3) rfl (rfl) (by decide) rfl (fun ls hl => ?_)
          refine lv_goto (tgt := 6) hC.1 hC.2.1 d_Root_rootOfPair_37 (by decide) ?_
          exact ih y (w + 2 ^ y) (by omega) ha (by rw [show w + 2 ^ y + 2 ^ y = w + 2 * 2 ^ y by omega]; exact h2) ⟨2 * t + 1, by rw [ht, hpy, Nat.add_mul, Nat.one_mul, Nat.mul_left_comm, Nat.mul_assoc]⟩ (by omega) (by omega) H locs ls hM (lv_sub hl [3, 1, 0] rfl)
set_option maxHeartbeats 4000000 in
set_option maxRecDepth 100000 in
theorem c_Root_rootOfPair (l : Launch) (sz : Nat) (p0 : Nat) (hp64 : p0 < 2 ^ 64) : Met l y_Root_rootOfPair (Cond.code y_Root_rootOfPair b_Root_rootOfPair 7 (some .long) :: lw_T) ({ frames := 1, cells := 0, slots := 0, locals := 23 }) (pu_Pc [.long (lN (p0))] sz) (pu_Ql (fun r => ∃ w : Nat, r = lN w ∧ w * w ≤ p0 ∧ p0 < (w + 1) * (w + 1) ∧ w < 4294967296) sz) 0 0 (fun q => sz ≤ q) := by
  refine pu_met l (by decide) (Nat.le_of_ble_eq_true rfl) ?_
  intro p e s m below meth c ls hsz hC hr hlk hl
  subst hsz
  have hM : pu_H s s.heap [] := va_S.rf
  have hC : CallFix p m c b_Root_rootOfPair 7 s _ lw_T R_Root := hC
  have hl : lv_has ls 7 [(0, .long (lN (p0)))] := hl
  refine lv_lconst (v := lN 0) hC.1 hC.2.1 d_Root_rootOfPair_0 (by decide) ?_
  refine lv_lstore_n (lv' := [(2, .long (lN (0))), (0, .long (lN (p0)))]) hC.1 hC.2.1 d_Root_rootOfPair_1 rfl hl (by decide) rfl (fun ls hl => ?_)
  refine lv_bipush (v := nI 31) hC.1 hC.2.1 d_Root_rootOfPair_2 (by decide) ?_
  refine lv_istore (lv' := [(4, .int (nI (31))), (2, .long (lN (0))), (0, .long (lN (p0)))]) hC.1 hC.2.1 d_Root_rootOfPair_4 hl (by decide) rfl (fun ls hl => ?_)
  refine lp_Root_rootOfPair hC p0 hp64 (fun w h1 h2 h3 H locs ls hM hl => ?_) 33 32 0 (Nat.le_refl _) (by omega) (by
    show p0 < (0 + 2 ^ 32) * (0 + 2 ^ 32)
    omega) ⟨0, by omega⟩ (by decide) (Nat.le_refl _) _ _ _ hM (by
    have hl := lv_sub hl (l' := [(0, .long (lN p0)), (2, .long (lN 0)), (4, .int (nI 31))]) [2, 1, 0] rfl
    rw [show nI 31 = nI 32 + (-1) by decide] at hl
    exact hl)
  refine lv_lload_n hC.1 hC.2.1 d_Root_rootOfPair_40 rfl (lv_at hl 0 rfl) ?_
  exact pu_lret hC hr hM hlk ⟨w, rfl, h1, h2, h3⟩ d_Root_rootOfPair_41
set_option maxHeartbeats 4000000 in
set_option maxRecDepth 100000 in
theorem c_Root_putWord (l : Launch) (D : va_G) (ad : Nat → Nat) (cA cR : ClassId) (sz : Nat) (ln : Nat → Nat) (wd : Nat → Nat → Int32) (j a0 w0 : Nat) (hj : j < 19) (ha : a0 + 1 < 2050) (hw : w0 < 4294967296) (he : wm_u (wd j (a0 + 1)) % 2 = 0) : Met l y_Root_putWord (Cond.code y_Root_putWord b_Root_putWord 4 none :: lw_T) ({ frames := 0, cells := 0, slots := 0, locals := 0 }) (va_Pc [.ref (ad (19 + j)), .int (nI (a0)), .long (lN (w0))] (wm_B D ad cA cR sz ln wd)) (va_Qv (fun u : wm_St => u = (ln, va_up wd j (upd (upd (wd j) a0 (nI (w0 * 2 ^ 1))) (a0 + 1) (nI (wm_u (wd j (a0 + 1)) + w0 / 2 ^ 31))))) (wm_E D ad cA cR sz) (wm_A ad sz)) 0 0 (wm_A ad sz) := by
  refine wm_met l (by decide) (Nat.le_of_ble_eq_true rfl) ?_
  intro p e s m below meth c ls hsz hC hK hr hlk hM hl
  subst hsz
  have hC : CallFix p m c b_Root_putWord 4 s _ lw_T R_Root := hC
  have hl : lv_has ls 4 [(0, .ref (ad (19 + j))), (1, .int (nI (a0))), (2, .long (lN (w0)))] := hl
  have hM : wm_M D ad cA cR s (ln) (va_up wd j (wd j)) s.heap [] := by
    rw [wm_eta]; exact hM
  refine lv_aload_n hC.1 hC.2.1 d_Root_putWord_0 rfl (lv_at hl 0 rfl) ?_
  refine lv_iload_n hC.1 hC.2.1 d_Root_putWord_1 rfl (lv_at hl 1 rfl) ?_
  refine lv_lload_n hC.1 hC.2.1 d_Root_putWord_2 rfl (lv_at hl 2 rfl) ?_
  refine lv_iconst (v := nI 1) hC.1 hC.2.1 d_Root_putWord_3 (by decide) ?_
  refine nv_lshl hC (by omega) d_Root_putWord_4 ?_
  refine nv_l2i hC d_Root_putWord_5 ?_
  refine wm_ast_s hC hK hM (k := a0) hj (by omega) d_Root_putWord_6 (fun H locs hM => ?_)
  refine lv_aload_n hC.1 hC.2.1 d_Root_putWord_7 rfl (lv_at hl 0 rfl) ?_
  refine lv_iload_n hC.1 hC.2.1 d_Root_putWord_8 rfl (lv_at hl 1 rfl) ?_
  refine lv_iconst (v := nI 1) hC.1 hC.2.1 d_Root_putWord_9 (by decide) ?_
  refine nv_iadd hC d_Root_putWord_10 ?_
  refine lv_dup2_11 hC.1 hC.2.1 d_Root_putWord_11 rfl rfl ?_
  refine wm_ald_s hC hK hM (k := a0 + 1) hj (by omega) d_Root_putWord_12 ?_
  refine nv_top (y := wd j (a0 + 1)) (pk_un (by omega)) ?_
  refine lv_lload_n hC.1 hC.2.1 d_Root_putWord_13 rfl (lv_at hl 2 rfl) ?_
  refine lv_bipush (v := nI 31) hC.1 hC.2.1 d_Root_putWord_14 (by decide) ?_
  refine nv_lushr hC (by omega) (by decide) d_Root_putWord_16 ?_
  refine nv_l2i hC d_Root_putWord_17 ?_
  refine lv_ior hC.1 hC.2.1 d_Root_putWord_18 ?_
  refine nv_top (y := nI (wm_u (wd j (a0 + 1)) + w0 / 2 ^ 31)) (wm_orbit he (by omega)) ?_
  refine wm_ast_s hC hK hM (k := a0 + 1) hj (by omega) d_Root_putWord_19 (fun H locs hM => ?_)
  exact wm_vret hC hK hM hr hlk rfl d_Root_putWord_20
set_option maxHeartbeats 4000000 in
set_option maxRecDepth 100000 in
theorem c_Root_guessWord (l : Launch) (D : va_G) (ad : Nat → Nat) (cA cR : ClassId) (sz : Nat) (ln : Nat → Nat) (wd : Nat → Nat → Int32) (i j en cnt : Nat) (hi : i < 19) (hj : j < 19) (hen : 3 ≤ en) (hen2 : en < 2050) (hcn : 2 ≤ cnt) (hcn2 : cnt < 2050) (ht : 2147483648 ≤ wm_hv (wm_u (wd j cnt)) (wm_u (wd j (cnt - 1)))) (hh : wm_hv (wm_u (wd i en)) (wm_u (wd i (en - 1))) ≤ wm_hv (wm_u (wd j cnt)) (wm_u (wd j (cnt - 1)))) : Met l y_Root_guessWord (Cond.code y_Root_guessWord b_Root_guessWord 9 (some .long) :: lw_T) ({ frames := 2, cells := 0, slots := 0, locals := 56 }) (va_Pc [.ref (ad (19 + i)), .ref (ad (19 + j)), .int (nI (en)), .int (nI (cnt))] (wm_B D ad cA cR sz ln wd)) (va_Ql (fun (r : Int64) (u : wm_St) => r = lN (wm_gs ((wm_hv (wm_u (wd i en)) (wm_u (wd i (en - 1))) * 2 ^ 32 + wm_hv (wm_u (wd i (en - 1))) (wm_u (wd i (en - 2)))) * 4294967296 + wm_hv (wm_u (wd i (en - 2))) (wm_u (wd i (en - 3)))) (wm_hv (wm_u (wd j cnt)) (wm_u (wd j (cnt - 1))) * 4294967296 + wm_hv (wm_u (wd j (cnt - 1))) (wm_u (wd j (cnt - 2))))) ∧ u = (ln, wd)) (wm_E D ad cA cR sz) (wm_A ad sz)) 0 0 (wm_A ad sz) := by
  refine wm_met l (by decide) (Nat.le_of_ble_eq_true rfl) ?_
  intro p e s m below meth c ls hsz hC hK hr hlk hM hl
  subst hsz
  have hC : CallFix p m c b_Root_guessWord 9 s _ lw_T R_Root := hC
  have hl : lv_has ls 9 [(0, .ref (ad (19 + i))), (1, .ref (ad (19 + j))), (2, .int (nI (en))), (3, .int (nI (cnt)))] := hl
  refine lv_aload_n hC.1 hC.2.1 d_Root_guessWord_0 rfl (lv_at hl 0 rfl) ?_
  refine lv_iload_n hC.1 hC.2.1 d_Root_guessWord_1 rfl (lv_at hl 2 rfl) ?_
  refine wm_ald hC hK hM (j := i) (k := en) hi (by omega) d_Root_guessWord_2 ?_
  refine lv_aload_n hC.1 hC.2.1 d_Root_guessWord_3 rfl (lv_at hl 0 rfl) ?_
  refine lv_iload_n hC.1 hC.2.1 d_Root_guessWord_4 rfl (lv_at hl 2 rfl) ?_
  refine lv_iconst (v := nI 1) hC.1 hC.2.1 d_Root_guessWord_5 (by decide) ?_
  refine nv_isub hC (by omega) d_Root_guessWord_6 ?_
  refine wm_ald hC hK hM (j := i) (k := en - 1) hi (by omega) d_Root_guessWord_7 ?_
  refine wm_callPi hC hK hM (As := [.int (wd i en), .int (wd i (en - 1))]) (rest := []) (c_Rows_halved l _ (wd i en) (wd i (en - 1))) kc_Rows_halved km_Root_73 ki_Rows ks_Rows_halved kd_Rows_halved ⟨rfl, rfl⟩ ⟨Nat.le_of_ble_eq_true rfl, Nat.le_of_ble_eq_true rfl⟩ rfl hl.1 (Nat.le_of_ble_eq_true rfl) d_Root_guessWord_8 (fun r H locs hp hM => ?_)
  subst hp
  refine lv_istore (lv' := [(4, .int (nI (wm_hv (wm_u (wd i en)) (wm_u (wd i (en - 1)))))), (0, .ref (ad (19 + i))), (1, .ref (ad (19 + j))), (2, .int (nI (en))), (3, .int (nI (cnt)))]) hC.1 hC.2.1 d_Root_guessWord_11 hl (by decide) rfl (fun ls hl => ?_)
  refine lv_aload_n hC.1 hC.2.1 d_Root_guessWord_13 rfl (lv_at hl 1 rfl) ?_
  refine lv_iload_n hC.1 hC.2.1 d_Root_guessWord_14 rfl (lv_at hl 3 rfl) ?_
  refine lv_iconst (v := nI 1) hC.1 hC.2.1 d_Root_guessWord_15 (by decide) ?_
  refine nv_isub hC (by omega) d_Root_guessWord_16 ?_
  refine wm_ald hC hK hM (j := i) (k := en - 1) hi (by omega) d_Root_guessWord_17 ?_
  refine lv_aload_n hC.1 hC.2.1 d_Root_guessWord_18 rfl (lv_at hl 1 rfl) ?_
  refine lv_iload_n hC.1 hC.2.1 d_Root_guessWord_19 rfl (lv_at hl 3 rfl) ?_
  refine lv_iconst (v := nI 2) hC.1 hC.2.1 d_Root_guessWord_20 (by decide) ?_
  refine nv_isub hC (by omega) d_Root_guessWord_21 ?_
  refine wm_ald hC hK hM (j := i) (k := en - 2) hi (by omega) d_Root_guessWord_22 ?_
  refine wm_callPi hC hK hM (As := [.int (wd i (en - 1)), .int (wd i (en - 2))]) (rest := []) (c_Rows_halved l _ (wd i (en - 1)) (wd i (en - 2))) kc_Rows_halved km_Root_73 ki_Rows ks_Rows_halved kd_Rows_halved ⟨rfl, rfl⟩ ⟨Nat.le_of_ble_eq_true rfl, Nat.le_of_ble_eq_true rfl⟩ rfl hl.1 (Nat.le_of_ble_eq_true rfl) d_Root_guessWord_23 (fun r H locs hp hM => ?_)
  subst hp
  refine lv_istore (lv' := [(5, .int (nI (wm_hv (wm_u (wd i (en - 1))) (wm_u (wd i (en - 2)))))), (4, .int (nI (wm_hv (wm_u (wd i en)) (wm_u (wd i (en - 1)))))), (0, .ref (ad (19 + i))), (1, .ref (ad (19 + j))), (2, .int (nI (en))), (3, .int (nI (cnt)))]) hC.1 hC.2.1 d_Root_guessWord_26 hl (by decide) rfl (fun ls hl => ?_)
  refine lv_aload_n hC.1 hC.2.1 d_Root_guessWord_28 rfl (lv_at hl 2 rfl) ?_
  refine lv_iload_n hC.1 hC.2.1 d_Root_guessWord_29 rfl (lv_at hl 4 rfl) ?_
  refine lv_iconst (v := nI 2) hC.1 hC.2.1 d_Root_guessWord_30 (by decide) ?_
  refine nv_isub hC (by omega) d_Root_guessWord_31 ?_
  refine wm_ald hC hK hM (j := i) (k := en - 2) hi (by omega) d_Root_guessWord_32 ?_
  refine lv_aload_n hC.1 hC.2.1 d_Root_guessWord_33 rfl (lv_at hl 2 rfl) ?_
  refine lv_iload_n hC.1 hC.2.1 d_Root_guessWord_34 rfl (lv_at hl 4 rfl) ?_
  refine lv_iconst (v := nI 3) hC.1 hC.2.1 d_Root_guessWord_35 (by decide) ?_
  refine nv_isub hC (by omega) d_Root_guessWord_36 ?_
  refine wm_ald hC hK hM (j := i) (k := en - 3) hi (by omega) d_Root_guessWord_37 ?_
  refine wm_callPi hC hK hM (As := [.int (wd i (en - 2)), .int (wd i (en - 3))]) (rest := []) (c_Rows_halved l _ (wd i (en - 2)) (wd i (en - 3))) kc_Rows_halved km_Root_73 ki_Rows ks_Rows_halved kd_Rows_halved ⟨rfl, rfl⟩ ⟨Nat.le_of_ble_eq_true rfl, Nat.le_of_ble_eq_true rfl⟩ rfl hl.1 (Nat.le_of_ble_eq_true rfl) d_Root_guessWord_38 (fun r H locs hp hM => ?_)
  subst hp
  refine lv_istore (lv' := [(6, .int (nI (wm_hv (wm_u (wd i (en - 2))) (wm_u (wd i (en - 3)))))), (5, .int (nI (wm_hv (wm_u (wd i (en - 1))) (wm_u (wd i (en - 2)))))), (4, .int (nI (wm_hv (wm_u (wd i en)) (wm_u (wd i (en - 1)))))), (0, .ref (ad (19 + i))), (1, .ref (ad (19 + j))), (2, .int (nI (en))), (3, .int (nI (cnt)))]) hC.1 hC.2.1 d_Root_guessWord_41 hl (by decide) rfl (fun ls hl => ?_)
  refine lv_aload_n hC.1 hC.2.1 d_Root_guessWord_43 rfl (lv_at hl 4 rfl) ?_
  refine lv_iload_n hC.1 hC.2.1 d_Root_guessWord_44 rfl (lv_at hl 6 rfl) ?_
  refine wm_ald hC hK hM (j := j) (k := cnt) hj (by omega) d_Root_guessWord_45 ?_
  refine lv_aload_n hC.1 hC.2.1 d_Root_guessWord_46 rfl (lv_at hl 4 rfl) ?_
  refine lv_iload_n hC.1 hC.2.1 d_Root_guessWord_47 rfl (lv_at hl 6 rfl) ?_
  refine lv_iconst (v := nI 1) hC.1 hC.2.1 d_Root_guessWord_48 (by decide) ?_
  refine nv_isub hC (by omega) d_Root_guessWord_49 ?_
  refine wm_ald hC hK hM (j := j) (k := cnt - 1) hj (by omega) d_Root_guessWord_50 ?_
  refine wm_callPi hC hK hM (As := [.int (wd j cnt), .int (wd j (cnt - 1))]) (rest := []) (c_Rows_halved l _ (wd j cnt) (wd j (cnt - 1))) kc_Rows_halved km_Root_73 ki_Rows ks_Rows_halved kd_Rows_halved ⟨rfl, rfl⟩ ⟨Nat.le_of_ble_eq_true rfl, Nat.le_of_ble_eq_true rfl⟩ rfl hl.1 (Nat.le_of_ble_eq_true rfl) d_Root_guessWord_51 (fun r H locs hp hM => ?_)
  subst hp
  refine lv_istore (lv' := [(7, .int (nI (wm_hv (wm_u (wd j cnt)) (wm_u (wd j (cnt - 1)))))), (6, .int (nI (wm_hv (wm_u (wd i (en - 2))) (wm_u (wd i (en - 3)))))), (5, .int (nI (wm_hv (wm_u (wd i (en - 1))) (wm_u (wd i (en - 2)))))), (4, .int (nI (wm_hv (wm_u (wd i en)) (wm_u (wd i (en - 1)))))), (0, .ref (ad (19 + i))), (1, .ref (ad (19 + j))), (2, .int (nI (en))), (3, .int (nI (cnt)))]) hC.1 hC.2.1 d_Root_guessWord_54 hl (by decide) rfl (fun ls hl => ?_)
  refine lv_aload_n hC.1 hC.2.1 d_Root_guessWord_56 rfl (lv_at hl 5 rfl) ?_
  refine lv_iload_n hC.1 hC.2.1 d_Root_guessWord_57 rfl (lv_at hl 7 rfl) ?_
  refine lv_iconst (v := nI 1) hC.1 hC.2.1 d_Root_guessWord_58 (by decide) ?_
  refine nv_isub hC (by omega) d_Root_guessWord_59 ?_
  refine wm_ald hC hK hM (j := j) (k := cnt - 1) hj (by omega) d_Root_guessWord_60 ?_
  refine lv_aload_n hC.1 hC.2.1 d_Root_guessWord_61 rfl (lv_at hl 5 rfl) ?_
  refine lv_iload_n hC.1 hC.2.1 d_Root_guessWord_62 rfl (lv_at hl 7 rfl) ?_
  refine lv_iconst (v := nI 2) hC.1 hC.2.1 d_Root_guessWord_63 (by decide) ?_
  refine nv_isub hC (by omega) d_Root_guessWord_64 ?_
  refine wm_ald hC hK hM (j := j) (k := cnt - 2) hj (by omega) d_Root_guessWord_65 ?_
  refine wm_callPi hC hK hM (As := [.int (wd j (cnt - 1)), .int (wd j (cnt - 2))]) (rest := []) (c_Rows_halved l _ (wd j (cnt - 1)) (wd j (cnt - 2))) kc_Rows_halved km_Root_73 ki_Rows ks_Rows_halved kd_Rows_halved ⟨rfl, rfl⟩ ⟨Nat.le_of_ble_eq_true rfl, Nat.le_of_ble_eq_true rfl⟩ rfl hl.1 (Nat.le_of_ble_eq_true rfl) d_Root_guessWord_66 (fun r H locs hp hM => ?_)
  subst hp
  refine lv_istore (lv' := [(8, .int (nI (wm_hv (wm_u (wd j (cnt - 1))) (wm_u (wd j (cnt - 2)))))), (7, .int (nI (wm_hv (wm_u (wd j cnt)) (wm_u (wd j (cnt - 1)))))), (6, .int (nI (wm_hv (wm_u (wd i (en - 2))) (wm_u (wd i (en - 3)))))), (5, .int (nI (wm_hv (wm_u (wd i (en - 1))) (wm_u (wd i (en - 2)))))), (4, .int (nI (wm_hv (wm_u (wd i en)) (wm_u (wd i (en - 1)))))), (0, .ref (ad (19 + i))), (1, .ref (ad (19 + j))), (2, .int (nI (en))), (3, .int (nI (cnt)))]) hC.1 hC.2.1 d_Root_guessWord_69 hl (by decide) rfl (fun ls hl => ?_)
  refine lv_iload hC.1 hC.2.1 d_Root_guessWord_71 (lv_at hl 4 rfl) ?_
  refine lv_iload hC.1 hC.2.1 d_Root_guessWord_73 (lv_at hl 3 rfl) ?_
  refine lv_iload hC.1 hC.2.1 d_Root_guessWord_75 (lv_at hl 2 rfl) ?_
  refine lv_iload hC.1 hC.2.1 d_Root_guessWord_77 (lv_at hl 1 rfl) ?_
  refine lv_iload hC.1 hC.2.1 d_Root_guessWord_79 (lv_at hl 0 rfl) ?_
  have q0 := wm_un' (wm_hv_lt (a := wm_u (wd i en)) (wm_u_lt (wd i (en - 1))))
  have q1 := wm_un' (wm_hv_lt (a := wm_u (wd i (en - 1))) (wm_u_lt (wd i (en - 2))))
  have q2 := wm_un' (wm_hv_lt (a := wm_u (wd i (en - 2))) (wm_u_lt (wd i (en - 3))))
  have q3 := wm_un' (wm_hv_lt (a := wm_u (wd j cnt)) (wm_u_lt (wd j (cnt - 1))))
  have q4 := wm_un' (wm_hv_lt (a := wm_u (wd j (cnt - 1))) (wm_u_lt (wd j (cnt - 2))))
  refine wm_callPl hC hK hM (As := [.int (nI (wm_hv (wm_u (wd i en)) (wm_u (wd i (en - 1))))), .int (nI (wm_hv (wm_u (wd i (en - 1))) (wm_u (wd i (en - 2))))), .int (nI (wm_hv (wm_u (wd i (en - 2))) (wm_u (wd i (en - 3))))), .int (nI (wm_hv (wm_u (wd j cnt)) (wm_u (wd j (cnt - 1))))), .int (nI (wm_hv (wm_u (wd j (cnt - 1))) (wm_u (wd j (cnt - 2)))))]) (rest := []) (c_Rows_guess l _ (nI (wm_hv (wm_u (wd i en)) (wm_u (wd i (en - 1))))) (nI (wm_hv (wm_u (wd i (en - 1))) (wm_u (wd i (en - 2))))) (nI (wm_hv (wm_u (wd i (en - 2))) (wm_u (wd i (en - 3))))) (nI (wm_hv (wm_u (wd j cnt)) (wm_u (wd j (cnt - 1))))) (nI (wm_hv (wm_u (wd j (cnt - 1))) (wm_u (wd j (cnt - 2))))) (by rw [q3]; exact ht) (by rw [q0, q3]; exact hh)) kc_Rows_guess km_Root_77 ki_Rows ks_Rows_guess kd_Rows_guess ⟨rfl, rfl⟩ ⟨Nat.le_of_ble_eq_true rfl, Nat.le_of_ble_eq_true rfl⟩ rfl hl.1 (Nat.le_of_ble_eq_true rfl) d_Root_guessWord_81 (fun r H locs hp hM => ?_)
  rw [q0, q1, q2, q3, q4] at hp
  exact wm_lret hC hK hM hr hlk ⟨hp, rfl⟩ d_Root_guessWord_84
end
section
theorem lz_ge0 {z : Int} (h1 : -9223372036854775808 ≤ z) (h2 : z < 9223372036854775808) : 0 ≤ lg_cmp (lz_i z) (lN 0) ↔ 0 ≤ z := by
  rw [lg_cmp_ge, Int64.le_iff_toInt_le, lz_toInt h1 h2]
  have e : (lN 0).toInt = 0 := by decide
  rw [e]
theorem wm_v_set0 {d : Nat → Int32} {n : Nat} {x : Int32} (h : d 0 = 0) : wm_v (upd d 0 x) (n + 1) = wm_v d (n + 1) + wm_u x := by
  have e1 := wm_v_first (upd d 0 x) 0 n
  have e2 := wm_v_first d 0 n
  rw [wm_off_0] at e1 e2
  rw [e1, e2, pk_us, h, wm_u_0, wm_off_ge (by omega)]
  omega
theorem wm_v_01 (d : Nat → Int32) (n : Nat) : wm_v d (n + 2) = wm_u (d 0) + 4294967296 * (wm_u (d 1) + 4294967296 * wm_v (wm_off d 2) n) := by
  have a1 : wm_v d (n + 2) = wm_u (d 0) + 4294967296 * wm_v (wm_off d 1) (n + 1) := by
    have := wm_v_first d 0 (n + 1)
    rw [wm_off_0] at this
    exact this
  have a2 : wm_v (wm_off d 1) (n + 1) = wm_u (d 1) + 4294967296 * wm_v (wm_off d 2) n := wm_v_first d 1 n
  rw [a1, a2]
theorem wm_v_set01 {d : Nat → Int32} {n : Nat} {x y : Int32} (h : d 0 = 0) : wm_v (upd (upd d 0 x) 1 y) (n + 2) + wm_u (d 1) * 4294967296 = wm_v d (n + 2) + wm_u x + wm_u y * 4294967296 := by
  have e : wm_v (wm_off (upd (upd d 0 x) 1 y) 2) n = wm_v (wm_off d 2) n := by rw [wm_off_ge (by omega), wm_off_ge (by omega)]
  rw [wm_v_01, wm_v_01 d, e, pk_us, pk_un (by decide), pk_us, h, wm_u_0]
  omega
theorem wm_even0 {d : Nat → Int32} {n x : Nat} (h : wm_v d (n + 2) = 2 * (x * 4294967296)) : d 0 = 0 ∧ wm_u (d 1) % 2 = 0 := by
  have h0 := wm_dig (f := d) (k := 0) (n := n + 2) (by omega)
  have h1 := wm_dig (f := d) (k := 1) (n := n + 2) (by omega)
  rw [h, Nat.pow_zero, Nat.div_one] at h0
  rw [h, Nat.pow_one] at h1
  exact ⟨wm_u_z.mp (by omega), by omega⟩
/-- what is left, with a sign, is below 0 as it should be -/
theorem wm_sg {tp : Int} {P X T Q : Nat} (hI : tp * (P : Int) + (X : Int) = (T : Int) - (Q : Int)) (hX : X < P) : (tp < 0 → T < Q) ∧ (0 ≤ tp → Q ≤ T) := by
  constructor
  · intro h
    have h1 : tp * (P : Int) ≤ -1 * (P : Int) := Int.mul_le_mul_of_nonneg_right (by omega) (by omega)
    omega
  · intro h
    have h1 : 0 ≤ tp * (P : Int) := Int.mul_nonneg h (by omega)
    omega
theorem wm_sg0 {tp : Int} {P X T Q : Nat} (hI : tp * (P : Int) + (X : Int) = (T : Int) - (Q : Int)) (h : 0 ≤ tp) (hT : T < Q + P) : tp = 0 ∧ X + Q = T := by
  have e : tp = 0 := by
    rcases Int.lt_or_le tp 1 with z | z
    · omega
    · have h1 : 1 * (P : Int) ≤ tp * (P : Int) := Int.mul_le_mul_of_nonneg_right z (by omega)
      omega
  refine ⟨e, ?_⟩
  rw [e, Int.zero_mul] at hI
  omega
theorem wm_sg_start {P X Y h b T Q : Nat} (hS : X + Q = Y + b * P) (hT : T = Y + h * P) : ((h : Int) - (b : Int)) * (P : Int) + (X : Int) = (T : Int) - (Q : Int) := by
  rw [Int.sub_mul]
  have e1 : ((h : Int)) * (P : Int) = ((h * P : Nat) : Int) := by simp
  have e2 : ((b : Int)) * (P : Int) = ((b * P : Nat) : Int) := by simp
  rw [e1, e2]
  omega
theorem wm_sg_step {tp : Int} {P X X2 c w D T : Nat} (hI : tp * (P : Int) + (X : Int) = (T : Int) - (((w + 1) * (D + (w + 1)) : Nat) : Int)) (hS : X2 + c * P = X + D + (2 * w + 1)) : (tp + (c : Int)) * (P : Int) + (X2 : Int) = (T : Int) - ((w * (D + w) : Nat) : Int) := by
  have e3 : (w + 1) * (D + (w + 1)) = w * (D + w) + D + 2 * w + 1 := by
    rw [Nat.add_mul, Nat.one_mul, Nat.mul_add, Nat.mul_add, Nat.mul_add, Nat.mul_one]
    omega
  rw [e3] at hI
  rw [Int.add_mul]
  have e2 : ((c : Int)) * (P : Int) = ((c * P : Nat) : Int) := by simp
  rw [e2]
  omega
theorem wm_rt_b {K s w : Nat} (hs : s < 4294967296 ^ (K + 1)) (hw : w < 4294967296) : (w + 1) * (2 * (s * 4294967296) + (w + 1)) ≤ w * (2 * (s * 4294967296) + w) + 4294967296 ^ (K + 3) := by
  have hp := wm_pp K
  have e3 : (w + 1) * (2 * (s * 4294967296) + (w + 1)) = w * (2 * (s * 4294967296) + w) + 2 * (s * 4294967296) + 2 * w + 1 := by
    rw [Nat.add_mul, Nat.one_mul, Nat.mul_add, Nat.mul_add, Nat.mul_add, Nat.mul_one]
    omega
  have ep1 : 4294967296 ^ (K + 1) = 4294967296 * 4294967296 ^ K := by rw [Nat.pow_succ, Nat.mul_comm]
  have ep3 : 4294967296 ^ (K + 3) = 4294967296 * 4294967296 * 4294967296 * 4294967296 ^ K := by rw [Nat.pow_add, Nat.mul_comm]
  rw [e3, ep3]
  rw [ep1] at hs
  omega
end
section
set_option maxHeartbeats 4000000 in
set_option maxRecDepth 100000 in
theorem lp_Root_nextWord {p : Program} {l : Launch} {e : Env} {s : State} {m : MethodId} {args : Array Value} {below : List Frame} {meth : Method} {c : Code} {Q : State → Prop} {D : va_G} {ad : Nat → Nat} {cA cR : ClassId} (hC : CallFix p m c b_Root_nextWord 11 s args lw_T R_Root) (hK : va_K D classes (wm_ty cA cR) s) (ln : Nat → Nat) (wd : Nat → Nat → Int32) (a0 K s0 : Nat) (hfit : 2 * a0 + K + 3 < 2050) (hD : wm_v (wm_off (wd 18) a0) (K + 3) = 2 * (s0 * 4294967296)) (g : Nat) (hg : g < 4294967296) (k2 : wm_v (wm_off (wd 17) (2 * a0)) (K + 4) < (g + 1) * (2 * (s0 * 4294967296) + (g + 1))) (h2 : ∀ w, w + 2 = g → w * (2 * (s0 * 4294967296) + w) ≤ wm_v (wm_off (wd 17) (2 * a0)) (K + 4))
    (hex : ∀ (w : Nat) (tp : Int) (f : Nat → Int32), (w ≤ g) → (tp * ((4294967296 ^ (K + 3) : Nat) : Int) + ((wm_v (wm_off f (2 * a0)) (K + 3) : Nat) : Int) = ((wm_v (wm_off (wd 17) (2 * a0)) (K + 4) : Nat) : Int) - ((w * (2 * (s0 * 4294967296) + w) : Nat) : Int)) → (0 ≤ tp) → (wm_v (wm_off (wd 17) (2 * a0)) (K + 4) < (w + 1) * (2 * (s0 * 4294967296) + (w + 1))) → (∀ k, (k < 2 * a0 ∨ 2 * a0 + (K + 3) ≤ k) → f k = wd 17 k) → ∀ (H : Heap) (locs : List Loc) (ls : Array Slot), wm_M D ad cA cR s (ln) (va_up wd 17 f) H locs → lv_has ls 11 [(0, .ref (ad (19 + 17))), (1, .ref (ad (19 + 18))), (2, .int (nI (a0))), (4, .int (nI (2 * a0 + (K + 3)))), (6, .long (lN (w))), (8, .long (lz_i (tp)))] → W p l e ({ frames := 3, cells := 0, slots := 0, locals := 84 }) s m args below meth c H locs 0 0 Q (F0 m 111 ls [])) :
    ∀ (n : Nat) (i : Nat) (w : Nat) (tp : Int) (f : Nat → Int32), (i ≤ 3) → (w + i = g) → (tp * ((4294967296 ^ (K + 3) : Nat) : Int) + ((wm_v (wm_off f (2 * a0)) (K + 3) : Nat) : Int) = ((wm_v (wm_off (wd 17) (2 * a0)) (K + 4) : Nat) : Int) - ((w * (2 * (s0 * 4294967296) + w) : Nat) : Int)) → (-8589934592 ≤ tp) → (tp ≤ 8589934592 + (i : Int) * 17179869184) → (i = 0 ∨ wm_v (wm_off (wd 17) (2 * a0)) (K + 4) < (w + 1) * (2 * (s0 * 4294967296) + (w + 1))) → (∀ k, (k < 2 * a0 ∨ 2 * a0 + (K + 3) ≤ k) → f k = wd 17 k) → 4 ≤ i + n → ∀ (H : Heap) (locs : List Loc) (ls : Array Slot), wm_M D ad cA cR s (ln) (va_up wd 17 f) H locs → lv_has ls 11 [(0, .ref (ad (19 + 17))), (1, .ref (ad (19 + 18))), (2, .int (nI (a0))), (4, .int (nI (2 * a0 + (K + 3)))), (5, .int (nI (K + 3))), (6, .long (lN (w))), (8, .long (lz_i (tp))), (10, .int (nI (i)))] → W p l e ({ frames := 3, cells := 0, slots := 0, locals := 84 }) s m args below meth c H locs 0 0 Q (F0 m 62 ls []) := by
  intro n
  induction n with
  | zero =>
    intro i w tp f hi3 hwi hI hb1 hb2 hfail hf hn
    exact absurd hn (by omega)
  | succ n ih =>
    intro i w tp f hi3 hwi hI hb1 hb2 hfail hf hn H locs ls hM hl
    have hX := wm_v_lt (wm_off f (2 * a0)) (K + 3)
    obtain ⟨sg1, sg2⟩ := wm_sg hI hX
    refine lv_iload hC.1 hC.2.1 d_Root_nextWord_62 (lv_at hl 7 rfl) ?_
    refine lv_iconst (v := nI 3) hC.1 hC.2.1 d_Root_nextWord_64 (by decide) ?_
    refine nv_icmp_ge (tgt := 111) hC (by omega) (by omega) d_Root_nextWord_65 (by decide) (fun hc => ?_) (fun hc => ?_)
    · rcases hfail with z | z
      · omega
      · exact absurd (h2 (w + 1) (by omega)) (Nat.not_le.mpr z)
    · refine lv_lload hC.1 hC.2.1 d_Root_nextWord_68 (lv_at hl 6 rfl) ?_
      refine lv_lconst (v := lN 0) hC.1 hC.2.1 d_Root_nextWord_70 (by decide) ?_
      refine W.lcmp hC.1 hC.2.1 d_Root_nextWord_71 ?_
      refine lv_if_ge (tgt := 111) hC.1 hC.2.1 d_Root_nextWord_72 (by decide) (fun hs => ?_) (fun hs => ?_)
      · rw [lz_ge0 (by omega) (by omega)] at hs
        exact hex w tp f (by omega) hI hs (by
        rcases hfail with z | z
        · rw [show w = g by omega]; exact k2
        · exact z) hf H locs ls hM (lv_sub hl [0, 1, 2, 3, 5, 6] rfl)
      · rw [lz_ge0 (by omega) (by omega)] at hs
        have hlt := sg1 (by omega)
        have hw1 : 1 ≤ w := by
          rcases Nat.eq_zero_or_pos w with z | z
          · rw [z, Nat.zero_mul] at hlt; exact absurd hlt (Nat.not_lt_zero _)
          · exact z
        have hi2 : i < 2 := by
          rcases Nat.lt_or_ge i 2 with z | z
          · exact z
          · exact absurd (h2 w (by omega)) (Nat.not_le.mpr hlt)
        obtain ⟨w1, rfl⟩ : ∃ z, w = z + 1 := ⟨w - 1, by omega⟩
        refine lv_lload hC.1 hC.2.1 d_Root_nextWord_75 (lv_at hl 5 rfl) ?_
        refine lv_lconst (v := lN 1) hC.1 hC.2.1 d_Root_nextWord_77 (by decide) ?_
        refine nv_lsub hC (by omega) d_Root_nextWord_78 ?_
        refine lv_lstore (lv' := [(6, .long (lN (w1))), (0, .ref (ad (19 + 17))), (1, .ref (ad (19 + 18))), (2, .int (nI (a0))), (4, .int (nI (2 * a0 + (K + 3)))), (5, .int (nI (K + 3))), (8, .long (lz_i (tp))), (10, .int (nI (i)))]) hC.1 hC.2.1 d_Root_nextWord_79 hl (by decide) rfl (fun ls hl => ?_)
        refine lv_lload hC.1 hC.2.1 d_Root_nextWord_81 (lv_at hl 6 rfl) ?_
        refine lv_aload_n hC.1 hC.2.1 d_Root_nextWord_83 rfl (lv_at hl 1 rfl) ?_
        refine lv_iconst (v := nI 2) hC.1 hC.2.1 d_Root_nextWord_84 (by decide) ?_
        refine lv_iload_n hC.1 hC.2.1 d_Root_nextWord_85 rfl (lv_at hl 3 rfl) ?_
        refine nv_imul hC d_Root_nextWord_86 ?_
        refine lv_aload_n hC.1 hC.2.1 d_Root_nextWord_87 rfl (lv_at hl 2 rfl) ?_
        refine lv_iload_n hC.1 hC.2.1 d_Root_nextWord_88 rfl (lv_at hl 3 rfl) ?_
        refine lv_iload hC.1 hC.2.1 d_Root_nextWord_89 (lv_at hl 5 rfl) ?_
        refine lv_ldc2 (v := lN 2) hC.1 hC.2.1 hC.2.2.2.1 (hC.2.2.2.2 _ kl_Root_68) d_Root_nextWord_91 ?_
        refine lv_lload hC.1 hC.2.1 d_Root_nextWord_94 (lv_at hl 0 rfl) ?_
        refine nv_lmul hC d_Root_nextWord_96 ?_
        refine lv_lconst (v := lN 1) hC.1 hC.2.1 d_Root_nextWord_97 (by decide) ?_
        refine nv_ladd hC d_Root_nextWord_98 ?_
        refine wm_callSl hC hK hM (As := [.ref (ad (19 + 17)), .int (nI (2 * a0)), .ref (ad (19 + 18)), .int (nI (a0)), .int (nI (K + 3)), .long (lN ((2 * w1) + 1))]) (rest := [.long (lz_i (tp))]) (c_Rows_addStretch l D ad cA cR _ ln (va_up wd 17 f) 17 18 (2 * a0) a0 (K + 3) (2 * w1 + 1) (by decide) (by decide) (by decide) (by omega) (by omega) (by omega)) kc_Rows_addStretch km_Root_70 ki_Rows ks_Rows_addStretch kd_Rows_addStretch ⟨rfl, rfl⟩ ⟨Nat.le_of_ble_eq_true rfl, Nat.le_of_ble_eq_true rfl⟩ rfl hl.1 (Nat.le_of_ble_eq_true rfl) d_Root_nextWord_99 (fun r u H locs hp hM => ?_)
        obtain ⟨c2, f2, rfl, rfl, hS2, hc2, hf2⟩ := hp
        rw [va_up_self] at hS2 hf2
        rw [va_up_ne _ _ (by decide), hD] at hS2
        have hI2 := wm_sg_step hI hS2
        have hM : wm_M D ad cA cR s (ln) (va_up wd 17 f2) H locs := by
          rw [wm_uu] at hM; exact hM
        refine nv_topl (y := lz_i ((c2 : Int))) (lz_n c2) ?_
        refine nz_ladd hC d_Root_nextWord_102 ?_
        refine lv_lstore (lv' := [(8, .long (lz_i (tp + ((c2 : Int))))), (6, .long (lN (w1))), (0, .ref (ad (19 + 17))), (1, .ref (ad (19 + 18))), (2, .int (nI (a0))), (4, .int (nI (2 * a0 + (K + 3)))), (5, .int (nI (K + 3))), (10, .int (nI (i)))]) hC.1 hC.2.1 d_Root_nextWord_103 hl (by decide) rfl (fun ls hl => ?_)
        refine lv_iinc (v := nI (i + 1)) (lv' := [(10, .int (nI (i + 1))), (8, .long (lz_i (tp + ((c2 : Int))))), (6, .long (lN (w1))), (0, .ref (ad (19 + 17))), (1, .ref (ad (19 + 18))), (2, .int (nI (a0))), (4, .int (nI (2 * a0 + (K + 3)))), (5, .int (nI (K + 3)))]) hC.1 hC.2.1 d_Root_nextWord_105 hl (k := 7) rfl (nv_inc _) (by decide) rfl (fun ls hl => ?_)
        refine lv_goto (tgt := 62) hC.1 hC.2.1 d_Root_nextWord_108 (by decide) ?_
        exact ih (i + 1) w1 (tp + (c2 : Int)) f2 (by omega) (by omega) hI2 (by omega) (by omega) (Or.inr hlt) (fun k hk => by rw [hf2 k (by omega)]; exact hf k hk) (by omega) H locs ls hM (lv_sub hl [3, 4, 5, 6, 7, 2, 1, 0] rfl)
set_option maxHeartbeats 4000000 in
set_option maxRecDepth 100000 in
theorem c_Root_nextWord (l : Launch) (D : va_G) (ad : Nat → Nat) (cA cR : ClassId) (sz : Nat) (ln : Nat → Nat) (wd : Nat → Nat → Int32) (a0 K cnt s0 : Nat) (hcnt : cnt = a0 + (K + 2)) (hfit : 2 * a0 + K + 3 < 2050) (hD : wm_v (wm_off (wd 18) a0) (K + 3) = 2 * (s0 * 4294967296)) (hs1 : 4294967296 ^ (K + 1) ≤ 2 * s0) (hs2 : s0 < 4294967296 ^ (K + 1)) (hT : wm_v (wm_off (wd 17) (2 * a0)) (K + 4) < (2 * s0 + 1) * (4294967296 * 4294967296)) : Met l y_Root_nextWord (Cond.code y_Root_nextWord b_Root_nextWord 11 none :: lw_T) ({ frames := 3, cells := 0, slots := 0, locals := 84 }) (va_Pc [.ref (ad (19 + 17)), .ref (ad (19 + 18)), .int (nI (a0)), .int (nI (cnt))] (wm_B D ad cA cR sz ln wd)) (va_Qv (fun u : wm_St => ∃ (w : Nat) (f g : Nat → Int32), u = (ln, va_up (va_up wd 17 f) 18 g) ∧ w < 4294967296 ∧ wm_v (wm_off f (2 * a0)) (K + 4) + w * (2 * (s0 * 4294967296) + w) = wm_v (wm_off (wd 17) (2 * a0)) (K + 4) ∧ wm_v (wm_off (wd 17) (2 * a0)) (K + 4) < (w + 1) * (2 * (s0 * 4294967296) + (w + 1)) ∧ wm_v (wm_off g a0) (K + 3) = 2 * (s0 * 4294967296 + w) ∧ (∀ k, (k < 2 * a0 ∨ 2 * a0 + (K + 3) < k) → f k = wd 17 k) ∧ ∀ k, (k < a0 ∨ a0 + (K + 2) < k) → g k = wd 18 k) (wm_E D ad cA cR sz) (wm_A ad sz)) 0 0 (wm_A ad sz) := by
  refine wm_met l (by decide) (Nat.le_of_ble_eq_true rfl) ?_
  intro p e s m below meth c ls hsz hC hK hr hlk hM hl
  subst hsz
  have hC : CallFix p m c b_Root_nextWord 11 s _ lw_T R_Root := hC
  have hl : lv_has ls 11 [(0, .ref (ad (19 + 17))), (1, .ref (ad (19 + 18))), (2, .int (nI (a0))), (3, .int (nI (cnt)))] := hl
  subst hcnt
  obtain ⟨ht, hh, hgg⟩ := wm_rg (t := wm_off (wd 17) (2 * a0)) (d := wm_off (wd 18) a0) (g := wm_gs ((wm_hv (wm_u ((wm_off (wd 17) (2 * a0)) (K + 3))) (wm_u ((wm_off (wd 17) (2 * a0)) (K + 2))) * 2 ^ 32 + wm_hv (wm_u ((wm_off (wd 17) (2 * a0)) (K + 2))) (wm_u ((wm_off (wd 17) (2 * a0)) (K + 1)))) * 4294967296 + wm_hv (wm_u ((wm_off (wd 17) (2 * a0)) (K + 1))) (wm_u ((wm_off (wd 17) (2 * a0)) K))) (wm_hv (wm_u ((wm_off (wd 18) a0) (K + 2))) (wm_u ((wm_off (wd 18) a0) (K + 1))) * 4294967296 + wm_hv (wm_u ((wm_off (wd 18) a0) (K + 1))) (wm_u ((wm_off (wd 18) a0) K)))) hD hs1 hs2 hT
  obtain ⟨k1, k2⟩ := hgg rfl
  obtain ⟨g, hg⟩ : ∃ z, z = wm_gs ((wm_hv (wm_u ((wm_off (wd 17) (2 * a0)) (K + 3))) (wm_u ((wm_off (wd 17) (2 * a0)) (K + 2))) * 2 ^ 32 + wm_hv (wm_u ((wm_off (wd 17) (2 * a0)) (K + 2))) (wm_u ((wm_off (wd 17) (2 * a0)) (K + 1)))) * 4294967296 + wm_hv (wm_u ((wm_off (wd 17) (2 * a0)) (K + 1))) (wm_u ((wm_off (wd 17) (2 * a0)) K))) (wm_hv (wm_u ((wm_off (wd 18) a0) (K + 2))) (wm_u ((wm_off (wd 18) a0) (K + 1))) * 4294967296 + wm_hv (wm_u ((wm_off (wd 18) a0) (K + 1))) (wm_u ((wm_off (wd 18) a0) K))) := ⟨_, rfl⟩
  have hg4 : g < 4294967296 := by rw [hg]; exact wm_gs_lt _ _
  rw [← hg] at k1 k2
  obtain ⟨z0, z1⟩ := wm_even0 (n := K + 1) hD
  have hd0 : wd 18 a0 = 0 := z0
  refine lv_iload_n hC.1 hC.2.1 d_Root_nextWord_0 rfl (lv_at hl 2 rfl) ?_
  refine lv_iload_n hC.1 hC.2.1 d_Root_nextWord_1 rfl (lv_at hl 3 rfl) ?_
  refine nv_iadd hC d_Root_nextWord_2 ?_
  refine lv_iconst (v := nI 1) hC.1 hC.2.1 d_Root_nextWord_3 (by decide) ?_
  refine nv_iadd hC d_Root_nextWord_4 ?_
  refine nv_top (y := nI (2 * a0 + (K + 3))) (congrArg nI (by omega)) ?_
  refine lv_istore (lv' := [(4, .int (nI (2 * a0 + (K + 3)))), (0, .ref (ad (19 + 17))), (1, .ref (ad (19 + 18))), (2, .int (nI (a0))), (3, .int (nI (a0 + (K + 2))))]) hC.1 hC.2.1 d_Root_nextWord_5 hl (by decide) rfl (fun ls hl => ?_)
  refine lv_iload_n hC.1 hC.2.1 d_Root_nextWord_7 rfl (lv_at hl 4 rfl) ?_
  refine lv_iload_n hC.1 hC.2.1 d_Root_nextWord_8 rfl (lv_at hl 3 rfl) ?_
  refine nv_isub hC (by omega) d_Root_nextWord_9 ?_
  refine lv_iconst (v := nI 1) hC.1 hC.2.1 d_Root_nextWord_10 (by decide) ?_
  refine nv_iadd hC d_Root_nextWord_11 ?_
  refine nv_top (y := nI (K + 3)) (congrArg nI (by omega)) ?_
  refine lv_istore (lv' := [(5, .int (nI (K + 3))), (4, .int (nI (2 * a0 + (K + 3)))), (0, .ref (ad (19 + 17))), (1, .ref (ad (19 + 18))), (2, .int (nI (a0))), (3, .int (nI (a0 + (K + 2))))]) hC.1 hC.2.1 d_Root_nextWord_12 hl (by decide) rfl (fun ls hl => ?_)
  refine lv_aload_n hC.1 hC.2.1 d_Root_nextWord_14 rfl (lv_at hl 2 rfl) ?_
  refine lv_aload_n hC.1 hC.2.1 d_Root_nextWord_15 rfl (lv_at hl 3 rfl) ?_
  refine lv_iload hC.1 hC.2.1 d_Root_nextWord_16 (lv_at hl 1 rfl) ?_
  refine lv_iload_n hC.1 hC.2.1 d_Root_nextWord_18 rfl (lv_at hl 5 rfl) ?_
  refine wm_callSl hC hK hM (As := [.ref (ad (19 + 17)), .ref (ad (19 + 18)), .int (nI (2 * a0 + (K + 3))), .int (nI (a0 + (K + 2)))]) (rest := []) (c_Root_guessWord l D ad cA cR _ ln wd 17 18 (2 * a0 + (K + 3)) (a0 + (K + 2)) (by decide) (by decide) (by omega) (by omega) (by omega) (by omega) ht hh) kc_Root_guessWord km_Root_60 ki_Root ks_Root_guessWord kd_Root_guessWord ⟨rfl, rfl⟩ ⟨Nat.le_of_ble_eq_true rfl, Nat.le_of_ble_eq_true rfl⟩ rfl hl.1 (Nat.le_of_ble_eq_true rfl) d_Root_nextWord_19 (fun r u H locs hp hM => ?_)
  obtain ⟨hr1, rfl⟩ := hp
  have hr1 : r = lN g := by rw [hg]; exact hr1
  subst hr1
  have hM : wm_M D ad cA cR s (ln) (wd) H locs := by
    exact hM
  have hM : wm_M D ad cA cR s (ln) (va_up wd 18 (wd 18)) H locs := by
    rw [wm_eta]; exact hM
  refine lv_lstore (lv' := [(6, .long (lN (g))), (5, .int (nI (K + 3))), (4, .int (nI (2 * a0 + (K + 3)))), (0, .ref (ad (19 + 17))), (1, .ref (ad (19 + 18))), (2, .int (nI (a0))), (3, .int (nI (a0 + (K + 2))))]) hC.1 hC.2.1 d_Root_nextWord_22 hl (by decide) rfl (fun ls hl => ?_)
  refine lv_aload_n hC.1 hC.2.1 d_Root_nextWord_24 rfl (lv_at hl 4 rfl) ?_
  refine lv_iload_n hC.1 hC.2.1 d_Root_nextWord_25 rfl (lv_at hl 5 rfl) ?_
  refine lv_lload hC.1 hC.2.1 d_Root_nextWord_26 (lv_at hl 0 rfl) ?_
  refine nv_l2i hC d_Root_nextWord_28 ?_
  refine wm_ast_s hC hK hM (k := a0) (by decide) (by omega) d_Root_nextWord_29 (fun H locs hM => ?_)
  refine lv_aload_n hC.1 hC.2.1 d_Root_nextWord_30 rfl (lv_at hl 3 rfl) ?_
  refine lv_iload hC.1 hC.2.1 d_Root_nextWord_31 (lv_at hl 2 rfl) ?_
  refine wm_ald_o hC hK hM (j := 17) (k := 2 * a0 + (K + 3)) (by decide) (by omega) (by omega) d_Root_nextWord_33 ?_
  refine nv_low hC kl_Root_44 d_Root_nextWord_34 d_Root_nextWord_35 d_Root_nextWord_38 ?_
  refine lv_aload_n hC.1 hC.2.1 d_Root_nextWord_39 rfl (lv_at hl 3 rfl) ?_
  refine lv_iconst (v := nI 2) hC.1 hC.2.1 d_Root_nextWord_40 (by decide) ?_
  refine lv_iload_n hC.1 hC.2.1 d_Root_nextWord_41 rfl (lv_at hl 5 rfl) ?_
  refine nv_imul hC d_Root_nextWord_42 ?_
  refine lv_aload_n hC.1 hC.2.1 d_Root_nextWord_43 rfl (lv_at hl 4 rfl) ?_
  refine lv_iload_n hC.1 hC.2.1 d_Root_nextWord_44 rfl (lv_at hl 5 rfl) ?_
  refine lv_iload hC.1 hC.2.1 d_Root_nextWord_45 (lv_at hl 1 rfl) ?_
  refine lv_lload hC.1 hC.2.1 d_Root_nextWord_47 (lv_at hl 0 rfl) ?_
  refine wm_callSl hC hK hM (As := [.ref (ad (19 + 17)), .int (nI (2 * a0)), .ref (ad (19 + 18)), .int (nI (a0)), .int (nI (K + 3)), .long (lN (g))]) (rest := [.long (lN (wm_u (wd 17 (2 * a0 + (K + 3)))))]) (c_Rows_takeMultiple l D ad cA cR _ ln (va_up wd 18 (upd (wd 18) a0 (nI (g)))) 17 18 (2 * a0) a0 (K + 3) g (by decide) (by decide) (by decide) hg4 (by omega) (by omega)) kc_Rows_takeMultiple km_Root_64 ki_Rows ks_Rows_takeMultiple kd_Rows_takeMultiple ⟨rfl, rfl⟩ ⟨Nat.le_of_ble_eq_true rfl, Nat.le_of_ble_eq_true rfl⟩ rfl hl.1 (Nat.le_of_ble_eq_true rfl) d_Root_nextWord_49 (fun r u H locs hp hM => ?_)
  obtain ⟨cy, f, rfl, rfl, hS, hb, hf⟩ := hp
  rw [va_up_self, va_up_ne _ _ (by decide)] at hS
  rw [va_up_ne _ _ (by decide)] at hf
  rw [show wm_off (upd (wd 18) a0 (nI g)) a0 = upd (wm_off (wd 18) a0) 0 (nI g) from wm_off_upd (wd 18) a0 0 (nI g), wm_v_set0 (n := K + 2) z0, wm_un' hg4, hD] at hS
  have hTs := wm_v_s (wm_off (wd 17) (2 * a0)) (K + 3)
  have hI := wm_sg_start hS hTs
  have hh1 := wm_u_lt (wd 17 (2 * a0 + (K + 3)))
  obtain ⟨tp, htp⟩ : ∃ z : Int, z = ((wm_u (wd 17 (2 * a0 + (K + 3))) : Nat) : Int) - ((cy : Nat) : Int) := ⟨_, rfl⟩
  have hI : tp * ((4294967296 ^ (K + 3) : Nat) : Int) + ((wm_v (wm_off f (2 * a0)) (K + 3) : Nat) : Int) = ((wm_v (wm_off (wd 17) (2 * a0)) (K + 4) : Nat) : Int) - ((g * (2 * (s0 * 4294967296) + g) : Nat) : Int) := by rw [htp]; exact hI
  have hM : wm_M D ad cA cR s (ln) (va_up (va_up wd 18 (upd (wd 18) a0 (nI g))) 17 f) H locs := by
    exact hM
  refine nz_lsubn hC d_Root_nextWord_52 ?_
  refine nv_topl (y := lz_i (tp)) (by rw [htp]) ?_
  refine lv_lstore (lv' := [(8, .long (lz_i (tp))), (6, .long (lN (g))), (5, .int (nI (K + 3))), (4, .int (nI (2 * a0 + (K + 3)))), (0, .ref (ad (19 + 17))), (1, .ref (ad (19 + 18))), (2, .int (nI (a0))), (3, .int (nI (a0 + (K + 2))))]) hC.1 hC.2.1 d_Root_nextWord_53 hl (by decide) rfl (fun ls hl => ?_)
  refine lv_aload_n hC.1 hC.2.1 d_Root_nextWord_55 rfl (lv_at hl 5 rfl) ?_
  refine lv_iload_n hC.1 hC.2.1 d_Root_nextWord_56 rfl (lv_at hl 6 rfl) ?_
  refine lv_iconst (v := nI 0) hC.1 hC.2.1 d_Root_nextWord_57 (by decide) ?_
  refine wm_ast hC hK hM (j := 18) (k := a0) (by decide) (by omega) d_Root_nextWord_58 (fun H locs hM => ?_)
  have hback : upd (upd (wd 18) a0 (nI g)) a0 (nI 0) = wd 18 := by
    funext k
    by_cases e : k = a0
    · rw [e, pk_us, hd0]; rfl
    · rw [pk_un e, pk_un e]
  have hM : wm_M D ad cA cR s (ln) (va_up wd 17 f) H locs := by
    rw [va_up_ne _ _ (by decide), va_up_self, wm_comm _ (by decide), wm_uu, hback, wm_eta] at hM; exact hM
  refine lv_iconst (v := nI 0) hC.1 hC.2.1 d_Root_nextWord_59 (by decide) ?_
  refine lv_istore (lv' := [(10, .int (nI (0))), (8, .long (lz_i (tp))), (6, .long (lN (g))), (5, .int (nI (K + 3))), (4, .int (nI (2 * a0 + (K + 3)))), (0, .ref (ad (19 + 17))), (1, .ref (ad (19 + 18))), (2, .int (nI (a0))), (3, .int (nI (a0 + (K + 2))))]) hC.1 hC.2.1 d_Root_nextWord_60 hl (by decide) rfl (fun ls hl => ?_)
  refine lp_Root_nextWord hC hK ln wd a0 K s0 hfit hD g hg4 k2 (fun w hw => ?_) (fun w tp f hwg hI h0 hfail hf H locs ls hM hl => ?_) 4 0 g tp f (by decide) rfl hI (by omega) (by omega) (Or.inl rfl) hf (by decide) _ _ _ hM (lv_sub hl [5, 6, 7, 4, 3, 2, 1, 0] rfl)
  · have := wm_rt_2 (s := s0) (T := wm_v (wm_off (wd 17) (2 * a0)) (K + 4)) (g := w) (b := 4294967296) (Nat.le_trans (by rw [Nat.pow_succ]; have := wm_pp K; omega) hs1) (by omega) (by rw [hw]; exact k1)
    rw [Nat.mul_assoc] at this
    exact this
  · have hPb : (w + 1) * (2 * (s0 * 4294967296) + (w + 1)) ≤ w * (2 * (s0 * 4294967296) + w) + 4294967296 ^ (K + 3) := wm_rt_b (K := K) hs2 (by omega)
    obtain ⟨rfl, hX⟩ := wm_sg0 hI h0 (Nat.lt_of_lt_of_le hfail hPb)
    refine lv_aload_n hC.1 hC.2.1 d_Root_nextWord_111 rfl (lv_at hl 0 rfl) ?_
    refine lv_iload hC.1 hC.2.1 d_Root_nextWord_112 (lv_at hl 3 rfl) ?_
    refine lv_lload hC.1 hC.2.1 d_Root_nextWord_114 (lv_at hl 5 rfl) ?_
    refine nz_l2i hC d_Root_nextWord_116 ?_
    refine wm_ast_s hC hK hM (k := 2 * a0 + (K + 3)) (by decide) (by omega) d_Root_nextWord_117 (fun H locs hM => ?_)
    refine lv_aload_n hC.1 hC.2.1 d_Root_nextWord_118 rfl (lv_at hl 1 rfl) ?_
    refine lv_iload_n hC.1 hC.2.1 d_Root_nextWord_119 rfl (lv_at hl 2 rfl) ?_
    refine lv_lload hC.1 hC.2.1 d_Root_nextWord_120 (lv_at hl 4 rfl) ?_
    refine wm_callSv hC hK hM (As := [.ref (ad (19 + 18)), .int (nI (a0)), .long (lN (w))]) (rest := []) (c_Root_putWord l D ad cA cR _ ln (va_up wd 17 (upd f (2 * a0 + (K + 3)) (Int32.ofInt (0)))) 18 a0 w (by decide) (by omega) (by omega) (by rw [va_up_ne _ _ (by decide)]; exact z1)) kc_Root_putWord km_Root_50 ki_Root ks_Root_putWord kd_Root_putWord ⟨rfl, rfl⟩ ⟨Nat.le_of_ble_eq_true rfl, Nat.le_of_ble_eq_true rfl⟩ rfl hl.1 (Nat.le_of_ble_eq_true rfl) d_Root_nextWord_122 (fun u H locs hp hM => ?_)
    rw [va_up_ne _ _ (by decide)] at hp
    refine wm_vret hC hK hM hr hlk ⟨w, _, _, hp, by omega, ?_, hfail, ?_, ?_, ?_⟩ d_Root_nextWord_125
    · rw [wm_off_upd, show wm_v (upd (wm_off f (2 * a0)) (K + 3) (Int32.ofInt 0)) (K + 4) = wm_v (upd (wm_off f (2 * a0)) (K + 3) (Int32.ofInt 0)) (K + 3 + 1) from rfl, wm_v_upds, show wm_u (Int32.ofInt 0) = 0 by decide, Nat.zero_mul, Nat.add_zero]
      exact hX
    · rw [show wm_off (upd (upd (wd 18) a0 (nI (w * 2 ^ 1))) (a0 + 1) (nI (wm_u (wd 18 (a0 + 1)) + w / 2 ^ 31))) a0 = upd (upd (wm_off (wd 18) a0) 0 (nI (w * 2 ^ 1))) 1 (nI (wm_u (wd 18 (a0 + 1)) + w / 2 ^ 31)) from by rw [wm_off_upd, show upd (wd 18) a0 (nI (w * 2 ^ 1)) = upd (wd 18) (a0 + 0) (nI (w * 2 ^ 1)) from rfl, wm_off_upd]]
      have e := wm_v_set01 (n := K + 1) (x := nI (w * 2 ^ 1)) (y := nI (wm_u (wd 18 (a0 + 1)) + w / 2 ^ 31)) z0
      have hu := wm_u_lt (wd 18 (a0 + 1))
      have z1' : wm_u (wd 18 (a0 + 1)) % 2 = 0 := z1
      rw [wm_un, wm_un' (n := wm_u (wd 18 (a0 + 1)) + w / 2 ^ 31) (by omega), show wm_v (wm_off (wd 18) a0) (K + 1 + 2) = 2 * (s0 * 4294967296) from hD, show wm_u ((wm_off (wd 18) a0) 1) = wm_u (wd 18 (a0 + 1)) from rfl] at e
      rw [show K + 3 = K + 1 + 2 from rfl]
      omega
    · intro k hk
      rw [pk_un (by omega), hf k (by omega)]
    · intro k hk
      rw [pk_un (by omega), pk_un (by omega)]
end
section
/-- a row whose number is a multiple of B^y -/
theorem wm_mult {f : Nat → Int32} {y n Z : Nat} (h : wm_v f (y + n) = Z * 4294967296 ^ y) : wm_v f y = 0 ∧ wm_v (wm_off f y) n = Z := by
  have e := wm_v_off f y n
  have b := wm_v_lt f y
  rw [h, Nat.add_comm, Nat.mul_comm (4294967296 ^ y)] at e
  obtain ⟨e1, e2⟩ := wm_du (h := Z) (b := wm_v (wm_off f y) n) (P := 4294967296 ^ y) (X := 0) (Z := wm_v f y) (wm_pp y) b (by omega)
  exact ⟨e2.symm, e1.symm⟩
/-- the root's rows after rounds: x words are still to come, s is found -/
def wm_J (A cnt x s : Nat) (fl fd : Nat → Int32) : Prop := s * s * 4294967296 ^ (2 * x) + wm_v fl 2050 = A ∧ wm_v fl 2050 < (2 * s + 1) * 4294967296 ^ (2 * x) ∧ wm_v fd 2050 = 2 * s * 4294967296 ^ x ∧ 4294967296 ^ (cnt - x) ≤ 2 * s ∧ s < 4294967296 ^ (cnt - x)
set_option maxRecDepth 100000 in
theorem wm_J_pre {A K y s : Nat} {fl fd : Nat → Int32} (h : wm_J A (y + (K + 2)) (y + 1) s fl fd) (hfit : 2 * y + K + 3 < 2050) : wm_v (wm_off fd y) (K + 3) = 2 * (s * 4294967296) ∧ 4294967296 ^ (K + 1) ≤ 2 * s ∧ s < 4294967296 ^ (K + 1) ∧ wm_v (wm_off fl (2 * y)) (K + 4) < (2 * s + 1) * (4294967296 * 4294967296) ∧ wm_v fl 2050 = wm_v fl (2 * y) + 4294967296 ^ (2 * y) * wm_v (wm_off fl (2 * y)) (K + 4) ∧ (∀ k, 2 * y + (K + 3) < k → k < 2050 → fl k = 0) ∧ wm_v fd y = 0 ∧ ∀ k, y + (K + 2) < k → k < 2050 → fd k = 0 := by
  obtain ⟨h1, h2, h3, h4, h5⟩ := h
  rw [show y + (K + 2) - (y + 1) = K + 1 by omega] at h4 h5
  have hp2 := wm_pp (2 * y)
  have eK : 4294967296 ^ (K + 3) = 4294967296 ^ (K + 1) * (4294967296 * 4294967296) := by rw [show K + 3 = K + 1 + 2 from rfl, Nat.pow_add]
  have m1 : wm_v fd (y + (2050 - y)) = (2 * (s * 4294967296)) * 4294967296 ^ y := by
    rw [show y + (2050 - y) = 2050 by omega, h3, Nat.pow_succ]
    rw [← Nat.mul_assoc, ← Nat.mul_assoc, Nat.mul_right_comm]
  obtain ⟨a1, a2⟩ := wm_mult m1
  have b1 : wm_v (wm_off fd y) (2050 - y) < 4294967296 ^ (K + 3) := by rw [a2, eK]; omega
  obtain ⟨c1, c2⟩ := wm_small b1 (show K + 3 ≤ 2050 - y by omega)
  have e2 : (2 * s + 1) * 4294967296 ^ (2 * (y + 1)) = 4294967296 ^ (2 * y) * ((2 * s + 1) * (4294967296 * 4294967296)) := by
    rw [show 2 * (y + 1) = 2 * y + 2 by omega, Nat.pow_add, Nat.mul_left_comm]
  rw [e2] at h2
  have e3 := wm_v_off fl (2 * y) (2050 - 2 * y)
  rw [show 2 * y + (2050 - 2 * y) = 2050 by omega] at e3
  have b2 : wm_v (wm_off fl (2 * y)) (2050 - 2 * y) < (2 * s + 1) * (4294967296 * 4294967296) := by
    have h6 : 4294967296 ^ (2 * y) * wm_v (wm_off fl (2 * y)) (2050 - 2 * y) < 4294967296 ^ (2 * y) * ((2 * s + 1) * (4294967296 * 4294967296)) := by omega
    exact Nat.lt_of_mul_lt_mul_left h6
  have eK4 : 4294967296 ^ (K + 4) = 4294967296 ^ (K + 1) * 4294967296 * (4294967296 * 4294967296) := by rw [show K + 4 = K + 1 + 1 + 2 from rfl, Nat.pow_add, Nat.pow_succ]
  have hs3 : 2 * s + 1 ≤ 4294967296 ^ (K + 1) * 4294967296 := by
    generalize 4294967296 ^ (K + 1) = S at h5
    omega
  have b3 : wm_v (wm_off fl (2 * y)) (2050 - 2 * y) < 4294967296 ^ (K + 4) := by
    rw [eK4]
    exact Nat.lt_of_lt_of_le b2 (Nat.mul_le_mul_right _ hs3)
  obtain ⟨d1, d2⟩ := wm_small b3 (show K + 4 ≤ 2050 - 2 * y by omega)
  refine ⟨by rw [← c1, a2], h4, h5, by rw [← d1]; exact b2, by rw [← d1]; exact e3, fun k k1 k2 => ?_, a1, fun k k1 k2 => ?_⟩
  · have := d2 (k - 2 * y) (by omega) (by omega)
    have e : wm_off fl (2 * y) (k - 2 * y) = fl k := by
      show fl (2 * y + (k - 2 * y)) = fl k
      rw [Nat.add_sub_cancel' (by omega)]
    rw [← e, this]
  · have := c2 (k - y) (by omega) (by omega)
    have e : wm_off fd y (k - y) = fd k := by
      show fd (y + (k - y)) = fd k
      rw [Nat.add_sub_cancel' (by omega)]
    rw [← e, this]
set_option maxRecDepth 100000 in
theorem wm_J_step {A K y s w : Nat} {fl fd f g : Nat → Int32} (h : wm_J A (y + (K + 2)) (y + 1) s fl fd) (hfit : 2 * y + K + 3 < 2050) (hw : w < 4294967296)
    (e1 : wm_v (wm_off f (2 * y)) (K + 4) + w * (2 * (s * 4294967296) + w) = wm_v (wm_off fl (2 * y)) (K + 4)) (e2 : wm_v (wm_off fl (2 * y)) (K + 4) < (w + 1) * (2 * (s * 4294967296) + (w + 1))) (e3 : wm_v (wm_off g y) (K + 3) = 2 * (s * 4294967296 + w))
    (hf : ∀ k, (k < 2 * y ∨ 2 * y + (K + 3) < k) → f k = fl k) (hg : ∀ k, (k < y ∨ y + (K + 2) < k) → g k = fd k) : wm_J A (y + (K + 2)) y (s * 4294967296 + w) f g := by
  obtain ⟨p1, p2, p3, p4, p5, p6, p7, p8⟩ := wm_J_pre h hfit
  obtain ⟨h1, -, -, -, -⟩ := h
  have hp2 := wm_pp (2 * y)
  have q1 : wm_v f 2050 = wm_v f (2 * y + (K + 4)) := wm_v_z' (by omega) (fun k k1 k2 => by rw [hf k (Or.inr (by omega))]; exact p6 k (by omega) k2)
  have q2 : wm_v f (2 * y) = wm_v fl (2 * y) := wm_v_congr (fun k hk => hf k (Or.inl hk))
  rw [wm_v_off, q2] at q1
  have q3 : wm_v g 2050 = wm_v g (y + (K + 3)) := wm_v_z' (by omega) (fun k k1 k2 => by rw [hg k (Or.inr (by omega))]; exact p8 k (by omega) k2)
  have q4 : wm_v g y = 0 := by rw [wm_v_congr (g := fd) (fun k hk => hg k (Or.inl hk))]; exact p7
  rw [wm_v_off, q4, Nat.zero_add, e3] at q3
  have hb := wm_v_lt fl (2 * y)
  obtain ⟨r1, r2⟩ := wm_rt_ok (s := s) (R := 0) (q := wm_v (wm_off fl (2 * y)) (K + 4)) (w := w) (T := wm_v (wm_off fl (2 * y)) (K + 4)) (b := 4294967296) (by omega) (by rw [Nat.mul_assoc]; omega) (by rw [Nat.mul_assoc]; exact e2)
  rw [Nat.mul_assoc 2 s, Nat.add_zero (s * s)] at r1
  rw [Nat.mul_assoc 2 s] at r2
  generalize hT : wm_v (wm_off fl (2 * y)) (K + 4) = T at *
  generalize hQ : w * (2 * (s * 4294967296) + w) = Q at *
  have eTQ : T - Q = wm_v (wm_off f (2 * y)) (K + 4) := by omega
  rw [eTQ] at r1 r2
  generalize hZ : wm_v (wm_off f (2 * y)) (K + 4) = Z at *
  refine ⟨?_, ?_, ?_, ?_, ?_⟩
  · have e4 : ((s * 4294967296 + w) * (s * 4294967296 + w) + Z) * 4294967296 ^ (2 * y) = (s * s * 4294967296 * 4294967296 + T) * 4294967296 ^ (2 * y) := by rw [r1]
    rw [Nat.add_mul _ Z, Nat.add_mul _ T] at e4
    have e5 : s * s * 4294967296 ^ (2 * (y + 1)) = s * s * 4294967296 * 4294967296 * 4294967296 ^ (2 * y) := by
      rw [show 2 * (y + 1) = 2 + 2 * y by omega, Nat.pow_add, ← Nat.mul_assoc, show (4294967296 : Nat) ^ 2 = 4294967296 * 4294967296 from rfl, ← Nat.mul_assoc]
    rw [q1, ← h1, e5, p5, Nat.mul_comm (4294967296 ^ (2 * y)) T, Nat.mul_comm (4294967296 ^ (2 * y)) Z]
    omega
  · have e6 : (Z + 1) * 4294967296 ^ (2 * y) ≤ (2 * (s * 4294967296 + w) + 1) * 4294967296 ^ (2 * y) := Nat.mul_le_mul_right _ (by omega)
    rw [Nat.add_mul, Nat.one_mul] at e6
    rw [q1, Nat.mul_comm (4294967296 ^ (2 * y)) Z]
    omega
  · rw [q3, Nat.mul_comm]
  · rw [show y + (K + 2) - y = K + 1 + 1 by omega, Nat.pow_succ]
    omega
  · rw [show y + (K + 2) - y = K + 1 + 1 by omega, Nat.pow_succ]
    omega
end
section
theorem wm_dbl {w : Nat} (hw : w < 4294967296) : (0 + w / 2 ^ 31) % 4294967296 * 4294967296 + w * 2 ^ 1 % 4294967296 = 2 * w := by omega
/-- the first word of a root, out of the highest pair -/
theorem wm_J_first {A c w : Nat} {fl fd : Nat → Int32} {n : Nat} (hr : wm_rep fl n A) (hA : A < 4294967296 ^ (2 * (c + 1))) (hA2 : 4294967296 ^ (2 * (c + 1)) ≤ 4 * A) (hz : ∀ k, k < 2050 → fd k = 0) (hc : 2 * c + 1 < 2050)
    (h1 : w * w ≤ wm_u (fl (2 * c + 1)) * 4294967296 + wm_u (fl (2 * c))) (h2 : wm_u (fl (2 * c + 1)) * 4294967296 + wm_u (fl (2 * c)) < (w + 1) * (w + 1)) (hw : w < 4294967296) :
    wm_J A (c + 1) c w (upd (upd fl (2 * c) (nI (wm_u (fl (2 * c + 1)) * 4294967296 + wm_u (fl (2 * c)) - w * w))) (2 * c + 1) (nI ((wm_u (fl (2 * c + 1)) * 4294967296 + wm_u (fl (2 * c)) - w * w) / 4294967296))) (upd (upd fd c (nI (w * 2 ^ 1))) (c + 1) (nI (wm_u (fd (c + 1)) + w / 2 ^ 31))) := by
  have hn : n ≤ 2 * (c + 1) := wm_rep_le hr hA
  have e0 : wm_v fl (2 * c + 2) = A := wm_rep_v hr (by omega) (by omega)
  rw [wm_v_2] at e0
  have hlow := wm_v_lt fl (2 * c)
  have hp := wm_pp (2 * c)
  have u1 := wm_u_lt (fl (2 * c + 1))
  have u0 := wm_u_lt (fl (2 * c))
  generalize hpr : wm_u (fl (2 * c + 1)) * 4294967296 + wm_u (fl (2 * c)) = pr at *
  have e9 : (w + 1) * (w + 1) = w * w + 2 * w + 1 := by rw [Nat.add_mul, Nat.one_mul, Nat.mul_add, Nat.mul_one]; omega
  rw [e9] at h2
  have hov : pr - w * w ≤ 2 * w := by omega
  obtain ⟨ov, hovd⟩ : ∃ z, z = pr - w * w := ⟨_, rfl⟩
  rw [← hovd] at hov ⊢
  have hzero : ∀ k, 2 * c + 2 ≤ k → k < 2050 → fl k = 0 := fun k k1 k2 => hr.2.1 k (by omega) k2
  have f1 : wm_v (upd (upd fl (2 * c) (nI ov)) (2 * c + 1) (nI (ov / 4294967296))) 2050 = ov * 4294967296 ^ (2 * c) + wm_v fl (2 * c) := by
    rw [wm_v_z' (m := 2 * c + 2) (by omega) (fun k k1 k2 => by rw [pk_un (by omega), pk_un (by omega)]; exact hzero k k1 k2), wm_v_2, pk_us, pk_un (by omega), pk_us, wm_v_upd (by omega), wm_v_upd (by omega)]
    rw [Nat.add_comm (wm_u (nI (ov / 4294967296)) * 4294967296), wm_c64 (p := ov) (by omega)]
  have z1 : fd (c + 1) = 0 := hz (c + 1) (by omega)
  have f2 : wm_v (upd (upd fd c (nI (w * 2 ^ 1))) (c + 1) (nI (wm_u (fd (c + 1)) + w / 2 ^ 31))) 2050 = 2 * w * 4294967296 ^ c := by
    rw [wm_v_z' (m := c + 2) (by omega) (fun k k1 k2 => by rw [pk_un (by omega), pk_un (by omega)]; exact hz k k2), wm_v_2, pk_us, pk_un (by omega), pk_us, wm_v_upd (by omega), wm_v_upd (by omega), z1, wm_u_0, wm_un, wm_un]
    have e : wm_v fd c = 0 := by
      have := wm_v_z (f := fd) (m := 0) c (fun k _ k2 => hz k (by omega))
      rw [Nat.zero_add] at this
      exact this
    have e8 : (0 + w / 2 ^ 31) % 4294967296 * 4294967296 + w * 2 ^ 1 % 4294967296 = 2 * w := wm_dbl hw
    rw [e, Nat.add_zero, e8]
  refine ⟨?_, ?_, f2, ?_, ?_⟩
  · rw [f1, ← Nat.add_assoc, ← Nat.add_mul, show w * w + ov = pr by omega]
    exact e0
  · have e6 : (ov + 1) * 4294967296 ^ (2 * c) ≤ (2 * w + 1) * 4294967296 ^ (2 * c) := Nat.mul_le_mul_right _ (by omega)
    rw [Nat.add_mul, Nat.one_mul] at e6
    rw [f1]
    omega
  · rw [show c + 1 - c = 1 by omega, Nat.pow_one]
    have e7 : 4294967296 ^ (2 * (c + 1)) = 4294967296 * 4294967296 * 4294967296 ^ (2 * c) := by rw [show 2 * (c + 1) = 2 * c + 2 by omega, Nat.pow_add, Nat.mul_comm]
    rw [e7, ← e0] at hA2
    have hpr4 : 4294967296 * 4294967296 ≤ 4 * pr + 3 := by
      rcases Nat.lt_or_ge (4 * pr + 3) (4294967296 * 4294967296) with z | z
      · have h8 : (4 * pr + 4) * 4294967296 ^ (2 * c) ≤ 4294967296 * 4294967296 * 4294967296 ^ (2 * c) := Nat.mul_le_mul_right _ (by omega)
        rw [Nat.add_mul, Nat.mul_assoc 4] at h8
        omega
      · exact z
    rcases Nat.lt_or_ge (2 * w) 4294967296 with z | z
    · have h9 : w * w ≤ 2147483647 * w := Nat.mul_le_mul_right _ (by omega)
      omega
    · exact z
  · rw [show c + 1 - c = 1 by omega, Nat.pow_one]
    exact hw
theorem nv_sub2 {c : Nat} : nI (c + 1) - nI 2 = nI c + (-1) := by
  rw [← nI_1, Int32.sub_eq_add_neg, Int32.add_assoc]
  congr 1
theorem wm_low1 {d : Nat → Int32} {S : Nat} (h : wm_v d 2050 = 2 * S) : wm_hv (wm_u (d 1)) (wm_u (d 0)) = S % 4294967296 := by
  have h0 := wm_dig (f := d) (k := 0) (n := 2050) (by omega)
  have h1 := wm_dig (f := d) (k := 1) (n := 2050) (by omega)
  rw [h, Nat.pow_zero, Nat.div_one] at h0
  rw [h, Nat.pow_one] at h1
  unfold wm_hv
  omega
end
section
set_option maxHeartbeats 4000000 in
set_option maxRecDepth 100000 in
theorem c_Root_firstWord (l : Launch) (D : va_G) (ad : Nat → Nat) (cA cR : ClassId) (sz : Nat) (ln : Nat → Nat) (wd : Nat → Nat → Int32) (c0 cnt : Nat) (hcnt : cnt = c0 + 1) (hfit : 2 * c0 + 1 < 2050) (he : wm_u (wd 18 (c0 + 1)) % 2 = 0) : Met l y_Root_firstWord (Cond.code y_Root_firstWord b_Root_firstWord 10 none :: lw_T) ({ frames := 2, cells := 0, slots := 0, locals := 49 }) (va_Pc [.ref (ad (19 + 17)), .ref (ad (19 + 18)), .int (nI (cnt))] (wm_B D ad cA cR sz ln wd)) (va_Qv (fun u : wm_St => ∃ w : Nat, w * w ≤ wm_u (wd 17 (2 * c0 + 1)) * 4294967296 + wm_u (wd 17 (2 * c0)) ∧ wm_u (wd 17 (2 * c0 + 1)) * 4294967296 + wm_u (wd 17 (2 * c0)) < (w + 1) * (w + 1) ∧ w < 4294967296 ∧ u = (ln, va_up (va_up wd 17 (upd (upd (wd 17) (2 * c0) (nI (wm_u (wd 17 (2 * c0 + 1)) * 4294967296 + wm_u (wd 17 (2 * c0)) - w * w))) (2 * c0 + 1) (nI ((wm_u (wd 17 (2 * c0 + 1)) * 4294967296 + wm_u (wd 17 (2 * c0)) - w * w) / 4294967296)))) 18 (upd (upd (wd 18) c0 (nI (w * 2 ^ 1))) (c0 + 1) (nI (wm_u (wd 18 (c0 + 1)) + w / 2 ^ 31))))) (wm_E D ad cA cR sz) (wm_A ad sz)) 0 0 (wm_A ad sz) := by
  refine wm_met l (by decide) (Nat.le_of_ble_eq_true rfl) ?_
  intro p e s m below meth c ls hsz hC hK hr hlk hM hl
  subst hsz
  have hC : CallFix p m c b_Root_firstWord 10 s _ lw_T R_Root := hC
  have hl : lv_has ls 10 [(0, .ref (ad (19 + 17))), (1, .ref (ad (19 + 18))), (2, .int (nI (cnt)))] := hl
  subst hcnt
  have u1 := wm_u_lt (wd 17 (2 * c0 + 1))
  have u0 := wm_u_lt (wd 17 (2 * c0))
  have hM : wm_M D ad cA cR s (ln) (va_up wd 17 (wd 17)) s.heap [] := by
    rw [wm_eta]; exact hM
  refine lv_iconst (v := nI 2) hC.1 hC.2.1 d_Root_firstWord_0 (by decide) ?_
  refine lv_iload_n hC.1 hC.2.1 d_Root_firstWord_1 rfl (lv_at hl 2 rfl) ?_
  refine nv_imul hC d_Root_firstWord_2 ?_
  refine lv_iconst (v := nI 1) hC.1 hC.2.1 d_Root_firstWord_3 (by decide) ?_
  refine nv_isub hC (by omega) d_Root_firstWord_4 ?_
  refine nv_top (y := nI (2 * c0 + 1)) (congrArg nI (by omega)) ?_
  refine lv_istore_n (lv' := [(3, .int (nI (2 * c0 + 1))), (0, .ref (ad (19 + 17))), (1, .ref (ad (19 + 18))), (2, .int (nI (c0 + 1)))]) hC.1 hC.2.1 d_Root_firstWord_5 rfl hl (by decide) rfl (fun ls hl => ?_)
  refine lv_aload_n hC.1 hC.2.1 d_Root_firstWord_6 rfl (lv_at hl 1 rfl) ?_
  refine lv_iload_n hC.1 hC.2.1 d_Root_firstWord_7 rfl (lv_at hl 0 rfl) ?_
  refine wm_ald_s hC hK hM (k := 2 * c0 + 1) (by decide) (by omega) d_Root_firstWord_8 ?_
  refine nv_hi hC d_Root_firstWord_9 d_Root_firstWord_10 d_Root_firstWord_12 ?_
  refine lv_aload_n hC.1 hC.2.1 d_Root_firstWord_13 rfl (lv_at hl 1 rfl) ?_
  refine lv_iload_n hC.1 hC.2.1 d_Root_firstWord_14 rfl (lv_at hl 0 rfl) ?_
  refine lv_iconst (v := nI 1) hC.1 hC.2.1 d_Root_firstWord_15 (by decide) ?_
  refine nv_isub hC (by omega) d_Root_firstWord_16 ?_
  refine nv_top (y := nI (2 * c0)) rfl ?_
  refine wm_ald_s hC hK hM (k := 2 * c0) (by decide) (by omega) d_Root_firstWord_17 ?_
  refine nv_low hC kl_Root_44 d_Root_firstWord_18 d_Root_firstWord_19 d_Root_firstWord_22 ?_
  refine nv_pair (k := 32) hC (by omega) (by omega) d_Root_firstWord_23 ?_
  obtain ⟨pr, hpr⟩ : ∃ z, z = wm_u (wd 17 (2 * c0 + 1)) * 4294967296 + wm_u (wd 17 (2 * c0)) := ⟨_, rfl⟩
  refine nv_topl (y := lN (pr)) (by rw [hpr]) ?_
  refine lv_lstore (lv' := [(4, .long (lN (pr))), (3, .int (nI (2 * c0 + 1))), (0, .ref (ad (19 + 17))), (1, .ref (ad (19 + 18))), (2, .int (nI (c0 + 1)))]) hC.1 hC.2.1 d_Root_firstWord_24 hl (by decide) rfl (fun ls hl => ?_)
  refine lv_lload hC.1 hC.2.1 d_Root_firstWord_26 (lv_at hl 0 rfl) ?_
  refine wm_callPl hC hK hM (As := [.long (lN (pr))]) (rest := []) (c_Root_rootOfPair l _ pr (by omega)) kc_Root_rootOfPair km_Root_46 ki_Root ks_Root_rootOfPair kd_Root_rootOfPair ⟨rfl, rfl⟩ ⟨Nat.le_of_ble_eq_true rfl, Nat.le_of_ble_eq_true rfl⟩ rfl hl.1 (Nat.le_of_ble_eq_true rfl) d_Root_firstWord_28 (fun r H locs hp hM => ?_)
  obtain ⟨w, rfl, h1, h2, h3⟩ := hp
  refine lv_lstore (lv' := [(6, .long (lN (w))), (4, .long (lN (pr))), (3, .int (nI (2 * c0 + 1))), (0, .ref (ad (19 + 17))), (1, .ref (ad (19 + 18))), (2, .int (nI (c0 + 1)))]) hC.1 hC.2.1 d_Root_firstWord_31 hl (by decide) rfl (fun ls hl => ?_)
  refine lv_lload hC.1 hC.2.1 d_Root_firstWord_33 (lv_at hl 1 rfl) ?_
  refine lv_lload hC.1 hC.2.1 d_Root_firstWord_35 (lv_at hl 0 rfl) ?_
  refine lv_lload hC.1 hC.2.1 d_Root_firstWord_37 (lv_at hl 0 rfl) ?_
  refine nv_lmul hC d_Root_firstWord_39 ?_
  refine nv_lsub hC h1 d_Root_firstWord_40 ?_
  refine lv_lstore (lv' := [(8, .long (lN (pr - (w * w)))), (6, .long (lN (w))), (4, .long (lN (pr))), (3, .int (nI (2 * c0 + 1))), (0, .ref (ad (19 + 17))), (1, .ref (ad (19 + 18))), (2, .int (nI (c0 + 1)))]) hC.1 hC.2.1 d_Root_firstWord_41 hl (by decide) rfl (fun ls hl => ?_)
  refine lv_aload_n hC.1 hC.2.1 d_Root_firstWord_43 rfl (lv_at hl 4 rfl) ?_
  refine lv_iload_n hC.1 hC.2.1 d_Root_firstWord_44 rfl (lv_at hl 3 rfl) ?_
  refine lv_iconst (v := nI 1) hC.1 hC.2.1 d_Root_firstWord_45 (by decide) ?_
  refine nv_isub hC (by omega) d_Root_firstWord_46 ?_
  refine lv_lload hC.1 hC.2.1 d_Root_firstWord_47 (lv_at hl 0 rfl) ?_
  refine nv_l2i hC d_Root_firstWord_49 ?_
  refine wm_ast_s hC hK hM (k := 2 * c0) (by decide) (by omega) d_Root_firstWord_50 (fun H locs hM => ?_)
  refine lv_aload_n hC.1 hC.2.1 d_Root_firstWord_51 rfl (lv_at hl 4 rfl) ?_
  refine lv_iload_n hC.1 hC.2.1 d_Root_firstWord_52 rfl (lv_at hl 3 rfl) ?_
  refine lv_lload hC.1 hC.2.1 d_Root_firstWord_53 (lv_at hl 0 rfl) ?_
  refine lv_bipush (v := nI 32) hC.1 hC.2.1 d_Root_firstWord_55 (by decide) ?_
  refine nv_lushr32 hC (by omega) d_Root_firstWord_57 ?_
  refine nv_l2i hC d_Root_firstWord_58 ?_
  refine wm_ast_s hC hK hM (k := 2 * c0 + 1) (by decide) (by omega) d_Root_firstWord_59 (fun H locs hM => ?_)
  refine lv_aload_n hC.1 hC.2.1 d_Root_firstWord_60 rfl (lv_at hl 5 rfl) ?_
  refine lv_iload_n hC.1 hC.2.1 d_Root_firstWord_61 rfl (lv_at hl 6 rfl) ?_
  refine lv_iconst (v := nI 1) hC.1 hC.2.1 d_Root_firstWord_62 (by decide) ?_
  refine nv_isub hC (by omega) d_Root_firstWord_63 ?_
  refine lv_lload hC.1 hC.2.1 d_Root_firstWord_64 (lv_at hl 1 rfl) ?_
  refine wm_callSv hC hK hM (As := [.ref (ad (19 + 18)), .int (nI (c0)), .long (lN (w))]) (rest := []) (c_Root_putWord l D ad cA cR _ ln (va_up wd 17 (upd (upd (wd 17) (2 * c0) (nI (pr - (w * w)))) (2 * c0 + 1) (nI ((pr - (w * w)) / 4294967296)))) 18 c0 w (by decide) (by omega) h3 (by rw [va_up_ne _ _ (by decide)]; exact he)) kc_Root_putWord km_Root_50 ki_Root ks_Root_putWord kd_Root_putWord ⟨rfl, rfl⟩ ⟨Nat.le_of_ble_eq_true rfl, Nat.le_of_ble_eq_true rfl⟩ rfl hl.1 (Nat.le_of_ble_eq_true rfl) d_Root_firstWord_66 (fun u H locs hp hM => ?_)
  rw [va_up_ne _ _ (by decide)] at hp
  refine wm_vret hC hK hM hr hlk ⟨w, ?_, ?_, h3, ?_⟩ d_Root_firstWord_69
  · rw [← hpr]; exact h1
  · rw [← hpr]; exact h2
  · rw [← hpr]; exact hp
set_option maxHeartbeats 4000000 in
set_option maxRecDepth 100000 in
theorem c_Root_shiftBack (l : Launch) (D : va_G) (ad : Nat → Nat) (cA cR : ClassId) (sz : Nat) (ln : Nat → Nat) (wd : Nat → Nat → Int32) (N : Nat → Nat) (cnt hf S R : Nat) (hokr : ∀ j, j < 17 → wm_rep (wd j) (ln j) (N j)) (hl17 : ln 17 ≤ 2050) (hl18 : ln 18 ≤ 2050) (hcnt : cnt ≤ 1024) (hhf : hf ≤ 31) (hL : wm_v (wd 17) 2050 = R) (hDd : wm_v (wd 18) 2050 = 2 * S) (hR : R ≤ 2 * S) (hS : S < 4294967296 ^ cnt) : Met l y_Root_shiftBack (Cond.code y_Root_shiftBack b_Root_shiftBack 6 none :: lw_T) ({ frames := 2, cells := 0, slots := 0, locals := 51 }) (va_Pc [.ref (ad 16), .ref (ad 17), .ref (ad 18), .int (nI (cnt)), .int (nI (hf))] (wm_B D ad cA cR sz ln wd)) (va_Qv (fun u : wm_St => ∃ h, wm_ok (va_up (va_up (va_up N 18 h) 16 (S / 2 ^ hf)) 17 ((R + S % 2 ^ hf * (2 * S)) / 2 ^ (2 * hf))) u.1 u.2) (wm_E D ad cA cR sz) (wm_A ad sz)) 0 0 (wm_A ad sz) := by
  refine wm_met l (by decide) (Nat.le_of_ble_eq_true rfl) ?_
  intro p e s m below meth c ls hsz hC hK hr hlk hM hl
  subst hsz
  have hC : CallFix p m c b_Root_shiftBack 6 s _ lw_T R_Root := hC
  have hl : lv_has ls 6 [(0, .ref (ad 16)), (1, .ref (ad 17)), (2, .ref (ad 18)), (3, .int (nI (cnt))), (4, .int (nI (hf)))] := hl
  have hp0 : 0 < 2 ^ hf := Nat.pow_pos (by decide)
  have hp31 : 2 ^ hf ≤ 2 ^ 31 := Nat.pow_le_pow_right (by decide) (by omega)
  obtain ⟨t, ht⟩ : ∃ z, z = S % 2 ^ hf := ⟨_, rfl⟩
  have ht2 : t < 2 ^ hf := by rw [ht]; exact Nat.mod_lt _ hp0
  have hsum : R + t * (2 * S) < 4294967296 ^ (cnt + 1) := by
    have a1 : (t + 1) * (2 * S) ≤ 2 ^ 31 * (2 * S) := Nat.mul_le_mul_right _ (by omega)
    rw [Nat.add_mul, Nat.one_mul] at a1
    rw [Nat.pow_succ]
    omega
  have hS1 : 2 * S < 4294967296 ^ (cnt + 1) := by rw [Nat.pow_succ]; omega
  have hR1 : R < 4294967296 ^ (cnt + 1) := by omega
  obtain ⟨l1, l2⟩ := wm_small (f := wd 17) (n := 2050) (m := cnt + 1) (by rw [hL]; exact hR1) (by omega)
  obtain ⟨d1, d2⟩ := wm_small (f := wd 18) (n := 2050) (m := cnt + 1) (by rw [hDd]; exact hS1) (by omega)
  rw [hL] at l1
  rw [hDd] at d1
  refine lv_aload_n hC.1 hC.2.1 d_Root_shiftBack_0 rfl (lv_at hl 2 rfl) ?_
  refine wm_wds hC hK hM (j := 18) (by decide) kf_Root_26 d_Root_shiftBack_1 ?_
  refine lv_iconst (v := nI 1) hC.1 hC.2.1 d_Root_shiftBack_4 (by decide) ?_
  refine wm_ald hC hK hM (j := 18) (k := 1) (by decide) (by omega) d_Root_shiftBack_5 ?_
  refine lv_aload_n hC.1 hC.2.1 d_Root_shiftBack_6 rfl (lv_at hl 2 rfl) ?_
  refine wm_wds hC hK hM (j := 18) (by decide) kf_Root_26 d_Root_shiftBack_7 ?_
  refine lv_iconst (v := nI 0) hC.1 hC.2.1 d_Root_shiftBack_10 (by decide) ?_
  refine wm_ald hC hK hM (j := 18) (k := 0) (by decide) (by omega) d_Root_shiftBack_11 ?_
  refine wm_callPi hC hK hM (As := [.int (wd 18 1), .int (wd 18 0)]) (rest := []) (c_Rows_halved l _ (wd 18 1) (wd 18 0)) kc_Rows_halved km_Root_73 ki_Rows ks_Rows_halved kd_Rows_halved ⟨rfl, rfl⟩ ⟨Nat.le_of_ble_eq_true rfl, Nat.le_of_ble_eq_true rfl⟩ rfl hl.1 (Nat.le_of_ble_eq_true rfl) d_Root_shiftBack_12 (fun r H locs hp hM => ?_)
  rw [wm_low1 hDd] at hp
  subst hp
  refine lv_iconst (v := nI 1) hC.1 hC.2.1 d_Root_shiftBack_15 (by decide) ?_
  refine lv_iload hC.1 hC.2.1 d_Root_shiftBack_16 (lv_at hl 4 rfl) ?_
  refine lv_ishl hC.1 hC.2.1 d_Root_shiftBack_18 ?_
  refine nv_top (y := nI (2 ^ hf)) (wm_shl1 (by omega)) ?_
  refine lv_iconst (v := nI 1) hC.1 hC.2.1 d_Root_shiftBack_19 (by decide) ?_
  refine nv_isub hC (by omega) d_Root_shiftBack_20 ?_
  refine lv_iand hC.1 hC.2.1 d_Root_shiftBack_21 ?_
  refine nv_top (y := nI (t)) (by rw [wm_mask1 (by omega), wm_un' (Nat.mod_lt _ (by decide)), ht]; exact congrArg nI (Nat.mod_mod_of_dvd _ ⟨2 ^ (32 - hf), by rw [← Nat.pow_add, show hf + (32 - hf) = 32 by omega]⟩)) ?_
  refine lv_istore (lv' := [(5, .int (nI (t))), (0, .ref (ad 16)), (1, .ref (ad 17)), (2, .ref (ad 18)), (3, .int (nI (cnt))), (4, .int (nI (hf)))]) hC.1 hC.2.1 d_Root_shiftBack_22 hl (by decide) rfl (fun ls hl => ?_)
  refine lv_aload_n hC.1 hC.2.1 d_Root_shiftBack_24 rfl (lv_at hl 2 rfl) ?_
  refine wm_wds hC hK hM (j := 17) (by decide) kf_Root_26 d_Root_shiftBack_25 ?_
  refine lv_iconst (v := nI 0) hC.1 hC.2.1 d_Root_shiftBack_28 (by decide) ?_
  refine lv_aload_n hC.1 hC.2.1 d_Root_shiftBack_29 rfl (lv_at hl 3 rfl) ?_
  refine wm_wds hC hK hM (j := 18) (by decide) kf_Root_26 d_Root_shiftBack_30 ?_
  refine lv_iload_n hC.1 hC.2.1 d_Root_shiftBack_33 rfl (lv_at hl 4 rfl) ?_
  refine lv_iconst (v := nI 1) hC.1 hC.2.1 d_Root_shiftBack_34 (by decide) ?_
  refine nv_iadd hC d_Root_shiftBack_35 ?_
  refine lv_iload hC.1 hC.2.1 d_Root_shiftBack_36 (lv_at hl 0 rfl) ?_
  refine nv_i2l hC (by omega) d_Root_shiftBack_38 ?_
  refine wm_callSl hC hK hM (As := [.ref (ad (19 + 17)), .int (nI (0)), .ref (ad (19 + 18)), .int (nI (cnt + 1)), .long (lN (t))]) (rest := []) (c_Rows_addMultiple l D ad cA cR _ ln wd 17 18 0 (cnt + 1) t (by decide) (by decide) (by decide) (by omega) (by omega)) kc_Rows_addMultiple km_Root_81 ki_Rows ks_Rows_addMultiple kd_Rows_addMultiple ⟨rfl, rfl⟩ ⟨Nat.le_of_ble_eq_true rfl, Nat.le_of_ble_eq_true rfl⟩ rfl hl.1 (Nat.le_of_ble_eq_true rfl) d_Root_shiftBack_39 (fun r u H locs hp hM => ?_)
  obtain ⟨cy, f, rfl, rfl, hS2, hcy, hf2⟩ := hp
  rw [wm_off_0, wm_off_0, ← l1, ← d1] at hS2
  have hcy0 : cy = 0 := by
    rcases Nat.eq_zero_or_pos cy with z | z
    · exact z
    · have : 1 * 4294967296 ^ (cnt + 1) ≤ cy * 4294967296 ^ (cnt + 1) := Nat.mul_le_mul_right _ z
      omega
  rw [hcy0, Nat.zero_mul, Nat.add_zero] at hS2
  have hM : wm_M D ad cA cR s (ln) (va_up wd 17 f) H locs := by
    exact hM
  refine lv_pop2_2 hC.1 hC.2.1 d_Root_shiftBack_42 rfl ?_
  refine lv_aload_n hC.1 hC.2.1 d_Root_shiftBack_43 rfl (lv_at hl 2 rfl) ?_
  refine lv_iload_n hC.1 hC.2.1 d_Root_shiftBack_44 rfl (lv_at hl 4 rfl) ?_
  refine lv_iconst (v := nI 1) hC.1 hC.2.1 d_Root_shiftBack_45 (by decide) ?_
  refine nv_iadd hC d_Root_shiftBack_46 ?_
  refine wm_callVv hC hK hM (As := [.int (nI (cnt + 1))]) (rest := []) (wm_at_o (by decide)) rfl (c_Whole_settle l D ad cA cR _ ln (va_up wd 17 f) 17 (cnt + 1) (by decide) hl17 (by omega)) kc_Whole_settle km_Root_85 ki_Whole kn_Whole_settle ke_Whole_settle kd_Whole_settle ⟨rfl, rfl⟩ ⟨Nat.le_of_ble_eq_true rfl, Nat.le_of_ble_eq_true rfl⟩ rfl hl.1 (Nat.le_of_ble_eq_true rfl) d_Root_shiftBack_47 (fun u1 H locs hp1 hM => ?_)
  rw [va_up_self, wm_uu] at hp1
  obtain ⟨n1, g1, rfl, r1⟩ := wm_up_of hp1 (by omega) (fun k h1 _ h3 => by rw [hf2 k (Or.inr (by omega))]; exact l2 k h1 h3) hS2
  have hM : wm_M D ad cA cR s (va_up ln 17 n1) (va_up wd 17 g1) H locs := by
    exact hM
  have r1l : n1 ≤ 2049 := wm_rep_le r1 (Nat.lt_of_lt_of_le hsum (Nat.pow_le_pow_right (by decide) (by omega)))
  refine lv_aload_n hC.1 hC.2.1 d_Root_shiftBack_50 rfl (lv_at hl 2 rfl) ?_
  refine lv_aload_n hC.1 hC.2.1 d_Root_shiftBack_51 rfl (lv_at hl 2 rfl) ?_
  refine lv_iconst (v := nI 2) hC.1 hC.2.1 d_Root_shiftBack_52 (by decide) ?_
  refine lv_iload hC.1 hC.2.1 d_Root_shiftBack_53 (lv_at hl 5 rfl) ?_
  refine nv_imul hC d_Root_shiftBack_55 ?_
  refine wm_callVv hC hK hM (As := [.ref (ad 17), .int (nI (2 * hf))]) (rest := []) (wm_at_o (by decide)) rfl (c_Whole_becomeShiftedRight l D ad cA cR _ (va_up ln 17 n1) (va_up wd 17 g1) 17 17 (R + t * (2 * S)) (2 * hf) (by decide) (by decide) (by rw [va_up_self, va_up_self]; exact wm_rep_ze r1) (by rw [va_up_self, va_up_self]; exact r1) (by rw [va_up_self]; exact r1l) (by omega)) kc_Whole_becomeShiftedRight km_Root_89 ki_Whole kn_Whole_becomeShiftedRight ke_Whole_becomeShiftedRight kd_Whole_becomeShiftedRight ⟨rfl, rfl⟩ ⟨Nat.le_of_ble_eq_true rfl, Nat.le_of_ble_eq_true rfl⟩ rfl hl.1 (Nat.le_of_ble_eq_true rfl) d_Root_shiftBack_56 (fun u2 H locs hp2 hM => ?_)
  obtain ⟨n2, g2, rfl, r2⟩ := hp2
  rw [wm_uu, wm_uu] at hM
  have hM : wm_M D ad cA cR s (va_up ln 17 n2) (va_up wd 17 g2) H locs := by
    exact hM
  refine lv_aload_n hC.1 hC.2.1 d_Root_shiftBack_59 rfl (lv_at hl 3 rfl) ?_
  refine lv_iload_n hC.1 hC.2.1 d_Root_shiftBack_60 rfl (lv_at hl 4 rfl) ?_
  refine lv_iconst (v := nI 1) hC.1 hC.2.1 d_Root_shiftBack_61 (by decide) ?_
  refine nv_iadd hC d_Root_shiftBack_62 ?_
  refine wm_callVv hC hK hM (As := [.int (nI (cnt + 1))]) (rest := []) (wm_at_o (by decide)) rfl (c_Whole_settle l D ad cA cR _ (va_up ln 17 n2) (va_up wd 17 g2) 18 (cnt + 1) (by decide) (by rw [va_up_ne _ _ (by decide)]; exact hl18) (by omega)) kc_Whole_settle km_Root_85 ki_Whole kn_Whole_settle ke_Whole_settle kd_Whole_settle ⟨rfl, rfl⟩ ⟨Nat.le_of_ble_eq_true rfl, Nat.le_of_ble_eq_true rfl⟩ rfl hl.1 (Nat.le_of_ble_eq_true rfl) d_Root_shiftBack_63 (fun u3 H locs hp3 hM => ?_)
  rw [va_up_ne _ _ (by decide), va_up_ne _ _ (by decide)] at hp3
  obtain ⟨n3, g3, rfl, r3⟩ := wm_up_of hp3 (by omega) (fun k h1 _ h3 => d2 k h1 h3) d1.symm
  have ok3 : wm_ok (va_up (va_up N 17 ((R + t * (2 * S)) / 2 ^ (2 * hf))) 18 (2 * S)) (va_up (va_up ln 17 n2) 18 n3) (va_up (va_up wd 17 g2) 18 g3) := by
    refine wm_ok_row (fun j hj e => ?_) r3
    by_cases e2 : j = 17
    · rw [e2, va_up_self, va_up_self, va_up_self]
      exact r2
    · rw [va_up_ne _ _ e2, va_up_ne _ _ e2, va_up_ne _ _ e2]
      exact hokr j (by omega)
  have n3l : n3 ≤ 2049 := wm_rep_le r3 (Nat.lt_of_lt_of_le hS1 (Nat.pow_le_pow_right (by decide) (by omega)))
  have hM : wm_M D ad cA cR s (va_up (va_up ln 17 n2) 18 n3) (va_up (va_up wd 17 g2) 18 g3) H locs := by
    exact hM
  refine lv_aload_n hC.1 hC.2.1 d_Root_shiftBack_66 rfl (lv_at hl 1 rfl) ?_
  refine lv_aload_n hC.1 hC.2.1 d_Root_shiftBack_67 rfl (lv_at hl 3 rfl) ?_
  refine lv_iload hC.1 hC.2.1 d_Root_shiftBack_68 (lv_at hl 5 rfl) ?_
  refine lv_iconst (v := nI 1) hC.1 hC.2.1 d_Root_shiftBack_70 (by decide) ?_
  refine nv_iadd hC d_Root_shiftBack_71 ?_
  refine wm_callVv hC hK hM (As := [.ref (ad 18), .int (nI (hf + 1))]) (rest := []) (wm_at_o (by decide)) rfl (c_Whole_becomeShiftedRight l D ad cA cR _ (va_up (va_up ln 17 n2) 18 n3) (va_up (va_up wd 17 g2) 18 g3) 16 18 (2 * S) (hf + 1) (by decide) (by decide) (wm_rep_ze (ok3 16 (by decide))) (wm_ok_self ok3 (by decide)) (by rw [va_up_self]; exact n3l) (by omega)) kc_Whole_becomeShiftedRight km_Root_89 ki_Whole kn_Whole_becomeShiftedRight ke_Whole_becomeShiftedRight kd_Whole_becomeShiftedRight ⟨rfl, rfl⟩ ⟨Nat.le_of_ble_eq_true rfl, Nat.le_of_ble_eq_true rfl⟩ rfl hl.1 (Nat.le_of_ble_eq_true rfl) d_Root_shiftBack_72 (fun u4 H locs hp4 hM => ?_)
  have ok4 := wm_ok_up ok3 hp4
  refine wm_vret hC hK hM hr hlk ⟨2 * S, wm_ok_congr ok4 (fun j hj => ?_)⟩ d_Root_shiftBack_75
  rw [← ht, Nat.pow_succ, Nat.mul_comm (2 ^ hf) 2, Nat.mul_div_mul_left _ _ (by decide)]
  simp only [va_up]
  repeat' split
  all_goals first | rfl | omega
end
section
theorem wm_rt_norm {N cnt hf : Nat} (hN : 0 < N) (hb : wm_bl N ≤ 64 * cnt) (hh : hf = (64 * cnt - wm_bl N) / 2) : N * 2 ^ (2 * hf) < 4294967296 ^ (2 * cnt) ∧ 4294967296 ^ (2 * cnt) ≤ 4 * (N * 2 ^ (2 * hf)) := by
  have h1 := wm_bl_lt N
  have h2 := wm_bl_ge hN
  have h3 := wm_bl_pos hN
  have hp : 0 < 2 ^ (2 * hf) := Nat.pow_pos (by decide)
  rw [wm_p32]
  constructor
  · have a1 : N * 2 ^ (2 * hf) < 2 ^ wm_bl N * 2 ^ (2 * hf) := Nat.mul_lt_mul_of_pos_right h1 hp
    rw [← Nat.pow_add] at a1
    exact Nat.lt_of_lt_of_le a1 (Nat.pow_le_pow_right (by decide) (by omega))
  · have a1 : 2 ^ (wm_bl N - 1) * 2 ^ (2 * hf) ≤ N * 2 ^ (2 * hf) := Nat.mul_le_mul_right _ h2
    have a2 : 2 ^ (32 * (2 * cnt)) ≤ 4 * (2 ^ (wm_bl N - 1) * 2 ^ (2 * hf)) := by
      rw [← Nat.pow_add, show (4 : Nat) = 2 ^ 2 by decide, ← Nat.pow_add]
      exact Nat.pow_le_pow_right (by decide) (by omega)
    omega
theorem wm_rep_z {f : Nat → Int32} {n : Nat} (h : wm_rep f n 0) : ∀ k, k < 2050 → f k = 0 := by
  have e := (wm_rep_0 h).mpr rfl
  subst e
  exact fun k hk => h.2.1 k (Nat.zero_le _) hk
theorem wm_bl_words {f : Nat → Int32} {n N : Nat} (h : wm_rep f (n + 1) N) : 32 * n < wm_bl N := by
  have h1 := wm_rep_ge h
  rcases Nat.lt_or_ge (32 * n) (wm_bl N) with z | z
  · exact z
  · have := wm_bl_le.mp z
    rw [← wm_p32] at this
    omega
theorem wm_sq_lt {A s : Nat} (h1 : s * s ≤ A) (h2 : A - s * s ≤ 2 * s) : A < (s + 1) * (s + 1) := by
  rw [Nat.add_mul, Nat.one_mul, Nat.mul_add, Nat.mul_one]
  omega
end
section
set_option maxHeartbeats 4000000 in
set_option maxRecDepth 100000 in
theorem lp_Root_find {p : Program} {l : Launch} {e : Env} {s : State} {m : MethodId} {args : Array Value} {below : List Frame} {meth : Method} {c : Code} {Q : State → Prop} {D : va_G} {ad : Nat → Nat} {cA cR : ClassId} (hC : CallFix p m c b_Root_find 7 s args lw_T R_Root) (hK : va_K D classes (wm_ty cA cR) s) (Ln : Nat → Nat) (W0 : Nat → Nat → Int32) (A cnt hf : Nat) (hcnt : cnt ≤ 1024)
    (hex : ∀ (s1 : Nat) (fl fd : Nat → Int32), (wm_J A cnt 0 s1 fl fd) → ∀ (H : Heap) (locs : List Loc) (ls : Array Slot), wm_M D ad cA cR s (Ln) (va_up (va_up W0 17 fl) 18 fd) H locs → lv_has ls 7 [(1, .ref (ad 16)), (2, .ref (ad 17)), (3, .ref (ad 18)), (4, .int (nI (cnt))), (5, .int (nI (hf)))] → W p l e ({ frames := 4, cells := 0, slots := 0, locals := 114 }) s m args below meth c H locs 0 0 Q (F0 m 96 ls [])) :
    ∀ (n : Nat) (x : Nat) (s1 : Nat) (fl : Nat → Int32) (fd : Nat → Int32), (x + 1 ≤ cnt) → (wm_J A cnt x s1 fl fd) → x + 1 ≤ n → ∀ (H : Heap) (locs : List Loc) (ls : Array Slot), wm_M D ad cA cR s (Ln) (va_up (va_up W0 17 fl) 18 fd) H locs → lv_has ls 7 [(1, .ref (ad 16)), (2, .ref (ad 17)), (3, .ref (ad 18)), (4, .int (nI (cnt))), (5, .int (nI (hf))), (6, .int (nI (x) + (-1)))] → W p l e ({ frames := 4, cells := 0, slots := 0, locals := 114 }) s m args below meth c H locs 0 0 Q (F0 m 70 ls []) := by
  intro n
  induction n with
  | zero =>
    intro x s1 fl fd hx hJ hn
    exact absurd hn (by omega)
  | succ n ih =>
    intro x s1 fl fd hx hJ hn H locs ls hM hl
    refine lv_iload hC.1 hC.2.1 d_Root_find_70 (lv_at hl 5 rfl) ?_
    refine nv_down_lt (tgt := 96) hC (by omega) d_Root_find_72 (by decide) (fun hz => ?_) (fun y hy => ?_)
    · subst hz
      exact hex s1 fl fd hJ H locs ls hM (lv_sub hl [0, 1, 2, 3, 4] rfl)
    · subst hy
      have hl : lv_has ls 7 [(1, .ref (ad 16)), (2, .ref (ad 17)), (3, .ref (ad 18)), (4, .int (nI (cnt))), (5, .int (nI (hf))), (6, .int (nI (y)))] := by rw [pk_m1] at hl; exact hl
      obtain ⟨K, hKc⟩ : ∃ K, cnt = y + (K + 2) := ⟨cnt - y - 2, by omega⟩
      have hJ2 : wm_J A (y + (K + 2)) (y + 1) s1 fl fd := by rw [← hKc]; exact hJ
      obtain ⟨p1, p2, p3, p4, -, -, -, -⟩ := wm_J_pre hJ2 (by omega)
      refine lv_aload_n hC.1 hC.2.1 d_Root_find_75 rfl (lv_at hl 1 rfl) ?_
      refine wm_wds hC hK hM (j := 17) (by decide) kf_Root_26 d_Root_find_76 ?_
      refine lv_aload_n hC.1 hC.2.1 d_Root_find_79 rfl (lv_at hl 2 rfl) ?_
      refine wm_wds hC hK hM (j := 18) (by decide) kf_Root_26 d_Root_find_80 ?_
      refine lv_iload hC.1 hC.2.1 d_Root_find_83 (lv_at hl 5 rfl) ?_
      refine lv_iload hC.1 hC.2.1 d_Root_find_85 (lv_at hl 3 rfl) ?_
      refine wm_callSv hC hK hM (As := [.ref (ad (19 + 17)), .ref (ad (19 + 18)), .int (nI (y)), .int (nI (cnt))]) (rest := []) (c_Root_nextWord l D ad cA cR _ Ln (va_up (va_up W0 17 fl) 18 fd) y K cnt s1 hKc (by omega) (by rw [va_up_self]; exact p1) p2 p3 (by rw [va_up_ne _ _ (by decide), va_up_self]; exact p4)) kc_Root_nextWord km_Root_36 ki_Root ks_Root_nextWord kd_Root_nextWord ⟨rfl, rfl⟩ ⟨Nat.le_of_ble_eq_true rfl, Nat.le_of_ble_eq_true rfl⟩ rfl hl.1 (Nat.le_of_ble_eq_true rfl) d_Root_find_87 (fun u H locs hp hM => ?_)
      obtain ⟨w, f, g, rfl, hw, e1, e2, e3, hf9, hg9⟩ := hp
      rw [va_up_ne _ _ (by decide), va_up_self] at e1 e2 hf9
      rw [va_up_self] at hg9
      have hJ3 := wm_J_step hJ2 (by omega) hw e1 e2 e3 hf9 hg9
      rw [← hKc] at hJ3
      have hM : wm_M D ad cA cR s (Ln) (va_up (va_up W0 17 f) 18 g) H locs := by
        rw [wm_comm _ (show (18 : Nat) ≠ 17 by decide), wm_uu, wm_uu] at hM; exact hM
      refine lv_iinc (v := nI (y) + (-1)) (lv' := [(6, .int (nI (y) + (-1))), (1, .ref (ad 16)), (2, .ref (ad 17)), (3, .ref (ad 18)), (4, .int (nI (cnt))), (5, .int (nI (hf)))]) hC.1 hC.2.1 d_Root_find_90 hl (k := 5) rfl (rfl) (by decide) rfl (fun ls hl => ?_)
      refine lv_goto (tgt := 70) hC.1 hC.2.1 d_Root_find_93 (by decide) ?_
      exact ih y (s1 * 4294967296 + w) f g (by omega) hJ3 (by omega) H locs ls hM (lv_sub hl [1, 2, 3, 4, 5, 0] rfl)
set_option maxHeartbeats 4000000 in
set_option maxRecDepth 100000 in
theorem c_Root_find (l : Launch) (D : va_G) (ad : Nat → Nat) (cA cR : ClassId) (sz : Nat) (ln : Nat → Nat) (wd : Nat → Nat → Int32) (N : Nat → Nat) (a : Nat) (ha : a < 16) (hok : wm_ok N ln wd) (hla : ln a ≤ 2048) : Met l y_Root_find (Cond.code y_Root_find b_Root_find 7 none :: lw_T) ({ frames := 4, cells := 0, slots := 0, locals := 114 }) (va_Pc [.ref (ad a), .ref (ad 16), .ref (ad 17), .ref (ad 18)] (wm_B D ad cA cR sz ln wd)) (va_Qv (fun u : wm_St => ∃ h s0, s0 * s0 ≤ N a ∧ N a < (s0 + 1) * (s0 + 1) ∧ wm_ok (va_up (va_up (va_up N 18 h) 16 s0) 17 (N a - s0 * s0)) u.1 u.2) (wm_E D ad cA cR sz) (wm_A ad sz)) 0 0 (wm_A ad sz) := by
  refine wm_met l (by decide) (Nat.le_of_ble_eq_true rfl) ?_
  intro p e s m below meth c ls hsz hC hK hr hlk hM hl
  subst hsz
  have hC : CallFix p m c b_Root_find 7 s _ lw_T R_Root := hC
  have hl : lv_has ls 7 [(0, .ref (ad a)), (1, .ref (ad 16)), (2, .ref (ad 17)), (3, .ref (ad 18))] := hl
  have ra := hok a (by omega)
  refine lv_aload_n hC.1 hC.2.1 d_Root_find_0 rfl (lv_at hl 0 rfl) ?_
  refine wm_len hC hK hM (j := a) (by omega) kf_Root_9 d_Root_find_1 ?_
  refine lv_iconst (v := nI 1) hC.1 hC.2.1 d_Root_find_4 (by decide) ?_
  refine nv_iadd hC d_Root_find_5 ?_
  refine lv_iconst (v := nI 2) hC.1 hC.2.1 d_Root_find_6 (by decide) ?_
  refine lv_idiv hC.1 hC.2.1 d_Root_find_7 (by decide) ?_
  refine nv_top (y := nI (((ln a) + 1) / 2)) (pk_div (by omega) (by decide) (by decide)) ?_
  obtain ⟨cnt, hcnt⟩ : ∃ z, z = (ln a + 1) / 2 := ⟨_, rfl⟩
  refine nv_top (y := nI (cnt)) (by rw [hcnt]) ?_
  refine lv_istore (lv' := [(4, .int (nI (cnt))), (0, .ref (ad a)), (1, .ref (ad 16)), (2, .ref (ad 17)), (3, .ref (ad 18))]) hC.1 hC.2.1 d_Root_find_8 hl (by decide) rfl (fun ls hl => ?_)
  refine lv_aload_n hC.1 hC.2.1 d_Root_find_10 rfl (lv_at hl 2 rfl) ?_
  refine wm_callVv hC hK hM (As := []) (rest := []) (wm_at_o (by decide)) rfl (c_Whole_clear l D ad cA cR _ ln wd 16 (by decide) (hok 16 (by decide)).1) kc_Whole_clear km_Root_15 ki_Whole kn_Whole_clear ke_Whole_clear kd_Whole_clear ⟨rfl, rfl⟩ ⟨Nat.le_of_ble_eq_true rfl, Nat.le_of_ble_eq_true rfl⟩ rfl hl.1 (Nat.le_of_ble_eq_true rfl) d_Root_find_11 (fun u1 H locs hp1 hM => ?_)
  have ok1 := wm_ok_up hok (wm_up_of (g := wd 16) (c := 0) hp1 (by omega) (fun k _ h2 h3 => (hok 16 (by decide)).2.1 k h2 h3) rfl)
  refine lv_aload_n hC.1 hC.2.1 d_Root_find_14 rfl (lv_at hl 3 rfl) ?_
  refine wm_callVv hC hK hM (As := []) (rest := []) (wm_at_o (by decide)) rfl (c_Whole_clear l D ad cA cR _ (u1.1) (u1.2) 17 (by decide) (ok1 17 (by decide)).1) kc_Whole_clear km_Root_15 ki_Whole kn_Whole_clear ke_Whole_clear kd_Whole_clear ⟨rfl, rfl⟩ ⟨Nat.le_of_ble_eq_true rfl, Nat.le_of_ble_eq_true rfl⟩ rfl hl.1 (Nat.le_of_ble_eq_true rfl) d_Root_find_15 (fun u2 H locs hp2 hM => ?_)
  have ok2 := wm_ok_up ok1 (wm_up_of (g := u1.2 17) (c := 0) hp2 (by omega) (fun k _ h2 h3 => (ok1 17 (by decide)).2.1 k h2 h3) rfl)
  refine lv_aload_n hC.1 hC.2.1 d_Root_find_18 rfl (lv_at hl 4 rfl) ?_
  refine wm_callVv hC hK hM (As := []) (rest := []) (wm_at_o (by decide)) rfl (c_Whole_clear l D ad cA cR _ (u2.1) (u2.2) 18 (by decide) (ok2 18 (by decide)).1) kc_Whole_clear km_Root_15 ki_Whole kn_Whole_clear ke_Whole_clear kd_Whole_clear ⟨rfl, rfl⟩ ⟨Nat.le_of_ble_eq_true rfl, Nat.le_of_ble_eq_true rfl⟩ rfl hl.1 (Nat.le_of_ble_eq_true rfl) d_Root_find_19 (fun u3 H locs hp3 hM => ?_)
  have ok3 := wm_ok_up ok2 (wm_up_of (g := u2.2 18) (c := 0) hp3 (by omega) (fun k _ h2 h3 => (ok2 18 (by decide)).2.1 k h2 h3) rfl)
  have ra3 : wm_rep (u3.2 a) (u3.1 a) (N a) := by
    have h := ok3 a (by omega)
    rw [va_up_ne _ _ (by omega), va_up_ne _ _ (by omega), va_up_ne _ _ (by omega)] at h
    exact h
  have ea3 : u3.1 a = ln a := wm_rep_uniq ra3 ra
  refine lv_iload hC.1 hC.2.1 d_Root_find_22 (lv_at hl 0 rfl) ?_
  refine nv_if_ne (tgt := 28) hC (by omega) d_Root_find_24 (by decide) (fun hc => ?_) (fun hc => ?_)
  · obtain ⟨c0, hc0⟩ : ∃ z, cnt = z + 1 := ⟨cnt - 1, by omega⟩
    obtain ⟨n, hn⟩ : ∃ n, ln a = n + 1 := ⟨ln a - 1, by omega⟩
    have ra1 : wm_rep (wd a) (n + 1) (N a) := by rw [← hn]; exact ra
    have hb1 := wm_bl_words ra1
    have hb2 : wm_bl (N a) ≤ 32 * ln a := by rw [wm_bl_le, ← wm_p32]; exact wm_rep_lt ra
    have hN0 : 0 < N a := by
      have := (wm_rep_0 ra).mpr
      omega
    obtain ⟨hf, hhf⟩ : ∃ z, z = (64 * cnt - wm_bl (N a)) / 2 := ⟨_, rfl⟩
    obtain ⟨hA1, hA2⟩ := wm_rt_norm (cnt := cnt) hN0 (by omega) hhf
    have hf31 : hf ≤ 31 := by omega
    refine lv_bipush (v := nI 64) hC.1 hC.2.1 d_Root_find_28 (by decide) ?_
    refine lv_iload hC.1 hC.2.1 d_Root_find_30 (lv_at hl 0 rfl) ?_
    refine nv_imul hC d_Root_find_32 ?_
    refine lv_aload_n hC.1 hC.2.1 d_Root_find_33 rfl (lv_at hl 1 rfl) ?_
    refine wm_callVi hC hK hM (As := []) (rest := [.int (nI (64 * cnt))]) (wm_at_o (by omega)) rfl (c_Whole_size l D ad cA cR _ (u3.1) (u3.2) a (N a) (by omega) ra3) kc_Whole_size km_Root_18 ki_Whole kn_Whole_size ke_Whole_size kd_Whole_size ⟨rfl, rfl⟩ ⟨Nat.le_of_ble_eq_true rfl, Nat.le_of_ble_eq_true rfl⟩ rfl hl.1 (Nat.le_of_ble_eq_true rfl) d_Root_find_34 (fun r u H locs hp hM => ?_)
    obtain ⟨rfl, rfl⟩ := hp
    have hM : wm_M D ad cA cR s (u3.1) (u3.2) H locs := by
      exact hM
    refine nv_isub hC (by omega) d_Root_find_37 ?_
    refine lv_iconst (v := nI 2) hC.1 hC.2.1 d_Root_find_38 (by decide) ?_
    refine lv_idiv hC.1 hC.2.1 d_Root_find_39 (by decide) ?_
    refine nv_top (y := nI (((64 * cnt) - (wm_bl (N a))) / 2)) (pk_div (by omega) (by decide) (by decide)) ?_
    refine nv_top (y := nI (hf)) (by rw [hhf]) ?_
    refine lv_istore (lv' := [(5, .int (nI (hf))), (4, .int (nI (cnt))), (0, .ref (ad a)), (1, .ref (ad 16)), (2, .ref (ad 17)), (3, .ref (ad 18))]) hC.1 hC.2.1 d_Root_find_40 hl (by decide) rfl (fun ls hl => ?_)
    refine lv_aload_n hC.1 hC.2.1 d_Root_find_42 rfl (lv_at hl 4 rfl) ?_
    refine lv_aload_n hC.1 hC.2.1 d_Root_find_43 rfl (lv_at hl 2 rfl) ?_
    refine lv_iconst (v := nI 2) hC.1 hC.2.1 d_Root_find_44 (by decide) ?_
    refine lv_iload hC.1 hC.2.1 d_Root_find_45 (lv_at hl 0 rfl) ?_
    refine nv_imul hC d_Root_find_47 ?_
    refine wm_callVv hC hK hM (As := [.ref (ad a), .int (nI (2 * hf))]) (rest := []) (wm_at_o (by decide)) rfl (c_Whole_becomeShiftedLeft l D ad cA cR _ (u3.1) (u3.2) 17 a (N a) (2 * hf) (by decide) (by omega) (by omega) (wm_rep_ze (ok3 17 (by decide))) ra3 (by omega) (by omega)) kc_Whole_becomeShiftedLeft km_Root_22 ki_Whole kn_Whole_becomeShiftedLeft ke_Whole_becomeShiftedLeft kd_Whole_becomeShiftedLeft ⟨rfl, rfl⟩ ⟨Nat.le_of_ble_eq_true rfl, Nat.le_of_ble_eq_true rfl⟩ rfl hl.1 (Nat.le_of_ble_eq_true rfl) d_Root_find_48 (fun u4 H locs hp4 hM => ?_)
    have ok4 := wm_ok_up ok3 hp4
    have r17 := wm_ok_self ok4 (by decide)
    have r18 : wm_rep (u4.2 18) (u4.1 18) 0 := by
      have h := wm_ok_get ok4 (j := 18) (by decide) (by decide)
      rw [va_up_self] at h
      exact h
    have z18 := wm_rep_z r18
    obtain ⟨A, hAd⟩ : ∃ z, z = N a * 2 ^ (2 * hf) := ⟨_, rfl⟩
    rw [← hAd] at r17 hA1 hA2
    refine lv_aload_n hC.1 hC.2.1 d_Root_find_51 rfl (lv_at hl 4 rfl) ?_
    refine wm_wds hC hK hM (j := 17) (by decide) kf_Root_26 d_Root_find_52 ?_
    refine lv_aload_n hC.1 hC.2.1 d_Root_find_55 rfl (lv_at hl 5 rfl) ?_
    refine wm_wds hC hK hM (j := 18) (by decide) kf_Root_26 d_Root_find_56 ?_
    refine lv_iload hC.1 hC.2.1 d_Root_find_59 (lv_at hl 1 rfl) ?_
    refine wm_callSv hC hK hM (As := [.ref (ad (19 + 17)), .ref (ad (19 + 18)), .int (nI (cnt))]) (rest := []) (c_Root_firstWord l D ad cA cR _ (u4.1) (u4.2) c0 cnt hc0 (by omega) (by rw [z18 (c0 + 1) (by omega)]; decide)) kc_Root_firstWord km_Root_30 ki_Root ks_Root_firstWord kd_Root_firstWord ⟨rfl, rfl⟩ ⟨Nat.le_of_ble_eq_true rfl, Nat.le_of_ble_eq_true rfl⟩ rfl hl.1 (Nat.le_of_ble_eq_true rfl) d_Root_find_61 (fun u5 H locs hp5 hM => ?_)
    obtain ⟨w0, e1, e2, e3, rfl⟩ := hp5
    rw [hc0] at hA1 hA2
    have hJ := wm_J_first r17 hA1 hA2 z18 (by omega) e1 e2 e3
    generalize upd (upd (u4.2 17) _ _) _ _ = F0 at hJ hM
    generalize upd (upd (u4.2 18) _ _) _ _ = G0 at hJ hM
    rw [← hc0] at hJ
    have hM : wm_M D ad cA cR s (u4.1) (va_up (va_up u4.2 17 F0) 18 G0) H locs := by
      exact hM
    refine lv_iload hC.1 hC.2.1 d_Root_find_64 (lv_at hl 1 rfl) ?_
    refine lv_iconst (v := nI 2) hC.1 hC.2.1 d_Root_find_66 (by decide) ?_
    refine lv_isub hC.1 hC.2.1 d_Root_find_67 ?_
    refine nv_top (y := nI (c0) + (-1)) (by rw [hc0]; exact nv_sub2) ?_
    refine lv_istore (lv' := [(6, .int (nI (c0) + (-1))), (5, .int (nI (hf))), (4, .int (nI (cnt))), (0, .ref (ad a)), (1, .ref (ad 16)), (2, .ref (ad 17)), (3, .ref (ad 18))]) hC.1 hC.2.1 d_Root_find_68 hl (by decide) rfl (fun ls hl => ?_)
    refine lp_Root_find hC hK u4.1 u4.2 A cnt hf (by omega) (fun s1 fl fd hJ H locs ls hM hl => ?_) (c0 + 1) c0 w0 F0 G0 (by omega) hJ (Nat.le_refl _) _ _ _ hM (lv_sub hl [4, 5, 6, 2, 1, 0] rfl)
    obtain ⟨j1, j2, j3, j4, j5⟩ := hJ
    rw [Nat.mul_zero, Nat.pow_zero, Nat.mul_one] at j1 j2
    rw [Nat.pow_zero, Nat.mul_one] at j3
    rw [Nat.sub_zero] at j5
    refine lv_aload_n hC.1 hC.2.1 d_Root_find_96 rfl (lv_at hl 0 rfl) ?_
    refine lv_aload_n hC.1 hC.2.1 d_Root_find_97 rfl (lv_at hl 1 rfl) ?_
    refine lv_aload_n hC.1 hC.2.1 d_Root_find_98 rfl (lv_at hl 2 rfl) ?_
    refine lv_iload hC.1 hC.2.1 d_Root_find_99 (lv_at hl 3 rfl) ?_
    refine lv_iload hC.1 hC.2.1 d_Root_find_101 (lv_at hl 4 rfl) ?_
    refine wm_callSv hC hK hM (As := [.ref (ad 16), .ref (ad 17), .ref (ad 18), .int (nI (cnt)), .int (nI (hf))]) (rest := []) (c_Root_shiftBack l D ad cA cR _ (u4.1) (va_up (va_up u4.2 17 fl) 18 fd) (va_up (va_up (va_up N 16 0) 17 0) 18 0) cnt hf s1 (wm_v fl 2050) (fun j hj => by rw [va_up_ne _ _ (by omega), va_up_ne _ _ (by omega)]; exact wm_ok_get ok4 (by omega) (by omega)) (ok4 17 (by decide)).1 (ok4 18 (by decide)).1 (by omega) hf31 (by rw [va_up_ne _ _ (by decide), va_up_self]) (by rw [va_up_self]; exact j3) (by omega) j5) kc_Root_shiftBack km_Root_40 ki_Root ks_Root_shiftBack kd_Root_shiftBack ⟨rfl, rfl⟩ ⟨Nat.le_of_ble_eq_true rfl, Nat.le_of_ble_eq_true rfl⟩ rfl hl.1 (Nat.le_of_ble_eq_true rfl) d_Root_find_103 (fun u6 H locs hp6 hM => ?_)
    obtain ⟨h, ok6⟩ := hp6
    have hpp : 0 < 2 ^ hf := Nat.pow_pos (by decide)
    have e2p : 2 ^ (2 * hf) = 2 ^ hf * 2 ^ hf := by rw [← Nat.pow_add]; congr 1; omega
    rw [hAd, e2p] at j1
    obtain ⟨b1, b2, b3⟩ := wm_rt_back (p := 2 ^ hf) (s := s1 / 2 ^ hf) (t := s1 % 2 ^ hf) j1 (by omega) (by have := Nat.mod_add_div s1 (2 ^ hf); rw [Nat.mul_comm (2 ^ hf)] at this; omega) (Nat.mod_lt _ hpp)
    rw [e2p, b3] at ok6
    refine wm_vret hC hK hM hr hlk ⟨h, s1 / 2 ^ hf, b1, wm_sq_lt b1 b2, wm_ok_congr ok6 (fun j hj => ?_)⟩ d_Root_find_106
    simp only [va_up]
    repeat' split
    all_goals first | rfl | omega
  · have hN0 : N a = 0 := (wm_rep_0 ra).mp (by omega)
    refine wm_vret hC hK hM hr hlk ⟨0, 0, by omega, by omega, wm_ok_congr ok3 (fun j hj => ?_)⟩ d_Root_find_27
    rw [hN0]
    simp only [va_up]
    repeat' split
    all_goals first | rfl | omega
end
section
theorem wm_bc_3' : ∀ b, b < 256 → ∀ x, x < 5 → ((wm_bc2 b + wm_bc2 b / 16 + 16 * x) &&& 15) = wm_bc3 b ∧ wm_bc2 b + wm_bc2 b / 16 + 16 * x < 256 ∧ wm_bc2 b % 16 < 5 := by decide +kernel
theorem wm_on_4 {b0 b1 b2 b3 : Nat} (h0 : b0 < 256) (h1 : b1 < 256) (h2 : b2 < 256) (h3 : b3 < 256) : wm_on (b0 + 256 * (b1 + 256 * (b2 + 256 * b3))) 32 = wm_on b0 8 + wm_on b1 8 + wm_on b2 8 + wm_on b3 8 := by
  have s : ∀ b r k : Nat, b < 256 → wm_on (b + 256 * r) (8 + k) = wm_on b 8 + wm_on r k := by
    intro b r k hb
    rw [wm_on_add, ← wm_on_mod (b + 256 * r) 8, show (2 : Nat) ^ 8 = 256 by decide, show (b + 256 * r) % 256 = b by omega, show (b + 256 * r) / 256 = r by omega]
  rw [show (32 : Nat) = 8 + (8 + (8 + 8)) by decide, s _ _ _ h0, s _ _ _ h1, s _ _ _ h2]
  omega
theorem wm_bc_end {x0 x1 x2 x3 : Nat} (h0 : x0 ≤ 8) (h1 : x1 ≤ 8) (h2 : x2 ≤ 8) (h3 : x3 ≤ 8) : (x0 + 256 * (x1 + 256 * (x2 + 256 * x3)) + (x0 + 256 * (x1 + 256 * (x2 + 256 * x3))) / 2 ^ 8 + (x0 + 256 * (x1 + 256 * (x2 + 256 * x3)) + (x0 + 256 * (x1 + 256 * (x2 + 256 * x3))) / 2 ^ 8) / 2 ^ 16) % 2 ^ 6 = x0 + x1 + x2 + x3 := by
  have g1 : (x0 + 256 * (x1 + 256 * (x2 + 256 * x3))) / 2 ^ 8 = x1 + 256 * (x2 + 256 * x3) := by omega
  rw [g1]
  have g2 : (x0 + 256 * (x1 + 256 * (x2 + 256 * x3)) + (x1 + 256 * (x2 + 256 * x3))) / 2 ^ 16 = x2 + x3 + 256 * x3 := by omega
  rw [g2]
  omega
theorem wm_bc {v a1 a2 a3 a4 a5 : Nat} (hv : v < 4294967296) (e1 : a1 = v - (v / 2 ^ 1 &&& 1431655765)) (e2 : a2 = (a1 &&& 858993459) + (a1 / 2 ^ 2 &&& 858993459)) (e3 : a3 = (a2 + a2 / 2 ^ 4) &&& 252645135) (e4 : a4 = a3 + a3 / 2 ^ 8) (e5 : a5 = a4 + a4 / 2 ^ 16) : a5 % 2 ^ 6 = wm_on v 32 := by
  obtain ⟨b0, b1, b2, b3, h0, h1, h2, h3, rfl⟩ : ∃ b0 b1 b2 b3, b0 < 256 ∧ b1 < 256 ∧ b2 < 256 ∧ b3 < 256 ∧ v = b0 + 256 * (b1 + 256 * (b2 + 256 * b3)) := ⟨v % 256, v / 256 % 256, v / 65536 % 256, v / 16777216, by omega, by omega, by omega, by omega, by omega⟩
  have m1 : (1431655765 : Nat) = 85 + 256 * (85 + 256 * (85 + 256 * 85)) := by decide
  have m2 : (858993459 : Nat) = 51 + 256 * (51 + 256 * (51 + 256 * 51)) := by decide
  have m3 : (252645135 : Nat) = 15 + 256 * (15 + 256 * (15 + 256 * 15)) := by decide
  have p0 := wm_bc_1 b0 h0 (b1 % 2) (by omega)
  have p1 := wm_bc_1 b1 h1 (b2 % 2) (by omega)
  have p2 := wm_bc_1 b2 h2 (b3 % 2) (by omega)
  have p3 := wm_bc_1 b3 h3 0 (by omega)
  have f1 : a1 = wm_bc1 b0 + 256 * (wm_bc1 b1 + 256 * (wm_bc1 b2 + 256 * wm_bc1 b3)) := by
    rw [e1, show (b0 + 256 * (b1 + 256 * (b2 + 256 * b3))) / 2 ^ 1 = (b0 / 2 + 128 * (b1 % 2)) + 256 * ((b1 / 2 + 128 * (b2 % 2)) + 256 * ((b2 / 2 + 128 * (b3 % 2)) + 256 * (b3 / 2 + 128 * 0))) by omega, m1, wm_mask4 (by omega) (by omega) (by omega) (by omega) (by decide), p0.1, p1.1, p2.1, p3.1]
    unfold wm_bc1
    have := p0.2
    have := p1.2
    have := p2.2
    have := p3.2
    omega
  have q0 := wm_bc_2 b0 h0 (wm_bc1 b1 % 4) (by omega)
  have q1 := wm_bc_2 b1 h1 (wm_bc1 b2 % 4) (by omega)
  have q2 := wm_bc_2 b2 h2 (wm_bc1 b3 % 4) (by omega)
  have q3 := wm_bc_2 b3 h3 0 (by omega)
  have c0 := q0.2.1
  have c1 := q1.2.1
  have c2 := q2.2.1
  have c3 := q3.2.1
  have f2 : a2 = wm_bc2 b0 + 256 * (wm_bc2 b1 + 256 * (wm_bc2 b2 + 256 * wm_bc2 b3)) := by
    rw [e2, f1, show (wm_bc1 b0 + 256 * (wm_bc1 b1 + 256 * (wm_bc1 b2 + 256 * wm_bc1 b3))) / 2 ^ 2 = (wm_bc1 b0 / 4 + 64 * (wm_bc1 b1 % 4)) + 256 * ((wm_bc1 b1 / 4 + 64 * (wm_bc1 b2 % 4)) + 256 * ((wm_bc1 b2 / 4 + 64 * (wm_bc1 b3 % 4)) + 256 * (wm_bc1 b3 / 4 + 64 * 0))) by omega, m2, wm_mask4 c0 c1 c2 c3 (by decide), wm_mask4 (by omega) (by omega) (by omega) (by omega) (by decide), q0.1, q1.1, q2.1, q3.1]
    unfold wm_bc2
    omega
  have r1 := wm_bc_3' b1 h1 0 (by decide)
  have r2 := wm_bc_3' b2 h2 0 (by decide)
  have r3 := wm_bc_3' b3 h3 0 (by decide)
  have s0 := wm_bc_3' b0 h0 (wm_bc2 b1 % 16) r1.2.2
  have s1 := wm_bc_3' b1 h1 (wm_bc2 b2 % 16) r2.2.2
  have s2 := wm_bc_3' b2 h2 (wm_bc2 b3 % 16) r3.2.2
  have f3 : a3 = wm_on b0 8 + 256 * (wm_on b1 8 + 256 * (wm_on b2 8 + 256 * wm_on b3 8)) := by
    rw [e3, f2, show wm_bc2 b0 + 256 * (wm_bc2 b1 + 256 * (wm_bc2 b2 + 256 * wm_bc2 b3)) + (wm_bc2 b0 + 256 * (wm_bc2 b1 + 256 * (wm_bc2 b2 + 256 * wm_bc2 b3))) / 2 ^ 4 = (wm_bc2 b0 + wm_bc2 b0 / 16 + 16 * (wm_bc2 b1 % 16)) + 256 * ((wm_bc2 b1 + wm_bc2 b1 / 16 + 16 * (wm_bc2 b2 % 16)) + 256 * ((wm_bc2 b2 + wm_bc2 b2 / 16 + 16 * (wm_bc2 b3 % 16)) + 256 * (wm_bc2 b3 + wm_bc2 b3 / 16 + 16 * 0))) by omega, m3, wm_mask4 s0.2.1 s1.2.1 s2.2.1 r3.2.1 (by decide), s0.1, s1.1, s2.1, r3.1, wm_bc_4 b0 h0, wm_bc_4 b1 h1, wm_bc_4 b2 h2, wm_bc_4 b3 h3]
  have o0 := wm_on_le b0 8
  have o1 := wm_on_le b1 8
  have o2 := wm_on_le b2 8
  have o3 := wm_on_le b3 8
  rw [wm_on_4 h0 h1 h2 h3, e5, e4, f3]
  exact wm_bc_end o0 o1 o2 o3
/-! ===== the lowest 1 ===== -/
theorem wm_ntz_fin {v w k : Nat} (hb : wm_bl v = wm_bl w + k) (h1 : 1 ≤ w) (h4 : w ≤ 4) : 1 + k + w / 2 ^ 1 = wm_bl v := by
  have h : wm_bl w = 1 + w / 2 ^ 1 := by
    rcases (show w = 1 ∨ w = 2 ∨ w = 3 ∨ w = 4 by omega) with z | z | z | z <;> subst z <;> decide
  omega
theorem wm_ctz {v : Nat} (h : 0 < v) : ∃ t m, v = 2 ^ t * (2 * m + 1) := by
  induction v using Nat.strongRecOn with
  | ind v ih =>
    rcases Nat.mod_two_eq_zero_or_one v with z | z
    · obtain ⟨t, m, e⟩ := ih (v / 2) (by omega) (by omega)
      refine ⟨t + 1, m, ?_⟩
      rw [Nat.pow_succ, Nat.mul_comm (2 ^ t), Nat.mul_assoc, ← e]
      omega
    · exact ⟨0, v / 2, by rw [Nat.pow_zero, Nat.one_mul]; omega⟩
theorem wm_andk {a b k : Nat} : a &&& b = (a % 2 ^ k &&& b % 2 ^ k) + 2 ^ k * (a / 2 ^ k &&& b / 2 ^ k) := by
  have h3 := Nat.mod_add_div (a &&& b) (2 ^ k)
  rw [Nat.and_mod_two_pow, Nat.and_div_two_pow] at h3
  exact h3.symm
theorem wm_and_c {n m : Nat} (h : m < 2 ^ n) : (2 ^ n - (m + 1)) &&& m = 0 := by
  apply Nat.eq_of_testBit_eq
  intro i
  rw [Nat.testBit_and, Nat.testBit_two_pow_sub_succ h, Nat.zero_testBit]
  cases m.testBit i <;> simp
theorem wm_low_ones {t m : Nat} (h : 2 ^ t * (2 * m + 1) < 4294967296) : (4294967296 - (2 ^ t * (2 * m + 1) + 1)) &&& (2 ^ t * (2 * m + 1) - 1) = 2 ^ t - 1 := by
  have hp : 0 < 2 ^ t := Nat.pow_pos (by decide)
  have ht : t < 32 := by
    rcases Nat.lt_or_ge t 32 with z | z
    · exact z
    · have h1 : 2 ^ 32 ≤ 2 ^ t := Nat.pow_le_pow_right (by decide) z
      have h2 : 2 ^ t * 1 ≤ 2 ^ t * (2 * m + 1) := Nat.mul_le_mul_left _ (by omega)
      omega
  have e0 : 4294967296 = 2 ^ (t + 1) * 2 ^ (31 - t) := by rw [← Nat.pow_add, show t + 1 + (31 - t) = 32 by omega]
  have e1 : 2 ^ t * (2 * m + 1) = 2 ^ (t + 1) * m + 2 ^ t := by rw [Nat.pow_succ, Nat.mul_add, Nat.mul_one, Nat.mul_assoc]
  have e2 : 2 ^ (t + 1) = 2 * 2 ^ t := by rw [Nat.pow_succ, Nat.mul_comm]
  have hm : m < 2 ^ (31 - t) := by
    rw [e1] at h
    have h3 : 2 ^ (t + 1) * m < 2 ^ (t + 1) * 2 ^ (31 - t) := by omega
    exact Nat.lt_of_mul_lt_mul_left h3
  obtain ⟨m', hm'⟩ : ∃ z, z = 2 ^ (31 - t) - (m + 1) := ⟨_, rfl⟩
  have e3 : 4294967296 - (2 ^ t * (2 * m + 1) + 1) = 2 ^ (t + 1) * m' + (2 ^ t - 1) := by
    have e5 : 2 ^ (31 - t) = m' + m + 1 := by omega
    rw [e1, e0, e5, Nat.mul_add, Nat.mul_add, Nat.mul_one]
    omega
  have e4 : 2 ^ t * (2 * m + 1) - 1 = 2 ^ (t + 1) * m + (2 ^ t - 1) := by omega
  have d : ∀ z : Nat, (2 ^ (t + 1) * z + (2 ^ t - 1)) % 2 ^ (t + 1) = 2 ^ t - 1 ∧ (2 ^ (t + 1) * z + (2 ^ t - 1)) / 2 ^ (t + 1) = z := by
    intro z
    constructor
    · rw [Nat.add_comm, Nat.add_mul_mod_self_left, Nat.mod_eq_of_lt (by omega)]
    · rw [Nat.add_comm, Nat.add_mul_div_left _ _ (by omega), Nat.div_eq_of_lt (by omega), Nat.zero_add]
  rw [e3, e4, wm_andk (k := t + 1), (d m').1, (d m').2, (d m).1, (d m).2, hm', wm_and_c hm, Nat.mul_zero, Nat.add_zero, Nat.and_self]
theorem wm_xorm (x : Int32) : x ^^^ (-1) = nI (4294967296 - (wm_u x + 1)) := by
  apply wm_u_inj
  have h := wm_u_lt x
  rw [wm_un' (by omega)]
  show (x ^^^ (-1)).toBitVec.toNat = _
  rw [Int32.toBitVec_xor, show (-1 : Int32).toBitVec = BitVec.allOnes 32 by decide, BitVec.xor_allOnes]
  rw [BitVec.toNat_not]
  unfold wm_u
  omega
theorem wm_bl_ones {t : Nat} : wm_bl (2 ^ t - 1) = t := by
  have hp : 0 < 2 ^ t := Nat.pow_pos (by decide)
  refine wm_bl_of (by omega) ?_
  rcases Nat.eq_zero_or_pos t with z | z
  · exact Or.inl z
  · refine Or.inr ?_
    obtain ⟨s, rfl⟩ : ∃ s, t = s + 1 := ⟨t - 1, by omega⟩
    have h2 : 0 < 2 ^ s := Nat.pow_pos (by decide)
    rw [Nat.add_sub_cancel, Nat.pow_succ]
    omega
end
section
/-- the lowest 1 of a number, out of its lowest word that isn't 0 -/
theorem wm_low_at {f : Nat → Int32} {n N k t : Nat} (h : wm_rep f n N) (hk : k < n) (hz : ∀ q, q < k → f q = 0) (ht : t < 32) (t1 : wm_u (f k) % 2 ^ t = 0) (t2 : wm_u (f k) / 2 ^ t % 2 = 1) : N % 2 ^ (32 * k + t) = 0 ∧ N / 2 ^ (32 * k + t) % 2 = 1 := by
  obtain ⟨d, rfl⟩ : ∃ d, n = k + (d + 1) := ⟨n - k - 1, by omega⟩
  have e : wm_v f (k + (d + 1)) = N := h.2.2.2
  rw [wm_v_lead hz, wm_v_first] at e
  have hp := wm_pp k
  have hp2 : 0 < 2 ^ t := Nat.pow_pos (by decide)
  obtain ⟨M, hM⟩ : ∃ z, z = wm_u (f k) + 4294967296 * wm_v (wm_off f (k + 1)) d := ⟨_, rfl⟩
  rw [← hM] at e
  have e4 : (4294967296 : Nat) = 2 ^ t * (2 * 2 ^ (31 - t)) := by
    rw [← Nat.mul_assoc, Nat.mul_comm (2 ^ t), Nat.mul_assoc, ← Nat.pow_add, show t + (31 - t) = 31 by omega]
  have m0 : M = wm_u (f k) + 2 ^ t * (2 * (2 ^ (31 - t) * wm_v (wm_off f (k + 1)) d)) := by
    rw [hM, e4, Nat.mul_assoc, Nat.mul_assoc]
  have m1 : M % 2 ^ t = 0 := by rw [m0, Nat.add_mul_mod_self_left]; exact t1
  have m2 : M / 2 ^ t % 2 = 1 := by rw [m0, Nat.add_mul_div_left _ _ hp2, Nat.add_mul_mod_self_left]; exact t2
  have e5 : 2 ^ (32 * k + t) = 4294967296 ^ k * 2 ^ t := by rw [wm_p32, Nat.pow_add]
  rw [e5, ← e]
  constructor
  · rw [Nat.mul_mod_mul_left, m1, Nat.mul_zero]
  · rw [Nat.mul_div_mul_left _ _ hp]
    exact m2
end
section
set_option maxHeartbeats 4000000 in
set_option maxRecDepth 100000 in
theorem c_Int_bitCount (l : Launch) (sz : Nat) (x : Int32) : Met l y_Int_bitCount (Cond.code y_Int_bitCount b_Int_bitCount 1 (some .int) :: lw_T) ({ frames := 0, cells := 0, slots := 0, locals := 0 }) (pu_Pc [.int (x)] sz) (pu_Qi (fun r => r = nI (wm_on (wm_u x) 32)) sz) 0 0 (fun q => sz ≤ q) := by
  refine pu_met l (by decide) (Nat.le_of_ble_eq_true rfl) ?_
  intro p e s m below meth c ls hsz hC hr hlk hl
  subst hsz
  have hM : pu_H s s.heap [] := va_S.rf
  have hC : CallFix p m c b_Int_bitCount 1 s _ lw_T R_Int := hC
  have hl : lv_has ls 1 [(0, .int (x))] := hl
  obtain ⟨v, hv, rfl⟩ : ∃ v, v < 4294967296 ∧ x = nI v := ⟨wm_u x, wm_u_lt x, (wm_nu x).symm⟩
  rw [wm_un' hv]
  refine lv_iload_n hC.1 hC.2.1 d_Int_bitCount_0 rfl (lv_at hl 0 rfl) ?_
  refine lv_iload_n hC.1 hC.2.1 d_Int_bitCount_1 rfl (lv_at hl 0 rfl) ?_
  refine lv_iconst (v := nI 1) hC.1 hC.2.1 d_Int_bitCount_2 (by decide) ?_
  refine nv_iushr hC (by omega) (by decide) d_Int_bitCount_3 ?_
  refine lv_ldcw (v := nI 1431655765) hC.1 hC.2.1 hC.2.2.2.1 (hC.2.2.2.2 _ kk_Int_265) d_Int_bitCount_4 ?_
  refine nv_iandm hC d_Int_bitCount_7 ?_
  refine nv_isub hC (Nat.le_trans Nat.and_le_left (Nat.div_le_self _ _)) d_Int_bitCount_8 ?_
  obtain ⟨a1, e1⟩ : ∃ z, z = v - (v / 2 ^ 1 &&& 1431655765) := ⟨_, rfl⟩
  refine nv_top (y := nI (a1)) (by rw [e1]) ?_
  refine lv_istore_n (lv' := [(0, .int (nI (a1)))]) hC.1 hC.2.1 d_Int_bitCount_9 rfl hl (by decide) rfl (fun ls hl => ?_)
  refine lv_iload_n hC.1 hC.2.1 d_Int_bitCount_10 rfl (lv_at hl 0 rfl) ?_
  refine lv_ldcw (v := nI 858993459) hC.1 hC.2.1 hC.2.2.2.1 (hC.2.2.2.2 _ kk_Int_266) d_Int_bitCount_11 ?_
  refine nv_iandm hC d_Int_bitCount_14 ?_
  refine lv_iload_n hC.1 hC.2.1 d_Int_bitCount_15 rfl (lv_at hl 0 rfl) ?_
  refine lv_iconst (v := nI 2) hC.1 hC.2.1 d_Int_bitCount_16 (by decide) ?_
  refine nv_iushr hC (by omega) (by decide) d_Int_bitCount_17 ?_
  refine lv_ldcw (v := nI 858993459) hC.1 hC.2.1 hC.2.2.2.1 (hC.2.2.2.2 _ kk_Int_266) d_Int_bitCount_18 ?_
  refine nv_iandm hC d_Int_bitCount_21 ?_
  refine nv_iadd hC d_Int_bitCount_22 ?_
  obtain ⟨a2, e2⟩ : ∃ z, z = (a1 &&& 858993459) + (a1 / 2 ^ 2 &&& 858993459) := ⟨_, rfl⟩
  have b2 : a2 ≤ 858993459 + 858993459 := by rw [e2]; exact Nat.add_le_add Nat.and_le_right Nat.and_le_right
  refine nv_top (y := nI (a2)) (by rw [e2]) ?_
  refine lv_istore_n (lv' := [(0, .int (nI (a2)))]) hC.1 hC.2.1 d_Int_bitCount_23 rfl hl (by decide) rfl (fun ls hl => ?_)
  refine lv_iload_n hC.1 hC.2.1 d_Int_bitCount_24 rfl (lv_at hl 0 rfl) ?_
  refine lv_iload_n hC.1 hC.2.1 d_Int_bitCount_25 rfl (lv_at hl 0 rfl) ?_
  refine lv_iconst (v := nI 4) hC.1 hC.2.1 d_Int_bitCount_26 (by decide) ?_
  refine nv_iushr hC (by omega) (by decide) d_Int_bitCount_27 ?_
  refine nv_iadd hC d_Int_bitCount_28 ?_
  refine lv_ldcw (v := nI 252645135) hC.1 hC.2.1 hC.2.2.2.1 (hC.2.2.2.2 _ kk_Int_267) d_Int_bitCount_29 ?_
  refine nv_iandm hC d_Int_bitCount_32 ?_
  obtain ⟨a3, e3⟩ : ∃ z, z = (a2 + a2 / 2 ^ 4) &&& 252645135 := ⟨_, rfl⟩
  have b3 : a3 ≤ 252645135 := by rw [e3]; exact Nat.and_le_right
  refine nv_top (y := nI (a3)) (by rw [e3]) ?_
  refine lv_istore_n (lv' := [(0, .int (nI (a3)))]) hC.1 hC.2.1 d_Int_bitCount_33 rfl hl (by decide) rfl (fun ls hl => ?_)
  refine lv_iload_n hC.1 hC.2.1 d_Int_bitCount_34 rfl (lv_at hl 0 rfl) ?_
  refine lv_iload_n hC.1 hC.2.1 d_Int_bitCount_35 rfl (lv_at hl 0 rfl) ?_
  refine lv_bipush (v := nI 8) hC.1 hC.2.1 d_Int_bitCount_36 (by decide) ?_
  refine nv_iushr hC (by omega) (by decide) d_Int_bitCount_38 ?_
  refine nv_iadd hC d_Int_bitCount_39 ?_
  obtain ⟨a4, e4⟩ : ∃ z, z = a3 + a3 / 2 ^ 8 := ⟨_, rfl⟩
  refine nv_top (y := nI (a4)) (by rw [e4]) ?_
  refine lv_istore_n (lv' := [(0, .int (nI (a4)))]) hC.1 hC.2.1 d_Int_bitCount_40 rfl hl (by decide) rfl (fun ls hl => ?_)
  refine lv_iload_n hC.1 hC.2.1 d_Int_bitCount_41 rfl (lv_at hl 0 rfl) ?_
  refine lv_iload_n hC.1 hC.2.1 d_Int_bitCount_42 rfl (lv_at hl 0 rfl) ?_
  refine lv_bipush (v := nI 16) hC.1 hC.2.1 d_Int_bitCount_43 (by decide) ?_
  refine nv_iushr hC (by omega) (by decide) d_Int_bitCount_45 ?_
  refine nv_iadd hC d_Int_bitCount_46 ?_
  obtain ⟨a5, e5⟩ : ∃ z, z = a4 + a4 / 2 ^ 16 := ⟨_, rfl⟩
  refine nv_top (y := nI (a5)) (by rw [e5]) ?_
  refine lv_istore_n (lv' := [(0, .int (nI (a5)))]) hC.1 hC.2.1 d_Int_bitCount_47 rfl hl (by decide) rfl (fun ls hl => ?_)
  refine lv_iload_n hC.1 hC.2.1 d_Int_bitCount_48 rfl (lv_at hl 0 rfl) ?_
  refine lv_bipush (v := nI 63) hC.1 hC.2.1 d_Int_bitCount_49 (by decide) ?_
  refine nv_iand (k := 6) hC (by omega) (by decide) d_Int_bitCount_51 ?_
  exact pu_iret hC hr hM hlk (congrArg nI (wm_bc hv e1 e2 e3 e4 e5)) d_Int_bitCount_52
set_option maxHeartbeats 4000000 in
set_option maxRecDepth 100000 in
theorem c_Int_numberOfTrailingZeros (l : Launch) (sz : Nat) (x : Int32) (hne : ¬ x = 0) : Met l y_Int_numberOfTrailingZeros (Cond.code y_Int_numberOfTrailingZeros b_Int_numberOfTrailingZeros 2 (some .int) :: lw_T) ({ frames := 0, cells := 0, slots := 0, locals := 0 }) (pu_Pc [.int (x)] sz) (pu_Qi (fun r => ∃ t : Nat, t < 32 ∧ wm_u x % 2 ^ t = 0 ∧ wm_u x / 2 ^ t % 2 = 1 ∧ r = nI t) sz) 0 0 (fun q => sz ≤ q) := by
  refine pu_met l (by decide) (Nat.le_of_ble_eq_true rfl) ?_
  intro p e s m below meth c ls hsz hC hr hlk hl
  subst hsz
  have hM : pu_H s s.heap [] := va_S.rf
  have hC : CallFix p m c b_Int_numberOfTrailingZeros 2 s _ lw_T R_Int := hC
  have hl : lv_has ls 2 [(0, .int (x))] := hl
  have hx := wm_u_lt x
  obtain ⟨t, m, ev⟩ := wm_ctz (wm_u_nz hne)
  have hp : 0 < 2 ^ t := Nat.pow_pos (by decide)
  have hle : 2 ^ t * 1 ≤ 2 ^ t * (2 * m + 1) := Nat.mul_le_mul_left _ (by omega)
  have hlow := wm_low_ones (t := t) (m := m) (by rw [← ev]; exact hx)
  rw [← ev] at hlow hle
  have hmod : wm_u x % 2 ^ t = 0 := by rw [ev]; exact Nat.mul_mod_right _ _
  have hdiv : wm_u x / 2 ^ t % 2 = 1 := by rw [ev, Nat.mul_div_cancel_left _ hp]; omega
  have ht32 : t < 32 := by
    rcases Nat.lt_or_ge t 32 with z | z
    · exact z
    · have h1 : 2 ^ 32 ≤ 2 ^ t := Nat.pow_le_pow_right (by decide) z
      omega
  have hbl := wm_bl_ones (t := t)
  have hv31 : 2 ^ t ≤ 2 ^ 31 := Nat.pow_le_pow_right (by decide) (by omega)
  obtain ⟨v, hv⟩ : ∃ z, z = 2 ^ t - 1 := ⟨_, rfl⟩
  rw [← hv] at hbl hlow
  refine lv_iload_n hC.1 hC.2.1 d_Int_numberOfTrailingZeros_0 rfl (lv_at hl 0 rfl) ?_
  refine lv_iconst (v := -1) hC.1 hC.2.1 d_Int_numberOfTrailingZeros_1 (by decide) ?_
  refine lv_ixor hC.1 hC.2.1 d_Int_numberOfTrailingZeros_2 ?_
  refine nv_top (y := nI (4294967296 - (wm_u x + 1))) (wm_xorm x) ?_
  refine lv_iload_n hC.1 hC.2.1 d_Int_numberOfTrailingZeros_3 rfl (lv_at hl 0 rfl) ?_
  refine nv_top (y := nI (wm_u x)) (wm_nu x).symm ?_
  refine lv_iconst (v := nI 1) hC.1 hC.2.1 d_Int_numberOfTrailingZeros_4 (by decide) ?_
  refine nv_isub hC (by omega) d_Int_numberOfTrailingZeros_5 ?_
  refine nv_iandm hC d_Int_numberOfTrailingZeros_6 ?_
  refine nv_top (y := nI (v)) (by rw [hlow]) ?_
  refine lv_istore_n (lv' := [(0, .int (nI (v)))]) hC.1 hC.2.1 d_Int_numberOfTrailingZeros_7 rfl hl (by decide) rfl (fun ls hl => ?_)
  refine lv_iload_n hC.1 hC.2.1 d_Int_numberOfTrailingZeros_8 rfl (lv_at hl 0 rfl) ?_
  refine lv_if_gt (tgt := 17) hC.1 hC.2.1 d_Int_numberOfTrailingZeros_9 (by decide) (fun h0 => ?_) (fun h0 => ?_)
  · have hv0 : 0 < v := (nI_ltI (a := 0) (by decide) (by omega)).mp h0
    have hb : wm_bl v = wm_bl v + 0 := rfl
    refine lv_iconst (v := nI 1) hC.1 hC.2.1 d_Int_numberOfTrailingZeros_17 (by decide) ?_
    refine lv_istore_n (lv' := [(1, .int (nI (1))), (0, .int (nI (v)))]) hC.1 hC.2.1 d_Int_numberOfTrailingZeros_18 rfl hl (by decide) rfl (fun ls hl => ?_)
    refine lv_iload_n hC.1 hC.2.1 d_Int_numberOfTrailingZeros_19 rfl (lv_at hl 1 rfl) ?_
    refine lv_ldcw (v := nI 65536) hC.1 hC.2.1 hC.2.2.2.1 (hC.2.2.2.2 _ kk_Int_264) d_Int_numberOfTrailingZeros_20 ?_
    refine nv_icmp_le (tgt := 34) hC (by omega) (by omega) d_Int_numberOfTrailingZeros_23 (by decide) (fun hc16 => ?_) (fun hc16 => ?_)
    · refine lv_iload_n hC.1 hC.2.1 d_Int_numberOfTrailingZeros_34 rfl (lv_at hl 1 rfl) ?_
      refine lv_sipush (v := nI 256) hC.1 hC.2.1 d_Int_numberOfTrailingZeros_35 (by decide) ?_
      refine nv_icmp_le (tgt := 49) hC (by omega) (by omega) d_Int_numberOfTrailingZeros_38 (by decide) (fun hc8 => ?_) (fun hc8 => ?_)
      · refine lv_iload_n hC.1 hC.2.1 d_Int_numberOfTrailingZeros_49 rfl (lv_at hl 1 rfl) ?_
        refine lv_bipush (v := nI 16) hC.1 hC.2.1 d_Int_numberOfTrailingZeros_50 (by decide) ?_
        refine nv_icmp_le (tgt := 62) hC (by omega) (by omega) d_Int_numberOfTrailingZeros_52 (by decide) (fun hc4 => ?_) (fun hc4 => ?_)
        · refine lv_iload_n hC.1 hC.2.1 d_Int_numberOfTrailingZeros_62 rfl (lv_at hl 1 rfl) ?_
          refine lv_iconst (v := nI 4) hC.1 hC.2.1 d_Int_numberOfTrailingZeros_63 (by decide) ?_
          refine nv_icmp_le (tgt := 74) hC (by omega) (by omega) d_Int_numberOfTrailingZeros_64 (by decide) (fun hc2 => ?_) (fun hc2 => ?_)
          · refine lv_iload_n hC.1 hC.2.1 d_Int_numberOfTrailingZeros_74 rfl (lv_at hl 0 rfl) ?_
            refine lv_iload_n hC.1 hC.2.1 d_Int_numberOfTrailingZeros_75 rfl (lv_at hl 1 rfl) ?_
            refine lv_iconst (v := nI 1) hC.1 hC.2.1 d_Int_numberOfTrailingZeros_76 (by decide) ?_
            refine nv_iushr hC (by omega) (by decide) d_Int_numberOfTrailingZeros_77 ?_
            refine nv_iadd hC d_Int_numberOfTrailingZeros_78 ?_
            refine pu_iret hC hr hM hlk ⟨t, ht32, hmod, hdiv, ?_⟩ d_Int_numberOfTrailingZeros_79
            exact congrArg nI (by rw [← hbl]; exact wm_ntz_fin hb (by omega) (by omega))
          · refine lv_iinc (v := nI (3)) (lv' := [(1, .int (nI (3))), (0, .int (nI (v)))]) hC.1 hC.2.1 d_Int_numberOfTrailingZeros_67 hl (k := 0) rfl (by decide) (by decide) rfl (fun ls hl => ?_)
            refine lv_iload_n hC.1 hC.2.1 d_Int_numberOfTrailingZeros_70 rfl (lv_at hl 1 rfl) ?_
            refine lv_iconst (v := nI 2) hC.1 hC.2.1 d_Int_numberOfTrailingZeros_71 (by decide) ?_
            refine nv_iushr hC (by omega) (by decide) d_Int_numberOfTrailingZeros_72 ?_
            refine lv_istore_n (lv' := [(0, .int (nI (v / 2 ^ 2))), (1, .int (nI (3)))]) hC.1 hC.2.1 d_Int_numberOfTrailingZeros_73 rfl hl (by decide) rfl (fun ls hl => ?_)
            have hb : wm_bl v = wm_bl (v / 2 ^ 2) + 2 := by rw [hb, wm_bl_div (k := 2) (by omega)]
            refine lv_iload_n hC.1 hC.2.1 d_Int_numberOfTrailingZeros_74 rfl (lv_at hl 1 rfl) ?_
            refine lv_iload_n hC.1 hC.2.1 d_Int_numberOfTrailingZeros_75 rfl (lv_at hl 0 rfl) ?_
            refine lv_iconst (v := nI 1) hC.1 hC.2.1 d_Int_numberOfTrailingZeros_76 (by decide) ?_
            refine nv_iushr hC (by omega) (by decide) d_Int_numberOfTrailingZeros_77 ?_
            refine nv_iadd hC d_Int_numberOfTrailingZeros_78 ?_
            refine pu_iret hC hr hM hlk ⟨t, ht32, hmod, hdiv, ?_⟩ d_Int_numberOfTrailingZeros_79
            exact congrArg nI (by rw [← hbl]; exact wm_ntz_fin hb (by omega) (by omega))
        · refine lv_iinc (v := nI (5)) (lv' := [(1, .int (nI (5))), (0, .int (nI (v)))]) hC.1 hC.2.1 d_Int_numberOfTrailingZeros_55 hl (k := 0) rfl (by decide) (by decide) rfl (fun ls hl => ?_)
          refine lv_iload_n hC.1 hC.2.1 d_Int_numberOfTrailingZeros_58 rfl (lv_at hl 1 rfl) ?_
          refine lv_iconst (v := nI 4) hC.1 hC.2.1 d_Int_numberOfTrailingZeros_59 (by decide) ?_
          refine nv_iushr hC (by omega) (by decide) d_Int_numberOfTrailingZeros_60 ?_
          refine lv_istore_n (lv' := [(0, .int (nI (v / 2 ^ 4))), (1, .int (nI (5)))]) hC.1 hC.2.1 d_Int_numberOfTrailingZeros_61 rfl hl (by decide) rfl (fun ls hl => ?_)
          have hb : wm_bl v = wm_bl (v / 2 ^ 4) + 4 := by rw [hb, wm_bl_div (k := 4) (by omega)]
          refine lv_iload_n hC.1 hC.2.1 d_Int_numberOfTrailingZeros_62 rfl (lv_at hl 0 rfl) ?_
          refine lv_iconst (v := nI 4) hC.1 hC.2.1 d_Int_numberOfTrailingZeros_63 (by decide) ?_
          refine nv_icmp_le (tgt := 74) hC (by omega) (by omega) d_Int_numberOfTrailingZeros_64 (by decide) (fun hc2 => ?_) (fun hc2 => ?_)
          · refine lv_iload_n hC.1 hC.2.1 d_Int_numberOfTrailingZeros_74 rfl (lv_at hl 1 rfl) ?_
            refine lv_iload_n hC.1 hC.2.1 d_Int_numberOfTrailingZeros_75 rfl (lv_at hl 0 rfl) ?_
            refine lv_iconst (v := nI 1) hC.1 hC.2.1 d_Int_numberOfTrailingZeros_76 (by decide) ?_
            refine nv_iushr hC (by omega) (by decide) d_Int_numberOfTrailingZeros_77 ?_
            refine nv_iadd hC d_Int_numberOfTrailingZeros_78 ?_
            refine pu_iret hC hr hM hlk ⟨t, ht32, hmod, hdiv, ?_⟩ d_Int_numberOfTrailingZeros_79
            exact congrArg nI (by rw [← hbl]; exact wm_ntz_fin hb (by omega) (by omega))
          · refine lv_iinc (v := nI (7)) (lv' := [(1, .int (nI (7))), (0, .int (nI (v / 2 ^ 4)))]) hC.1 hC.2.1 d_Int_numberOfTrailingZeros_67 hl (k := 1) rfl (by decide) (by decide) rfl (fun ls hl => ?_)
            refine lv_iload_n hC.1 hC.2.1 d_Int_numberOfTrailingZeros_70 rfl (lv_at hl 1 rfl) ?_
            refine lv_iconst (v := nI 2) hC.1 hC.2.1 d_Int_numberOfTrailingZeros_71 (by decide) ?_
            refine nv_iushr hC (by omega) (by decide) d_Int_numberOfTrailingZeros_72 ?_
            refine lv_istore_n (lv' := [(0, .int (nI ((v / 2 ^ 4) / 2 ^ 2))), (1, .int (nI (7)))]) hC.1 hC.2.1 d_Int_numberOfTrailingZeros_73 rfl hl (by decide) rfl (fun ls hl => ?_)
            have hb : wm_bl v = wm_bl ((v / 2 ^ 4) / 2 ^ 2) + 6 := by rw [hb, wm_bl_div (k := 2) (by omega)]
            refine lv_iload_n hC.1 hC.2.1 d_Int_numberOfTrailingZeros_74 rfl (lv_at hl 1 rfl) ?_
            refine lv_iload_n hC.1 hC.2.1 d_Int_numberOfTrailingZeros_75 rfl (lv_at hl 0 rfl) ?_
            refine lv_iconst (v := nI 1) hC.1 hC.2.1 d_Int_numberOfTrailingZeros_76 (by decide) ?_
            refine nv_iushr hC (by omega) (by decide) d_Int_numberOfTrailingZeros_77 ?_
            refine nv_iadd hC d_Int_numberOfTrailingZeros_78 ?_
            refine pu_iret hC hr hM hlk ⟨t, ht32, hmod, hdiv, ?_⟩ d_Int_numberOfTrailingZeros_79
            exact congrArg nI (by rw [← hbl]; exact wm_ntz_fin hb (by omega) (by omega))
      · refine lv_iinc (v := nI (9)) (lv' := [(1, .int (nI (9))), (0, .int (nI (v)))]) hC.1 hC.2.1 d_Int_numberOfTrailingZeros_41 hl (k := 0) rfl (by decide) (by decide) rfl (fun ls hl => ?_)
        refine lv_iload_n hC.1 hC.2.1 d_Int_numberOfTrailingZeros_44 rfl (lv_at hl 1 rfl) ?_
        refine lv_bipush (v := nI 8) hC.1 hC.2.1 d_Int_numberOfTrailingZeros_45 (by decide) ?_
        refine nv_iushr hC (by omega) (by decide) d_Int_numberOfTrailingZeros_47 ?_
        refine lv_istore_n (lv' := [(0, .int (nI (v / 2 ^ 8))), (1, .int (nI (9)))]) hC.1 hC.2.1 d_Int_numberOfTrailingZeros_48 rfl hl (by decide) rfl (fun ls hl => ?_)
        have hb : wm_bl v = wm_bl (v / 2 ^ 8) + 8 := by rw [hb, wm_bl_div (k := 8) (by omega)]
        refine lv_iload_n hC.1 hC.2.1 d_Int_numberOfTrailingZeros_49 rfl (lv_at hl 0 rfl) ?_
        refine lv_bipush (v := nI 16) hC.1 hC.2.1 d_Int_numberOfTrailingZeros_50 (by decide) ?_
        refine nv_icmp_le (tgt := 62) hC (by omega) (by omega) d_Int_numberOfTrailingZeros_52 (by decide) (fun hc4 => ?_) (fun hc4 => ?_)
        · refine lv_iload_n hC.1 hC.2.1 d_Int_numberOfTrailingZeros_62 rfl (lv_at hl 0 rfl) ?_
          refine lv_iconst (v := nI 4) hC.1 hC.2.1 d_Int_numberOfTrailingZeros_63 (by decide) ?_
          refine nv_icmp_le (tgt := 74) hC (by omega) (by omega) d_Int_numberOfTrailingZeros_64 (by decide) (fun hc2 => ?_) (fun hc2 => ?_)
          · refine lv_iload_n hC.1 hC.2.1 d_Int_numberOfTrailingZeros_74 rfl (lv_at hl 1 rfl) ?_
            refine lv_iload_n hC.1 hC.2.1 d_Int_numberOfTrailingZeros_75 rfl (lv_at hl 0 rfl) ?_
            refine lv_iconst (v := nI 1) hC.1 hC.2.1 d_Int_numberOfTrailingZeros_76 (by decide) ?_
            refine nv_iushr hC (by omega) (by decide) d_Int_numberOfTrailingZeros_77 ?_
            refine nv_iadd hC d_Int_numberOfTrailingZeros_78 ?_
            refine pu_iret hC hr hM hlk ⟨t, ht32, hmod, hdiv, ?_⟩ d_Int_numberOfTrailingZeros_79
            exact congrArg nI (by rw [← hbl]; exact wm_ntz_fin hb (by omega) (by omega))
          · refine lv_iinc (v := nI (11)) (lv' := [(1, .int (nI (11))), (0, .int (nI (v / 2 ^ 8)))]) hC.1 hC.2.1 d_Int_numberOfTrailingZeros_67 hl (k := 1) rfl (by decide) (by decide) rfl (fun ls hl => ?_)
            refine lv_iload_n hC.1 hC.2.1 d_Int_numberOfTrailingZeros_70 rfl (lv_at hl 1 rfl) ?_
            refine lv_iconst (v := nI 2) hC.1 hC.2.1 d_Int_numberOfTrailingZeros_71 (by decide) ?_
            refine nv_iushr hC (by omega) (by decide) d_Int_numberOfTrailingZeros_72 ?_
            refine lv_istore_n (lv' := [(0, .int (nI ((v / 2 ^ 8) / 2 ^ 2))), (1, .int (nI (11)))]) hC.1 hC.2.1 d_Int_numberOfTrailingZeros_73 rfl hl (by decide) rfl (fun ls hl => ?_)
            have hb : wm_bl v = wm_bl ((v / 2 ^ 8) / 2 ^ 2) + 10 := by rw [hb, wm_bl_div (k := 2) (by omega)]
            refine lv_iload_n hC.1 hC.2.1 d_Int_numberOfTrailingZeros_74 rfl (lv_at hl 1 rfl) ?_
            refine lv_iload_n hC.1 hC.2.1 d_Int_numberOfTrailingZeros_75 rfl (lv_at hl 0 rfl) ?_
            refine lv_iconst (v := nI 1) hC.1 hC.2.1 d_Int_numberOfTrailingZeros_76 (by decide) ?_
            refine nv_iushr hC (by omega) (by decide) d_Int_numberOfTrailingZeros_77 ?_
            refine nv_iadd hC d_Int_numberOfTrailingZeros_78 ?_
            refine pu_iret hC hr hM hlk ⟨t, ht32, hmod, hdiv, ?_⟩ d_Int_numberOfTrailingZeros_79
            exact congrArg nI (by rw [← hbl]; exact wm_ntz_fin hb (by omega) (by omega))
        · refine lv_iinc (v := nI (13)) (lv' := [(1, .int (nI (13))), (0, .int (nI (v / 2 ^ 8)))]) hC.1 hC.2.1 d_Int_numberOfTrailingZeros_55 hl (k := 1) rfl (by decide) (by decide) rfl (fun ls hl => ?_)
          refine lv_iload_n hC.1 hC.2.1 d_Int_numberOfTrailingZeros_58 rfl (lv_at hl 1 rfl) ?_
          refine lv_iconst (v := nI 4) hC.1 hC.2.1 d_Int_numberOfTrailingZeros_59 (by decide) ?_
          refine nv_iushr hC (by omega) (by decide) d_Int_numberOfTrailingZeros_60 ?_
          refine lv_istore_n (lv' := [(0, .int (nI ((v / 2 ^ 8) / 2 ^ 4))), (1, .int (nI (13)))]) hC.1 hC.2.1 d_Int_numberOfTrailingZeros_61 rfl hl (by decide) rfl (fun ls hl => ?_)
          have hb : wm_bl v = wm_bl ((v / 2 ^ 8) / 2 ^ 4) + 12 := by rw [hb, wm_bl_div (k := 4) (by omega)]
          refine lv_iload_n hC.1 hC.2.1 d_Int_numberOfTrailingZeros_62 rfl (lv_at hl 0 rfl) ?_
          refine lv_iconst (v := nI 4) hC.1 hC.2.1 d_Int_numberOfTrailingZeros_63 (by decide) ?_
          refine nv_icmp_le (tgt := 74) hC (by omega) (by omega) d_Int_numberOfTrailingZeros_64 (by decide) (fun hc2 => ?_) (fun hc2 => ?_)
          · refine lv_iload_n hC.1 hC.2.1 d_Int_numberOfTrailingZeros_74 rfl (lv_at hl 1 rfl) ?_
            refine lv_iload_n hC.1 hC.2.1 d_Int_numberOfTrailingZeros_75 rfl (lv_at hl 0 rfl) ?_
            refine lv_iconst (v := nI 1) hC.1 hC.2.1 d_Int_numberOfTrailingZeros_76 (by decide) ?_
            refine nv_iushr hC (by omega) (by decide) d_Int_numberOfTrailingZeros_77 ?_
            refine nv_iadd hC d_Int_numberOfTrailingZeros_78 ?_
            refine pu_iret hC hr hM hlk ⟨t, ht32, hmod, hdiv, ?_⟩ d_Int_numberOfTrailingZeros_79
            exact congrArg nI (by rw [← hbl]; exact wm_ntz_fin hb (by omega) (by omega))
          · refine lv_iinc (v := nI (15)) (lv' := [(1, .int (nI (15))), (0, .int (nI ((v / 2 ^ 8) / 2 ^ 4)))]) hC.1 hC.2.1 d_Int_numberOfTrailingZeros_67 hl (k := 1) rfl (by decide) (by decide) rfl (fun ls hl => ?_)
            refine lv_iload_n hC.1 hC.2.1 d_Int_numberOfTrailingZeros_70 rfl (lv_at hl 1 rfl) ?_
            refine lv_iconst (v := nI 2) hC.1 hC.2.1 d_Int_numberOfTrailingZeros_71 (by decide) ?_
            refine nv_iushr hC (by omega) (by decide) d_Int_numberOfTrailingZeros_72 ?_
            refine lv_istore_n (lv' := [(0, .int (nI (((v / 2 ^ 8) / 2 ^ 4) / 2 ^ 2))), (1, .int (nI (15)))]) hC.1 hC.2.1 d_Int_numberOfTrailingZeros_73 rfl hl (by decide) rfl (fun ls hl => ?_)
            have hb : wm_bl v = wm_bl (((v / 2 ^ 8) / 2 ^ 4) / 2 ^ 2) + 14 := by rw [hb, wm_bl_div (k := 2) (by omega)]
            refine lv_iload_n hC.1 hC.2.1 d_Int_numberOfTrailingZeros_74 rfl (lv_at hl 1 rfl) ?_
            refine lv_iload_n hC.1 hC.2.1 d_Int_numberOfTrailingZeros_75 rfl (lv_at hl 0 rfl) ?_
            refine lv_iconst (v := nI 1) hC.1 hC.2.1 d_Int_numberOfTrailingZeros_76 (by decide) ?_
            refine nv_iushr hC (by omega) (by decide) d_Int_numberOfTrailingZeros_77 ?_
            refine nv_iadd hC d_Int_numberOfTrailingZeros_78 ?_
            refine pu_iret hC hr hM hlk ⟨t, ht32, hmod, hdiv, ?_⟩ d_Int_numberOfTrailingZeros_79
            exact congrArg nI (by rw [← hbl]; exact wm_ntz_fin hb (by omega) (by omega))
    · refine lv_iinc (v := nI (17)) (lv' := [(1, .int (nI (17))), (0, .int (nI (v)))]) hC.1 hC.2.1 d_Int_numberOfTrailingZeros_26 hl (k := 0) rfl (by decide) (by decide) rfl (fun ls hl => ?_)
      refine lv_iload_n hC.1 hC.2.1 d_Int_numberOfTrailingZeros_29 rfl (lv_at hl 1 rfl) ?_
      refine lv_bipush (v := nI 16) hC.1 hC.2.1 d_Int_numberOfTrailingZeros_30 (by decide) ?_
      refine nv_iushr hC (by omega) (by decide) d_Int_numberOfTrailingZeros_32 ?_
      refine lv_istore_n (lv' := [(0, .int (nI (v / 2 ^ 16))), (1, .int (nI (17)))]) hC.1 hC.2.1 d_Int_numberOfTrailingZeros_33 rfl hl (by decide) rfl (fun ls hl => ?_)
      have hb : wm_bl v = wm_bl (v / 2 ^ 16) + 16 := by rw [hb, wm_bl_div (k := 16) (by omega)]
      refine lv_iload_n hC.1 hC.2.1 d_Int_numberOfTrailingZeros_34 rfl (lv_at hl 0 rfl) ?_
      refine lv_sipush (v := nI 256) hC.1 hC.2.1 d_Int_numberOfTrailingZeros_35 (by decide) ?_
      refine nv_icmp_le (tgt := 49) hC (by omega) (by omega) d_Int_numberOfTrailingZeros_38 (by decide) (fun hc8 => ?_) (fun hc8 => ?_)
      · refine lv_iload_n hC.1 hC.2.1 d_Int_numberOfTrailingZeros_49 rfl (lv_at hl 0 rfl) ?_
        refine lv_bipush (v := nI 16) hC.1 hC.2.1 d_Int_numberOfTrailingZeros_50 (by decide) ?_
        refine nv_icmp_le (tgt := 62) hC (by omega) (by omega) d_Int_numberOfTrailingZeros_52 (by decide) (fun hc4 => ?_) (fun hc4 => ?_)
        · refine lv_iload_n hC.1 hC.2.1 d_Int_numberOfTrailingZeros_62 rfl (lv_at hl 0 rfl) ?_
          refine lv_iconst (v := nI 4) hC.1 hC.2.1 d_Int_numberOfTrailingZeros_63 (by decide) ?_
          refine nv_icmp_le (tgt := 74) hC (by omega) (by omega) d_Int_numberOfTrailingZeros_64 (by decide) (fun hc2 => ?_) (fun hc2 => ?_)
          · refine lv_iload_n hC.1 hC.2.1 d_Int_numberOfTrailingZeros_74 rfl (lv_at hl 1 rfl) ?_
            refine lv_iload_n hC.1 hC.2.1 d_Int_numberOfTrailingZeros_75 rfl (lv_at hl 0 rfl) ?_
            refine lv_iconst (v := nI 1) hC.1 hC.2.1 d_Int_numberOfTrailingZeros_76 (by decide) ?_
            refine nv_iushr hC (by omega) (by decide) d_Int_numberOfTrailingZeros_77 ?_
            refine nv_iadd hC d_Int_numberOfTrailingZeros_78 ?_
            refine pu_iret hC hr hM hlk ⟨t, ht32, hmod, hdiv, ?_⟩ d_Int_numberOfTrailingZeros_79
            exact congrArg nI (by rw [← hbl]; exact wm_ntz_fin hb (by omega) (by omega))
          · refine lv_iinc (v := nI (19)) (lv' := [(1, .int (nI (19))), (0, .int (nI (v / 2 ^ 16)))]) hC.1 hC.2.1 d_Int_numberOfTrailingZeros_67 hl (k := 1) rfl (by decide) (by decide) rfl (fun ls hl => ?_)
            refine lv_iload_n hC.1 hC.2.1 d_Int_numberOfTrailingZeros_70 rfl (lv_at hl 1 rfl) ?_
            refine lv_iconst (v := nI 2) hC.1 hC.2.1 d_Int_numberOfTrailingZeros_71 (by decide) ?_
            refine nv_iushr hC (by omega) (by decide) d_Int_numberOfTrailingZeros_72 ?_
            refine lv_istore_n (lv' := [(0, .int (nI ((v / 2 ^ 16) / 2 ^ 2))), (1, .int (nI (19)))]) hC.1 hC.2.1 d_Int_numberOfTrailingZeros_73 rfl hl (by decide) rfl (fun ls hl => ?_)
            have hb : wm_bl v = wm_bl ((v / 2 ^ 16) / 2 ^ 2) + 18 := by rw [hb, wm_bl_div (k := 2) (by omega)]
            refine lv_iload_n hC.1 hC.2.1 d_Int_numberOfTrailingZeros_74 rfl (lv_at hl 1 rfl) ?_
            refine lv_iload_n hC.1 hC.2.1 d_Int_numberOfTrailingZeros_75 rfl (lv_at hl 0 rfl) ?_
            refine lv_iconst (v := nI 1) hC.1 hC.2.1 d_Int_numberOfTrailingZeros_76 (by decide) ?_
            refine nv_iushr hC (by omega) (by decide) d_Int_numberOfTrailingZeros_77 ?_
            refine nv_iadd hC d_Int_numberOfTrailingZeros_78 ?_
            refine pu_iret hC hr hM hlk ⟨t, ht32, hmod, hdiv, ?_⟩ d_Int_numberOfTrailingZeros_79
            exact congrArg nI (by rw [← hbl]; exact wm_ntz_fin hb (by omega) (by omega))
        · refine lv_iinc (v := nI (21)) (lv' := [(1, .int (nI (21))), (0, .int (nI (v / 2 ^ 16)))]) hC.1 hC.2.1 d_Int_numberOfTrailingZeros_55 hl (k := 1) rfl (by decide) (by decide) rfl (fun ls hl => ?_)
          refine lv_iload_n hC.1 hC.2.1 d_Int_numberOfTrailingZeros_58 rfl (lv_at hl 1 rfl) ?_
          refine lv_iconst (v := nI 4) hC.1 hC.2.1 d_Int_numberOfTrailingZeros_59 (by decide) ?_
          refine nv_iushr hC (by omega) (by decide) d_Int_numberOfTrailingZeros_60 ?_
          refine lv_istore_n (lv' := [(0, .int (nI ((v / 2 ^ 16) / 2 ^ 4))), (1, .int (nI (21)))]) hC.1 hC.2.1 d_Int_numberOfTrailingZeros_61 rfl hl (by decide) rfl (fun ls hl => ?_)
          have hb : wm_bl v = wm_bl ((v / 2 ^ 16) / 2 ^ 4) + 20 := by rw [hb, wm_bl_div (k := 4) (by omega)]
          refine lv_iload_n hC.1 hC.2.1 d_Int_numberOfTrailingZeros_62 rfl (lv_at hl 0 rfl) ?_
          refine lv_iconst (v := nI 4) hC.1 hC.2.1 d_Int_numberOfTrailingZeros_63 (by decide) ?_
          refine nv_icmp_le (tgt := 74) hC (by omega) (by omega) d_Int_numberOfTrailingZeros_64 (by decide) (fun hc2 => ?_) (fun hc2 => ?_)
          · refine lv_iload_n hC.1 hC.2.1 d_Int_numberOfTrailingZeros_74 rfl (lv_at hl 1 rfl) ?_
            refine lv_iload_n hC.1 hC.2.1 d_Int_numberOfTrailingZeros_75 rfl (lv_at hl 0 rfl) ?_
            refine lv_iconst (v := nI 1) hC.1 hC.2.1 d_Int_numberOfTrailingZeros_76 (by decide) ?_
            refine nv_iushr hC (by omega) (by decide) d_Int_numberOfTrailingZeros_77 ?_
            refine nv_iadd hC d_Int_numberOfTrailingZeros_78 ?_
            refine pu_iret hC hr hM hlk ⟨t, ht32, hmod, hdiv, ?_⟩ d_Int_numberOfTrailingZeros_79
            exact congrArg nI (by rw [← hbl]; exact wm_ntz_fin hb (by omega) (by omega))
          · refine lv_iinc (v := nI (23)) (lv' := [(1, .int (nI (23))), (0, .int (nI ((v / 2 ^ 16) / 2 ^ 4)))]) hC.1 hC.2.1 d_Int_numberOfTrailingZeros_67 hl (k := 1) rfl (by decide) (by decide) rfl (fun ls hl => ?_)
            refine lv_iload_n hC.1 hC.2.1 d_Int_numberOfTrailingZeros_70 rfl (lv_at hl 1 rfl) ?_
            refine lv_iconst (v := nI 2) hC.1 hC.2.1 d_Int_numberOfTrailingZeros_71 (by decide) ?_
            refine nv_iushr hC (by omega) (by decide) d_Int_numberOfTrailingZeros_72 ?_
            refine lv_istore_n (lv' := [(0, .int (nI (((v / 2 ^ 16) / 2 ^ 4) / 2 ^ 2))), (1, .int (nI (23)))]) hC.1 hC.2.1 d_Int_numberOfTrailingZeros_73 rfl hl (by decide) rfl (fun ls hl => ?_)
            have hb : wm_bl v = wm_bl (((v / 2 ^ 16) / 2 ^ 4) / 2 ^ 2) + 22 := by rw [hb, wm_bl_div (k := 2) (by omega)]
            refine lv_iload_n hC.1 hC.2.1 d_Int_numberOfTrailingZeros_74 rfl (lv_at hl 1 rfl) ?_
            refine lv_iload_n hC.1 hC.2.1 d_Int_numberOfTrailingZeros_75 rfl (lv_at hl 0 rfl) ?_
            refine lv_iconst (v := nI 1) hC.1 hC.2.1 d_Int_numberOfTrailingZeros_76 (by decide) ?_
            refine nv_iushr hC (by omega) (by decide) d_Int_numberOfTrailingZeros_77 ?_
            refine nv_iadd hC d_Int_numberOfTrailingZeros_78 ?_
            refine pu_iret hC hr hM hlk ⟨t, ht32, hmod, hdiv, ?_⟩ d_Int_numberOfTrailingZeros_79
            exact congrArg nI (by rw [← hbl]; exact wm_ntz_fin hb (by omega) (by omega))
      · refine lv_iinc (v := nI (25)) (lv' := [(1, .int (nI (25))), (0, .int (nI (v / 2 ^ 16)))]) hC.1 hC.2.1 d_Int_numberOfTrailingZeros_41 hl (k := 1) rfl (by decide) (by decide) rfl (fun ls hl => ?_)
        refine lv_iload_n hC.1 hC.2.1 d_Int_numberOfTrailingZeros_44 rfl (lv_at hl 1 rfl) ?_
        refine lv_bipush (v := nI 8) hC.1 hC.2.1 d_Int_numberOfTrailingZeros_45 (by decide) ?_
        refine nv_iushr hC (by omega) (by decide) d_Int_numberOfTrailingZeros_47 ?_
        refine lv_istore_n (lv' := [(0, .int (nI ((v / 2 ^ 16) / 2 ^ 8))), (1, .int (nI (25)))]) hC.1 hC.2.1 d_Int_numberOfTrailingZeros_48 rfl hl (by decide) rfl (fun ls hl => ?_)
        have hb : wm_bl v = wm_bl ((v / 2 ^ 16) / 2 ^ 8) + 24 := by rw [hb, wm_bl_div (k := 8) (by omega)]
        refine lv_iload_n hC.1 hC.2.1 d_Int_numberOfTrailingZeros_49 rfl (lv_at hl 0 rfl) ?_
        refine lv_bipush (v := nI 16) hC.1 hC.2.1 d_Int_numberOfTrailingZeros_50 (by decide) ?_
        refine nv_icmp_le (tgt := 62) hC (by omega) (by omega) d_Int_numberOfTrailingZeros_52 (by decide) (fun hc4 => ?_) (fun hc4 => ?_)
        · refine lv_iload_n hC.1 hC.2.1 d_Int_numberOfTrailingZeros_62 rfl (lv_at hl 0 rfl) ?_
          refine lv_iconst (v := nI 4) hC.1 hC.2.1 d_Int_numberOfTrailingZeros_63 (by decide) ?_
          refine nv_icmp_le (tgt := 74) hC (by omega) (by omega) d_Int_numberOfTrailingZeros_64 (by decide) (fun hc2 => ?_) (fun hc2 => ?_)
          · refine lv_iload_n hC.1 hC.2.1 d_Int_numberOfTrailingZeros_74 rfl (lv_at hl 1 rfl) ?_
            refine lv_iload_n hC.1 hC.2.1 d_Int_numberOfTrailingZeros_75 rfl (lv_at hl 0 rfl) ?_
            refine lv_iconst (v := nI 1) hC.1 hC.2.1 d_Int_numberOfTrailingZeros_76 (by decide) ?_
            refine nv_iushr hC (by omega) (by decide) d_Int_numberOfTrailingZeros_77 ?_
            refine nv_iadd hC d_Int_numberOfTrailingZeros_78 ?_
            refine pu_iret hC hr hM hlk ⟨t, ht32, hmod, hdiv, ?_⟩ d_Int_numberOfTrailingZeros_79
            exact congrArg nI (by rw [← hbl]; exact wm_ntz_fin hb (by omega) (by omega))
          · refine lv_iinc (v := nI (27)) (lv' := [(1, .int (nI (27))), (0, .int (nI ((v / 2 ^ 16) / 2 ^ 8)))]) hC.1 hC.2.1 d_Int_numberOfTrailingZeros_67 hl (k := 1) rfl (by decide) (by decide) rfl (fun ls hl => ?_)
            refine lv_iload_n hC.1 hC.2.1 d_Int_numberOfTrailingZeros_70 rfl (lv_at hl 1 rfl) ?_
            refine lv_iconst (v := nI 2) hC.1 hC.2.1 d_Int_numberOfTrailingZeros_71 (by decide) ?_
            refine nv_iushr hC (by omega) (by decide) d_Int_numberOfTrailingZeros_72 ?_
            refine lv_istore_n (lv' := [(0, .int (nI (((v / 2 ^ 16) / 2 ^ 8) / 2 ^ 2))), (1, .int (nI (27)))]) hC.1 hC.2.1 d_Int_numberOfTrailingZeros_73 rfl hl (by decide) rfl (fun ls hl => ?_)
            have hb : wm_bl v = wm_bl (((v / 2 ^ 16) / 2 ^ 8) / 2 ^ 2) + 26 := by rw [hb, wm_bl_div (k := 2) (by omega)]
            refine lv_iload_n hC.1 hC.2.1 d_Int_numberOfTrailingZeros_74 rfl (lv_at hl 1 rfl) ?_
            refine lv_iload_n hC.1 hC.2.1 d_Int_numberOfTrailingZeros_75 rfl (lv_at hl 0 rfl) ?_
            refine lv_iconst (v := nI 1) hC.1 hC.2.1 d_Int_numberOfTrailingZeros_76 (by decide) ?_
            refine nv_iushr hC (by omega) (by decide) d_Int_numberOfTrailingZeros_77 ?_
            refine nv_iadd hC d_Int_numberOfTrailingZeros_78 ?_
            refine pu_iret hC hr hM hlk ⟨t, ht32, hmod, hdiv, ?_⟩ d_Int_numberOfTrailingZeros_79
            exact congrArg nI (by rw [← hbl]; exact wm_ntz_fin hb (by omega) (by omega))
        · refine lv_iinc (v := nI (29)) (lv' := [(1, .int (nI (29))), (0, .int (nI ((v / 2 ^ 16) / 2 ^ 8)))]) hC.1 hC.2.1 d_Int_numberOfTrailingZeros_55 hl (k := 1) rfl (by decide) (by decide) rfl (fun ls hl => ?_)
          refine lv_iload_n hC.1 hC.2.1 d_Int_numberOfTrailingZeros_58 rfl (lv_at hl 1 rfl) ?_
          refine lv_iconst (v := nI 4) hC.1 hC.2.1 d_Int_numberOfTrailingZeros_59 (by decide) ?_
          refine nv_iushr hC (by omega) (by decide) d_Int_numberOfTrailingZeros_60 ?_
          refine lv_istore_n (lv' := [(0, .int (nI (((v / 2 ^ 16) / 2 ^ 8) / 2 ^ 4))), (1, .int (nI (29)))]) hC.1 hC.2.1 d_Int_numberOfTrailingZeros_61 rfl hl (by decide) rfl (fun ls hl => ?_)
          have hb : wm_bl v = wm_bl (((v / 2 ^ 16) / 2 ^ 8) / 2 ^ 4) + 28 := by rw [hb, wm_bl_div (k := 4) (by omega)]
          refine lv_iload_n hC.1 hC.2.1 d_Int_numberOfTrailingZeros_62 rfl (lv_at hl 0 rfl) ?_
          refine lv_iconst (v := nI 4) hC.1 hC.2.1 d_Int_numberOfTrailingZeros_63 (by decide) ?_
          refine nv_icmp_le (tgt := 74) hC (by omega) (by omega) d_Int_numberOfTrailingZeros_64 (by decide) (fun hc2 => ?_) (fun hc2 => ?_)
          · refine lv_iload_n hC.1 hC.2.1 d_Int_numberOfTrailingZeros_74 rfl (lv_at hl 1 rfl) ?_
            refine lv_iload_n hC.1 hC.2.1 d_Int_numberOfTrailingZeros_75 rfl (lv_at hl 0 rfl) ?_
            refine lv_iconst (v := nI 1) hC.1 hC.2.1 d_Int_numberOfTrailingZeros_76 (by decide) ?_
            refine nv_iushr hC (by omega) (by decide) d_Int_numberOfTrailingZeros_77 ?_
            refine nv_iadd hC d_Int_numberOfTrailingZeros_78 ?_
            refine pu_iret hC hr hM hlk ⟨t, ht32, hmod, hdiv, ?_⟩ d_Int_numberOfTrailingZeros_79
            exact congrArg nI (by rw [← hbl]; exact wm_ntz_fin hb (by omega) (by omega))
          · refine lv_iinc (v := nI (31)) (lv' := [(1, .int (nI (31))), (0, .int (nI (((v / 2 ^ 16) / 2 ^ 8) / 2 ^ 4)))]) hC.1 hC.2.1 d_Int_numberOfTrailingZeros_67 hl (k := 1) rfl (by decide) (by decide) rfl (fun ls hl => ?_)
            refine lv_iload_n hC.1 hC.2.1 d_Int_numberOfTrailingZeros_70 rfl (lv_at hl 1 rfl) ?_
            refine lv_iconst (v := nI 2) hC.1 hC.2.1 d_Int_numberOfTrailingZeros_71 (by decide) ?_
            refine nv_iushr hC (by omega) (by decide) d_Int_numberOfTrailingZeros_72 ?_
            refine lv_istore_n (lv' := [(0, .int (nI ((((v / 2 ^ 16) / 2 ^ 8) / 2 ^ 4) / 2 ^ 2))), (1, .int (nI (31)))]) hC.1 hC.2.1 d_Int_numberOfTrailingZeros_73 rfl hl (by decide) rfl (fun ls hl => ?_)
            have hb : wm_bl v = wm_bl ((((v / 2 ^ 16) / 2 ^ 8) / 2 ^ 4) / 2 ^ 2) + 30 := by rw [hb, wm_bl_div (k := 2) (by omega)]
            refine lv_iload_n hC.1 hC.2.1 d_Int_numberOfTrailingZeros_74 rfl (lv_at hl 1 rfl) ?_
            refine lv_iload_n hC.1 hC.2.1 d_Int_numberOfTrailingZeros_75 rfl (lv_at hl 0 rfl) ?_
            refine lv_iconst (v := nI 1) hC.1 hC.2.1 d_Int_numberOfTrailingZeros_76 (by decide) ?_
            refine nv_iushr hC (by omega) (by decide) d_Int_numberOfTrailingZeros_77 ?_
            refine nv_iadd hC d_Int_numberOfTrailingZeros_78 ?_
            refine pu_iret hC hr hM hlk ⟨t, ht32, hmod, hdiv, ?_⟩ d_Int_numberOfTrailingZeros_79
            exact congrArg nI (by rw [← hbl]; exact wm_ntz_fin hb (by omega) (by omega))
  · have hv0 : v = 0 := by
      rcases Nat.eq_zero_or_pos v with z | z
      · exact z
      · exact absurd ((nI_ltI (a := 0) (by decide) (by omega)).mpr z) h0
    have ht0 : t = 0 := by rw [← hbl, hv0]; rfl
    refine lv_iload_n hC.1 hC.2.1 d_Int_numberOfTrailingZeros_12 rfl (lv_at hl 0 rfl) ?_
    refine lv_bipush (v := nI 32) hC.1 hC.2.1 d_Int_numberOfTrailingZeros_13 (by decide) ?_
    refine nv_iandm hC d_Int_numberOfTrailingZeros_15 ?_
    refine pu_iret hC hr hM hlk ⟨t, ht32, hmod, hdiv, ?_⟩ d_Int_numberOfTrailingZeros_16
    rw [hv0, ht0]; decide
end
section
set_option maxHeartbeats 4000000 in
set_option maxRecDepth 100000 in
theorem lp_Whole_countOnes {p : Program} {l : Launch} {e : Env} {s : State} {m : MethodId} {args : Array Value} {below : List Frame} {meth : Method} {c : Code} {Q : State → Prop} {D : va_G} {ad : Nat → Nat} {cA cR : ClassId} (hC : CallFix p m c b_Whole_countOnes 3 s args lw_T R_Whole) (hK : va_K D classes (wm_ty cA cR) s) (ln : Nat → Nat) (wd : Nat → Nat → Int32) (i : Nat) (hi : i < 19) (hn : ln i ≤ 2050)
    (hex : ∀ (H : Heap) (locs : List Loc) (ls : Array Slot), wm_M D ad cA cR s (ln) (wd) H locs → lv_has ls 3 [(1, .int (nI (wm_ons (wd i) (ln i))))] → W p l e ({ frames := 1, cells := 0, slots := 0, locals := 20 }) s m args below meth c H locs 0 0 Q (F0 m 30 ls [])) :
    ∀ (n : Nat) (k : Nat), (k ≤ ln i) → ln i + 1 ≤ k + n → ∀ (H : Heap) (locs : List Loc) (ls : Array Slot), wm_M D ad cA cR s (ln) (wd) H locs → lv_has ls 3 [(0, .ref (ad i)), (1, .int (nI (wm_ons (wd i) k))), (2, .int (nI (k)))] → W p l e ({ frames := 1, cells := 0, slots := 0, locals := 20 }) s m args below meth c H locs 0 0 Q (F0 m 4 ls []) := by
  intro n
  induction n with
  | zero =>
    intro k hk hn9
    exact absurd hn9 (by omega)
  | succ n ih =>
    intro k hk hn9 H locs ls hM hl
    refine lv_iload_n hC.1 hC.2.1 d_Whole_countOnes_4 rfl (lv_at hl 2 rfl) ?_
    refine lv_aload_n hC.1 hC.2.1 d_Whole_countOnes_5 rfl (lv_at hl 0 rfl) ?_
    refine wm_len hC hK hM (j := i) hi kf_Whole_15 d_Whole_countOnes_6 ?_
    refine nv_icmp_ge (tgt := 30) hC (by omega) (by omega) d_Whole_countOnes_9 (by decide) (fun hc => ?_) (fun hc => ?_)
    · have ek : k = ln i := by omega
      subst ek
      exact hex H locs ls hM (lv_sub hl [1] rfl)
    · refine lv_iload_n hC.1 hC.2.1 d_Whole_countOnes_12 rfl (lv_at hl 1 rfl) ?_
      refine lv_aload_n hC.1 hC.2.1 d_Whole_countOnes_13 rfl (lv_at hl 0 rfl) ?_
      refine wm_wds hC hK hM (j := i) hi kf_Whole_9 d_Whole_countOnes_14 ?_
      refine lv_iload_n hC.1 hC.2.1 d_Whole_countOnes_17 rfl (lv_at hl 2 rfl) ?_
      refine wm_ald hC hK hM (j := i) (k := k) hi (by omega) d_Whole_countOnes_18 ?_
      refine wm_callPi hC hK hM (As := [.int (wd i k)]) (rest := [.int (nI (wm_ons (wd i) k))]) (c_Int_bitCount l _ (wd i k)) kc_Int_bitCount km_Whole_56 ki_Int ks_Int_bitCount kd_Int_bitCount ⟨rfl, rfl⟩ ⟨Nat.le_of_ble_eq_true rfl, Nat.le_of_ble_eq_true rfl⟩ rfl hl.1 (Nat.le_of_ble_eq_true rfl) d_Whole_countOnes_19 (fun r H locs hp hM => ?_)
      subst hp
      refine nv_iadd hC d_Whole_countOnes_22 ?_
      refine lv_istore_n (lv' := [(1, .int (nI ((wm_ons (wd i) k) + (wm_on (wm_u (wd i k)) 32)))), (0, .ref (ad i)), (2, .int (nI (k)))]) hC.1 hC.2.1 d_Whole_countOnes_23 rfl hl (by decide) rfl (fun ls hl => ?_)
      refine lv_iinc (v := nI (k + 1)) (lv' := [(2, .int (nI (k + 1))), (1, .int (nI ((wm_ons (wd i) k) + (wm_on (wm_u (wd i k)) 32)))), (0, .ref (ad i))]) hC.1 hC.2.1 d_Whole_countOnes_24 hl (k := 2) rfl (nv_inc _) (by decide) rfl (fun ls hl => ?_)
      refine lv_goto (tgt := 4) hC.1 hC.2.1 d_Whole_countOnes_27 (by decide) ?_
      exact ih (k + 1) (by omega) (by omega) H locs ls hM (lv_sub hl [2, 1, 0] rfl)
set_option maxHeartbeats 4000000 in
set_option maxRecDepth 100000 in
theorem c_Whole_countOnes (l : Launch) (D : va_G) (ad : Nat → Nat) (cA cR : ClassId) (sz : Nat) (ln : Nat → Nat) (wd : Nat → Nat → Int32) (i N : Nat) (hi : i < 19) (h : wm_rep (wd i) (ln i) N) : Met l y_Whole_countOnes (Cond.code y_Whole_countOnes b_Whole_countOnes 3 (some .int) :: lw_T) ({ frames := 1, cells := 0, slots := 0, locals := 20 }) (va_Pc [.ref (ad i)] (wm_B D ad cA cR sz ln wd)) (va_Qi (fun (r : Int32) (u : wm_St) => r = nI (wm_on N 65600) ∧ u = (ln, wd)) (wm_E D ad cA cR sz) (wm_A ad sz)) 0 0 (wm_A ad sz) := by
  refine wm_met l (by decide) (Nat.le_of_ble_eq_true rfl) ?_
  intro p e s m below meth c ls hsz hC hK hr hlk hM hl
  subst hsz
  have hC : CallFix p m c b_Whole_countOnes 3 s _ lw_T R_Whole := hC
  have hl : lv_has ls 3 [(0, .ref (ad i))] := hl
  have hn := h.1
  refine lv_iconst (v := nI 0) hC.1 hC.2.1 d_Whole_countOnes_0 (by decide) ?_
  refine lv_istore_n (lv' := [(1, .int (nI (0))), (0, .ref (ad i))]) hC.1 hC.2.1 d_Whole_countOnes_1 rfl hl (by decide) rfl (fun ls hl => ?_)
  refine lv_iconst (v := nI 0) hC.1 hC.2.1 d_Whole_countOnes_2 (by decide) ?_
  refine lv_istore_n (lv' := [(2, .int (nI (0))), (1, .int (nI (0))), (0, .ref (ad i))]) hC.1 hC.2.1 d_Whole_countOnes_3 rfl hl (by decide) rfl (fun ls hl => ?_)
  refine lp_Whole_countOnes hC hK ln wd i hi h.1 (fun H locs ls hM hl => ?_) (ln i + 1) 0 (Nat.zero_le _) (by omega) _ _ _ hM (lv_sub hl [2, 1, 0] rfl)
  refine lv_iload_n hC.1 hC.2.1 d_Whole_countOnes_30 rfl (lv_at hl 0 rfl) ?_
  refine wm_iret hC hK hM hr hlk ⟨congrArg nI ?_, rfl⟩ d_Whole_countOnes_31
  rw [wm_ons_v, h.2.2.2]
  obtain ⟨d, hd⟩ : ∃ d, 65600 = 32 * ln i + d := ⟨65600 - 32 * ln i, by omega⟩
  rw [hd, wm_on_big (by rw [← wm_p32]; exact wm_rep_lt h)]
set_option maxHeartbeats 4000000 in
set_option maxRecDepth 100000 in
theorem lp_Whole_lowestOne {p : Program} {l : Launch} {e : Env} {s : State} {m : MethodId} {args : Array Value} {below : List Frame} {meth : Method} {c : Code} {Q : State → Prop} {D : va_G} {ad : Nat → Nat} {cA cR : ClassId} (hC : CallFix p m c b_Whole_lowestOne 2 s args lw_T R_Whole) (hK : va_K D classes (wm_ty cA cR) s) (ln : Nat → Nat) (wd : Nat → Nat → Int32) (i N : Nat) (hi : i < 19) (h : wm_rep (wd i) (ln i) N) (hret : ∀ (r : Int32) (pc : Nat) (H : Heap) (locs : List Loc) (ls : Array Slot), decode b_Whole_lowestOne pc = .ok (.ireturn, 1) → ((N = 0 ∧ r = -1) ∨ ∃ t : Nat, t < 65600 ∧ N % 2 ^ t = 0 ∧ N / 2 ^ t % 2 = 1 ∧ r = nI t) → wm_M D ad cA cR s ln wd H locs → W p l e ({ frames := 1, cells := 0, slots := 0, locals := 21 }) s m args below meth c H locs 0 0 Q (F0 m pc ls [.int r])) :
    ∀ (n : Nat) (k : Nat), (k ≤ ln i) → (∀ q, q < k → wd i q = 0) → ln i + 1 ≤ k + n → ∀ (H : Heap) (locs : List Loc) (ls : Array Slot), wm_M D ad cA cR s (ln) (wd) H locs → lv_has ls 2 [(0, .ref (ad i)), (1, .int (nI (k)))] → W p l e ({ frames := 1, cells := 0, slots := 0, locals := 21 }) s m args below meth c H locs 0 0 Q (F0 m 2 ls []) := by
  intro n
  induction n with
  | zero =>
    intro k hk hz hn
    exact absurd hn (by omega)
  | succ n ih =>
    intro k hk hz hn H locs ls hM hl
    have hn1 := h.1
    refine lv_iload_n hC.1 hC.2.1 d_Whole_lowestOne_2 rfl (lv_at hl 1 rfl) ?_
    refine lv_aload_n hC.1 hC.2.1 d_Whole_lowestOne_3 rfl (lv_at hl 0 rfl) ?_
    refine wm_len hC hK hM (j := i) hi kf_Whole_15 d_Whole_lowestOne_4 ?_
    refine nv_icmp_ge (tgt := 40) hC (by omega) (by omega) d_Whole_lowestOne_7 (by decide) (fun hc => ?_) (fun hc => ?_)
    · refine lv_iconst (v := -1) hC.1 hC.2.1 d_Whole_lowestOne_40 (by decide) ?_
      exact hret _ _ H locs ls d_Whole_lowestOne_41 (Or.inl ⟨by
        have e := wm_v_z (f := wd i) (m := 0) (ln i) (fun q _ h2 => hz q (by omega))
        rw [Nat.zero_add] at e
        rw [← h.2.2.2, e]
        rfl, rfl⟩) hM
    · refine lv_aload_n hC.1 hC.2.1 d_Whole_lowestOne_10 rfl (lv_at hl 0 rfl) ?_
      refine wm_wds hC hK hM (j := i) hi kf_Whole_9 d_Whole_lowestOne_11 ?_
      refine lv_iload_n hC.1 hC.2.1 d_Whole_lowestOne_14 rfl (lv_at hl 1 rfl) ?_
      refine wm_ald hC hK hM (j := i) (k := k) hi (by omega) d_Whole_lowestOne_15 ?_
      refine lv_if_eq (tgt := 34) hC.1 hC.2.1 d_Whole_lowestOne_16 (by decide) (fun hw => ?_) (fun hw => ?_)
      · refine lv_iinc (v := nI (k + 1)) (lv' := [(1, .int (nI (k + 1))), (0, .ref (ad i))]) hC.1 hC.2.1 d_Whole_lowestOne_34 hl (k := 1) rfl (nv_inc _) (by decide) rfl (fun ls hl => ?_)
        refine lv_goto (tgt := 2) hC.1 hC.2.1 d_Whole_lowestOne_37 (by decide) ?_
        exact ih (k + 1) (by omega) (fun q hq => by
        by_cases e : q = k
        · rw [e]; exact hw
        · exact hz q (by omega)) (by omega) H locs ls hM (lv_sub hl [1, 0] rfl)
      · refine lv_bipush (v := nI 32) hC.1 hC.2.1 d_Whole_lowestOne_19 (by decide) ?_
        refine lv_iload_n hC.1 hC.2.1 d_Whole_lowestOne_21 rfl (lv_at hl 1 rfl) ?_
        refine nv_imul hC d_Whole_lowestOne_22 ?_
        refine lv_aload_n hC.1 hC.2.1 d_Whole_lowestOne_23 rfl (lv_at hl 0 rfl) ?_
        refine wm_wds hC hK hM (j := i) hi kf_Whole_9 d_Whole_lowestOne_24 ?_
        refine lv_iload_n hC.1 hC.2.1 d_Whole_lowestOne_27 rfl (lv_at hl 1 rfl) ?_
        refine wm_ald hC hK hM (j := i) (k := k) hi (by omega) d_Whole_lowestOne_28 ?_
        refine wm_callPi hC hK hM (As := [.int (wd i k)]) (rest := [.int (nI (32 * k))]) (c_Int_numberOfTrailingZeros l _ (wd i k) hw) kc_Int_numberOfTrailingZeros km_Whole_59 ki_Int ks_Int_numberOfTrailingZeros kd_Int_numberOfTrailingZeros ⟨rfl, rfl⟩ ⟨Nat.le_of_ble_eq_true rfl, Nat.le_of_ble_eq_true rfl⟩ rfl hl.1 (Nat.le_of_ble_eq_true rfl) d_Whole_lowestOne_29 (fun r H locs hp hM => ?_)
        obtain ⟨t, ht, t1, t2, rfl⟩ := hp
        refine nv_iadd hC d_Whole_lowestOne_32 ?_
        refine hret _ _ H locs ls d_Whole_lowestOne_33 (Or.inr ⟨32 * k + t, by omega, ?_, ?_, rfl⟩) hM
        · exact (wm_low_at h (by omega) hz ht t1 t2).1
        · exact (wm_low_at h (by omega) hz ht t1 t2).2
set_option maxHeartbeats 4000000 in
set_option maxRecDepth 100000 in
theorem c_Whole_lowestOne (l : Launch) (D : va_G) (ad : Nat → Nat) (cA cR : ClassId) (sz : Nat) (ln : Nat → Nat) (wd : Nat → Nat → Int32) (i N : Nat) (hi : i < 19) (h : wm_rep (wd i) (ln i) N) : Met l y_Whole_lowestOne (Cond.code y_Whole_lowestOne b_Whole_lowestOne 2 (some .int) :: lw_T) ({ frames := 1, cells := 0, slots := 0, locals := 21 }) (va_Pc [.ref (ad i)] (wm_B D ad cA cR sz ln wd)) (va_Qi (fun (r : Int32) (u : wm_St) => ((N = 0 ∧ r = -1) ∨ ∃ t : Nat, t < 65600 ∧ N % 2 ^ t = 0 ∧ N / 2 ^ t % 2 = 1 ∧ r = nI t) ∧ u = (ln, wd)) (wm_E D ad cA cR sz) (wm_A ad sz)) 0 0 (wm_A ad sz) := by
  refine wm_met l (by decide) (Nat.le_of_ble_eq_true rfl) ?_
  intro p e s m below meth c ls hsz hC hK hr hlk hM hl
  subst hsz
  have hC : CallFix p m c b_Whole_lowestOne 2 s _ lw_T R_Whole := hC
  have hl : lv_has ls 2 [(0, .ref (ad i))] := hl
  have hn := h.1
  refine lv_iconst (v := nI 0) hC.1 hC.2.1 d_Whole_lowestOne_0 (by decide) ?_
  refine lv_istore_n (lv' := [(1, .int (nI (0))), (0, .ref (ad i))]) hC.1 hC.2.1 d_Whole_lowestOne_1 rfl hl (by decide) rfl (fun ls hl => ?_)
  exact lp_Whole_lowestOne hC hK ln wd i N hi h (fun r pc H locs ls hd hp hM => wm_iret hC hK hM hr hlk ⟨hp, rfl⟩ hd) (ln i + 1) 0 (Nat.zero_le _) (fun q hq => absurd hq (by omega)) (by omega) _ _ _ hM (lv_sub hl [1, 0] rfl)
set_option maxHeartbeats 4000000 in
set_option maxRecDepth 100000 in
theorem lp_Whole_remainder {p : Program} {l : Launch} {e : Env} {R : Room} {s : State} {m : MethodId} {args : Array Value} {below : List Frame} {meth : Method} {c : Code} {Q : State → Prop} {D : va_G} {ad : Nat → Nat} {cA cR : ClassId} (hC : CallFix p m c b_Whole_remainder 5 s args lw_T R_Whole) (hK : va_K D classes (wm_ty cA cR) s) (ln : Nat → Nat) (wd : Nat → Nat → Int32) (i N dv : Nat) (hi : i < 19) (h : wm_rep (wd i) (ln i) N) (hd1 : 1 ≤ dv) (hd2 : dv < 2147483648)
    (hex : ∀ (H : Heap) (locs : List Loc) (ls : Array Slot), wm_M D ad cA cR s (ln) (wd) H locs → lv_has ls 5 [(2, .long (lN (wm_v (wm_off (wd i) 0) (ln i - 0) % dv)))] → W p l e R s m args below meth c H locs 0 0 Q (F0 m 42 ls [])) :
    ∀ (n : Nat) (x : Nat), (x ≤ ln i) → x + 1 ≤ n → ∀ (H : Heap) (locs : List Loc) (ls : Array Slot), wm_M D ad cA cR s (ln) (wd) H locs → lv_has ls 5 [(0, .ref (ad i)), (1, .int (nI (dv))), (2, .long (lN (wm_v (wm_off (wd i) x) (ln i - x) % dv))), (4, .int (nI (x) + (-1)))] → W p l e R s m args below meth c H locs 0 0 Q (F0 m 10 ls []) := by
  intro n
  induction n with
  | zero =>
    intro x hx hn
    exact absurd hn (by omega)
  | succ n ih =>
    intro x hx hn H locs ls hM hl
    have hn1 := h.1
    have hov : wm_v (wm_off (wd i) x) (ln i - x) % dv < dv := Nat.mod_lt _ (by omega)
    refine lv_iload hC.1 hC.2.1 d_Whole_remainder_10 (lv_at hl 3 rfl) ?_
    refine nv_down_lt (tgt := 42) hC (by omega) d_Whole_remainder_12 (by decide) (fun hz => ?_) (fun y hy => ?_)
    · subst hz
      exact hex H locs ls hM (lv_sub hl [2] rfl)
    · subst hy
      have hl : lv_has ls 5 [(0, .ref (ad i)), (1, .int (nI (dv))), (2, .long (lN (wm_v (wm_off (wd i) (y + 1)) (ln i - (y + 1)) % dv))), (4, .int (nI (y)))] := by rw [pk_m1] at hl; exact hl
      have hu := wm_u_lt (wd i y)
      refine lv_lload_n hC.1 hC.2.1 d_Whole_remainder_15 rfl (lv_at hl 2 rfl) ?_
      refine lv_bipush (v := nI 32) hC.1 hC.2.1 d_Whole_remainder_16 (by decide) ?_
      refine nv_lshl hC (by decide) d_Whole_remainder_18 ?_
      refine lv_aload_n hC.1 hC.2.1 d_Whole_remainder_19 rfl (lv_at hl 0 rfl) ?_
      refine wm_wds hC hK hM (j := i) hi kf_Whole_9 d_Whole_remainder_20 ?_
      refine lv_iload hC.1 hC.2.1 d_Whole_remainder_23 (lv_at hl 3 rfl) ?_
      refine wm_ald hC hK hM (j := i) (k := y) hi (by omega) d_Whole_remainder_25 ?_
      refine nv_low hC kl_Whole_35 d_Whole_remainder_26 d_Whole_remainder_27 d_Whole_remainder_30 ?_
      refine nv_pair (k := 32) hC (by omega) (by omega) d_Whole_remainder_31 ?_
      refine lv_iload_n hC.1 hC.2.1 d_Whole_remainder_32 rfl (lv_at hl 1 rfl) ?_
      refine nv_i2l hC (by omega) d_Whole_remainder_33 ?_
      refine nv_lrem hC (by omega) (by omega) (by omega) d_Whole_remainder_34 ?_
      have e9 : (wm_v (wm_off (wd i) (y + 1)) (ln i - (y + 1)) % dv * 2 ^ 32 + wm_u (wd i y)) % dv = wm_v (wm_off (wd i) y) (ln i - y) % dv := by
        obtain ⟨d, hd⟩ : ∃ d, ln i - y = d + 1 := ⟨ln i - y - 1, by omega⟩
        rw [hd, show ln i - (y + 1) = d by omega, wm_v_first, Nat.add_comm, Nat.add_mod, Nat.mul_mod, Nat.mod_mod, ← Nat.mul_mod, ← Nat.add_mod, show ∀ z : Nat, z * 2 ^ 32 = 4294967296 * z from fun z => Nat.mul_comm z _]
      refine nv_topl (y := lN (wm_v (wm_off (wd i) y) (ln i - y) % dv)) (by rw [e9]) ?_
      refine lv_lstore_n (lv' := [(2, .long (lN (wm_v (wm_off (wd i) y) (ln i - y) % dv))), (0, .ref (ad i)), (1, .int (nI (dv))), (4, .int (nI (y)))]) hC.1 hC.2.1 d_Whole_remainder_35 rfl hl (by decide) rfl (fun ls hl => ?_)
      refine lv_iinc (v := nI (y) + (-1)) (lv' := [(4, .int (nI (y) + (-1))), (2, .long (lN (wm_v (wm_off (wd i) y) (ln i - y) % dv))), (0, .ref (ad i)), (1, .int (nI (dv)))]) hC.1 hC.2.1 d_Whole_remainder_36 hl (k := 3) rfl (rfl) (by decide) rfl (fun ls hl => ?_)
      refine lv_goto (tgt := 10) hC.1 hC.2.1 d_Whole_remainder_39 (by decide) ?_
      exact ih y (by omega) (by omega) H locs ls hM (lv_sub hl [2, 3, 1, 0] rfl)
set_option maxHeartbeats 4000000 in
set_option maxRecDepth 100000 in
theorem c_Whole_remainder (l : Launch) (D : va_G) (ad : Nat → Nat) (cA cR : ClassId) (sz : Nat) (ln : Nat → Nat) (wd : Nat → Nat → Int32) (i N dv : Nat) (hi : i < 19) (h : wm_rep (wd i) (ln i) N) (hd1 : 1 ≤ dv) (hd2 : dv < 2147483648) : Met l y_Whole_remainder (Cond.code y_Whole_remainder b_Whole_remainder 5 (some .int) :: lw_T) ({ frames := 0, cells := 0, slots := 0, locals := 0 }) (va_Pc [.ref (ad i), .int (nI (dv))] (wm_B D ad cA cR sz ln wd)) (va_Qi (fun (r : Int32) (u : wm_St) => r = nI (N % dv) ∧ u = (ln, wd)) (wm_E D ad cA cR sz) (wm_A ad sz)) 0 0 (wm_A ad sz) := by
  refine wm_met l (by decide) (Nat.le_of_ble_eq_true rfl) ?_
  intro p e s m below meth c ls hsz hC hK hr hlk hM hl
  subst hsz
  have hC : CallFix p m c b_Whole_remainder 5 s _ lw_T R_Whole := hC
  have hl : lv_has ls 5 [(0, .ref (ad i)), (1, .int (nI (dv)))] := hl
  have hn := h.1
  refine lv_lconst (v := lN 0) hC.1 hC.2.1 d_Whole_remainder_0 (by decide) ?_
  refine lv_lstore_n (lv' := [(2, .long (lN (0))), (0, .ref (ad i)), (1, .int (nI (dv)))]) hC.1 hC.2.1 d_Whole_remainder_1 rfl hl (by decide) rfl (fun ls hl => ?_)
  refine lv_aload_n hC.1 hC.2.1 d_Whole_remainder_2 rfl (lv_at hl 1 rfl) ?_
  refine wm_len hC hK hM (j := i) hi kf_Whole_15 d_Whole_remainder_3 ?_
  refine lv_iconst (v := nI 1) hC.1 hC.2.1 d_Whole_remainder_6 (by decide) ?_
  refine nv_isub1 hC d_Whole_remainder_7 ?_
  refine lv_istore (lv' := [(4, .int (nI (ln i) + (-1))), (2, .long (lN (0))), (0, .ref (ad i)), (1, .int (nI (dv)))]) hC.1 hC.2.1 d_Whole_remainder_8 hl (by decide) rfl (fun ls hl => ?_)
  refine lp_Whole_remainder hC hK ln wd i N dv hi h hd1 hd2 (fun H locs ls hM hl => ?_) (ln i + 1) (ln i) (Nat.le_refl _) (Nat.le_refl _) _ _ _ hM (by
    rw [Nat.sub_self, wm_v_0, Nat.zero_mod]
    exact lv_sub hl [2, 3, 1, 0] rfl)
  refine lv_lload_n hC.1 hC.2.1 d_Whole_remainder_42 rfl (lv_at hl 0 rfl) ?_
  refine nv_l2i hC d_Whole_remainder_43 ?_
  exact wm_iret hC hK hM hr hlk ⟨by rw [wm_off_0, Nat.sub_zero, h.2.2.2], rfl⟩ d_Whole_remainder_44
end
section
/-! ===== what each call answers and puts, over the numbers N j of the registers ===== -/
def sp_L : Nat := 2 ^ 65536
theorem sp_L32 : sp_L = 4294967296 ^ 2048 := by rw [wm_p32]; rfl
theorem sp_bl {X : Nat} : wm_bl X ≤ 65536 ↔ X < sp_L := wm_bl_le
def sp_ix (x : Int32) : Option Nat := if 0 ≤ x ∧ x < nI 16 then some x.toNatClampNeg else none
theorem sp_ix_ok {j : Nat} (h : j < 16) : sp_ix (nI j) = some j := by
  unfold sp_ix
  rw [if_pos ⟨nI_pos' (by omega), nI_lt h (by decide)⟩, nI_clamp (by omega)]
theorem sp_ix_no {x : Int32} (h : x < 0 ∨ nI 16 ≤ x) : sp_ix x = none := by
  unfold sp_ix
  refine if_neg (fun z => ?_)
  rcases h with h | h
  · exact absurd z.1 (Int32.not_le.mpr h)
  · exact absurd z.2 (Int32.not_lt.mpr h)
def sp_putv (N : Nat → Nat) (d X : Nat) : Int32 × (Nat → Nat) := if X < sp_L then (nI 1, va_up N d X) else (nI 0, N)
def sp_no (N : Nat → Nat) : Int32 × (Nat → Nat) := (nI 0, N)
def sp_push (N : Nat → Nat) (x : Int32) (p0 : Nat) : Int32 × (Nat → Nat) := match sp_ix x with
  | none => sp_no N
  | some d => sp_putv N d (N d * 18446744073709551616 + p0)
def sp_spread (N : Nat → Nat) (x : Int32) (p0 : Nat) (n : Int32) : Int32 × (Nat → Nat) := match sp_ix x with
  | none => sp_no N
  | some d => if n < 0 ∨ nI 1024 < n then sp_no N else sp_putv N d (wm_pr p0 n.toNatClampNeg)
def sp_copy (N : Nat → Nat) (x y : Int32) : Int32 × (Nat → Nat) := match sp_ix x with
  | none => sp_no N
  | some d => match sp_ix y with
    | none => sp_no N
    | some a => (nI 1, va_up N d (N a))
def sp_3 (N : Nat → Nat) (x y z : Int32) (f : Nat → Nat → Nat → Int32 × (Nat → Nat)) : Int32 × (Nat → Nat) := match sp_ix x with
  | none => sp_no N
  | some d => match sp_ix y with
    | none => sp_no N
    | some a => match sp_ix z with
      | none => sp_no N
      | some b => f d a b
def sp_add (N : Nat → Nat) (x y z : Int32) : Int32 × (Nat → Nat) := sp_3 N x y z (fun d a b => sp_putv N d (N a + N b))
def sp_take (N : Nat → Nat) (x y z : Int32) : Int32 × (Nat → Nat) := sp_3 N x y z (fun d a b => if N a < N b then sp_no N else (nI 1, va_up N d (N a - N b)))
def sp_times (N : Nat → Nat) (x y z : Int32) : Int32 × (Nat → Nat) := sp_3 N x y z (fun d a b => sp_putv N d (N a * N b))
def sp_divide (N : Nat → Nat) (x y z w : Int32) : Int32 × (Nat → Nat) := sp_3 N x y z (fun q r a => match sp_ix w with
  | none => sp_no N
  | some b => if q = r ∨ N b = 0 then sp_no N else (nI 1, va_up (va_up N q (N a / N b)) r (N a % N b)))
noncomputable def sp_sq (A : Nat) : Nat := Classical.epsilon (fun s : Nat => s * s ≤ A ∧ A < (s + 1) * (s + 1))
theorem sp_sq_of {A s : Nat} (h1 : s * s ≤ A) (h2 : A < (s + 1) * (s + 1)) : sp_sq A = s := by
  have h : sp_sq A * sp_sq A ≤ A ∧ A < (sp_sq A + 1) * (sp_sq A + 1) := Classical.epsilon_spec (p := fun s : Nat => s * s ≤ A ∧ A < (s + 1) * (s + 1)) ⟨s, h1, h2⟩
  generalize sp_sq A = r at h
  rcases Nat.lt_trichotomy r s with z | z | z
  · have : (r + 1) * (r + 1) ≤ s * s := Nat.mul_le_mul z z
    omega
  · exact z
  · have : (s + 1) * (s + 1) ≤ r * r := Nat.mul_le_mul z z
    omega
noncomputable def sp_root (N : Nat → Nat) (x y z : Int32) : Int32 × (Nat → Nat) := sp_3 N x y z (fun s r a => if s = r then sp_no N else (nI 1, va_up (va_up N s (sp_sq (N a))) r (N a - sp_sq (N a) * sp_sq (N a))))
def sp_shift (N : Nat → Nat) (x y n : Int32) : Int32 × (Nat → Nat) := match sp_ix x with
  | none => sp_no N
  | some d => match sp_ix y with
    | none => sp_no N
    | some a => if n < 0 then (nI 1, va_up N d (N a / 2 ^ (-n.toInt).toNat)) else sp_putv N d (N a * 2 ^ n.toNatClampNeg)
def sp_part (N : Nat → Nat) (x y f n : Int32) : Int32 × (Nat → Nat) := match sp_ix x with
  | none => sp_no N
  | some d => match sp_ix y with
    | none => sp_no N
    | some a => if f < 0 ∨ n < 0 then sp_no N else (nI 1, va_up N d (N a / 2 ^ f.toNatClampNeg % 2 ^ n.toNatClampNeg))
def sp_compare (N : Nat → Nat) (x y : Int32) : Int32 := match sp_ix x with
  | none => -2
  | some a => match sp_ix y with
    | none => -2
    | some b => wm_ord (N a) (N b)
def sp_bits (N : Nat → Nat) (x : Int32) : Int32 := match sp_ix x with
  | none => -1
  | some a => nI (wm_bl (N a))
def sp_word (N : Nat → Nat) (x k : Int32) : Int32 := match sp_ix x with
  | none => 0
  | some a => if k < 0 then 0 else nI (N a / 4294967296 ^ k.toNatClampNeg % 4294967296)
def sp_ones (N : Nat → Nat) (x : Int32) : Int32 := match sp_ix x with
  | none => -1
  | some a => nI (wm_on (N a) 65600)
noncomputable def sp_ct (A : Nat) : Nat := Classical.epsilon (fun t : Nat => A % 2 ^ t = 0 ∧ A / 2 ^ t % 2 = 1)
theorem sp_ct_of {A t : Nat} (h1 : A % 2 ^ t = 0) (h2 : A / 2 ^ t % 2 = 1) : sp_ct A = t := by
  have h : A % 2 ^ sp_ct A = 0 ∧ A / 2 ^ sp_ct A % 2 = 1 := Classical.epsilon_spec (p := fun t : Nat => A % 2 ^ t = 0 ∧ A / 2 ^ t % 2 = 1) ⟨t, h1, h2⟩
  generalize sp_ct A = r at h
  have key : ∀ a b : Nat, a < b → A / 2 ^ a % 2 = 1 → A % 2 ^ b = 0 → False := by
    intro a b hab ha hb
    obtain ⟨d, rfl⟩ : ∃ d, b = a + 1 + d := ⟨b - a - 1, by omega⟩
    obtain ⟨q, hq⟩ := Nat.dvd_of_mod_eq_zero hb
    rw [hq, show 2 ^ (a + 1 + d) * q = 2 ^ a * (2 * (2 ^ d * q)) by rw [Nat.pow_add, Nat.pow_succ, Nat.mul_assoc, Nat.mul_assoc], Nat.mul_div_cancel_left _ (Nat.pow_pos (by decide))] at ha
    omega
  rcases Nat.lt_trichotomy r t with z | z | z
  · exact (key r t z h.2 h1).elim
  · exact z
  · exact (key t r z h2 h.1).elim
noncomputable def sp_lowest (N : Nat → Nat) (x : Int32) : Int32 := match sp_ix x with
  | none => -1
  | some a => if N a = 0 then -1 else nI (sp_ct (N a))
def sp_rest (N : Nat → Nat) (x m : Int32) : Int32 := match sp_ix x with
  | none => -1
  | some a => if m < nI 1 then -1 else nI (N a % m.toNatClampNeg)
/-! ===== the mill holds the numbers N ===== -/
def wm_R (N : Nat → Nat) (ln : Nat → Nat) (wd : Nat → Nat → Int32) : Prop := (∃ Mx : Nat → Nat, wm_ok Mx ln wd ∧ ∀ j, j < 16 → Mx j = N j) ∧ ∀ j, j < 16 → N j < sp_L
theorem wm_len16 {f : Nat → Int32} {n X : Nat} (h : wm_rep f n X) (hX : X < sp_L) : n ≤ 2048 := wm_rep_le h (by rw [← sp_L32]; exact hX)
theorem wm_R_of {N Mx : Nat → Nat} {ln : Nat → Nat} {wd : Nat → Nat → Int32} (h : wm_ok Mx ln wd) (he : ∀ j, j < 16 → Mx j = N j) (hL : ∀ j, j < 16 → N j < sp_L) : wm_R N ln wd := ⟨⟨Mx, h, he⟩, hL⟩
theorem wm_R_up {N Mx : Nat → Nat} {ln : Nat → Nat} {wd : Nat → Nat → Int32} {d X : Nat} (h : wm_ok (va_up Mx d X) ln wd) (he : ∀ j, j < 16 → Mx j = N j) (hL : ∀ j, j < 16 → N j < sp_L) (hX : X < sp_L) : wm_R (va_up N d X) ln wd := by
  refine ⟨⟨_, h, fun j hj => ?_⟩, fun j hj => ?_⟩
  · by_cases e : j = d
    · rw [e, va_up_self, va_up_self]
    · rw [va_up_ne _ _ e, va_up_ne _ _ e]; exact he j hj
  · by_cases e : j = d
    · rw [e, va_up_self]; exact hX
    · rw [va_up_ne _ _ e]; exact hL j hj
/-- behind keepResult -/
def wm_kept (Mx : Nat → Nat) (d : Nat) (ln : Nat → Nat) (wd : Nat → Nat → Int32) (r : Int32) (u : wm_St) : Prop := (Mx 16 < sp_L ∧ r = nI 1 ∧ wm_ok (va_up Mx d (Mx 16)) u.1 u.2) ∨ (sp_L ≤ Mx 16 ∧ r = nI 0 ∧ u = (ln, wd))
theorem wm_fin {N Mx : Nat → Nat} {ln : Nat → Nat} {wd : Nat → Nat → Int32} {d X : Nat} {r : Int32} {u : wm_St} (hk : wm_kept Mx d ln wd r u) (hok : wm_ok Mx ln wd) (he : ∀ j, j < 16 → Mx j = N j) (hL : ∀ j, j < 16 → N j < sp_L) (hX : Mx 16 = X) : r = (sp_putv N d X).1 ∧ wm_R (sp_putv N d X).2 u.1 u.2 := by
  unfold sp_putv
  rcases hk with ⟨h1, rfl, h3⟩ | ⟨h1, rfl, rfl⟩
  · rw [hX] at h1 h3
    rw [if_pos h1]
    exact ⟨rfl, wm_R_up h3 he hL h1⟩
  · rw [hX] at h1
    rw [if_neg (Nat.not_lt.mpr h1)]
    exact ⟨rfl, wm_R_of hok he hL⟩
theorem wm_fin1 {N Mx : Nat → Nat} {ln : Nat → Nat} {wd : Nat → Nat → Int32} {d X : Nat} {r : Int32} {u : wm_St} (hk : wm_kept Mx d ln wd r u) (hok : wm_ok Mx ln wd) (he : ∀ j, j < 16 → Mx j = N j) (hL : ∀ j, j < 16 → N j < sp_L) (hX : Mx 16 = X) (hXL : X < sp_L) : r = nI 1 ∧ wm_R (va_up N d X) u.1 u.2 := by
  have h := wm_fin hk hok he hL hX
  unfold sp_putv at h
  rw [if_pos hXL] at h
  exact h
theorem wm_kept_n {Mx : Nat → Nat} {d : Nat} {ln : Nat → Nat} {wd : Nat → Nat → Int32} {r : Int32} {u : wm_St} (hk : wm_kept Mx d ln wd r u) : narrow .boolean (.int r) = .int r := by
  rcases hk with ⟨-, rfl, -⟩ | ⟨-, rfl, -⟩ <;> rfl
end
section
set_option maxHeartbeats 4000000 in
set_option maxRecDepth 100000 in
theorem c_Mill_keepResult (l : Launch) (D : va_G) (ad : Nat → Nat) (cA cR : ClassId) (sz : Nat) (ln : Nat → Nat) (wd : Nat → Nat → Int32) (Mx : Nat → Nat) (d : Nat) (hd : d < 16) (hok : wm_ok Mx ln wd) : Met l y_Mill_keepResult (Cond.code y_Mill_keepResult b_Mill_keepResult 2 (some .boolean) :: lw_T) ({ frames := 2, cells := 0, slots := 0, locals := 47 }) (va_Pc [.ref (ad 38), .int (nI (d))] (wm_B D ad cA cR sz ln wd)) (va_Qi (fun (r : Int32) (u : wm_St) => wm_kept Mx d ln wd r u) (wm_E D ad cA cR sz) (wm_A ad sz)) 0 0 (wm_A ad sz) := by
  refine wm_met l (by decide) (Nat.le_of_ble_eq_true rfl) ?_
  intro p e s m below meth c ls hsz hC hK hr hlk hM hl
  subst hsz
  have hC : CallFix p m c b_Mill_keepResult 2 s _ lw_T R_Mill := hC
  have hl : lv_has ls 2 [(0, .ref (ad 38)), (1, .int (nI (d)))] := hl
  refine lv_aload_n hC.1 hC.2.1 d_Mill_keepResult_0 rfl (lv_at hl 0 rfl) ?_
  refine wm_res hC hK hM kf_Mill_16 d_Mill_keepResult_1 ?_
  refine wm_callVi hC hK hM (As := []) (rest := []) (wm_at_o (by decide)) rfl (c_Whole_size l D ad cA cR _ ln wd 16 (Mx 16) (by decide) (hok 16 (by decide))) kc_Whole_size km_Mill_30 ki_Whole kn_Whole_size ke_Whole_size kd_Whole_size ⟨rfl, rfl⟩ ⟨Nat.le_of_ble_eq_true rfl, Nat.le_of_ble_eq_true rfl⟩ rfl hl.1 (Nat.le_of_ble_eq_true rfl) d_Mill_keepResult_4 (fun r u H locs hp hM => ?_)
  obtain ⟨rfl, rfl⟩ := hp
  have hb : wm_bl (Mx 16) ≤ 32 * ln 16 := by rw [wm_bl_le, ← wm_p32]; exact wm_rep_lt (hok 16 (by decide))
  have hb2 := (hok 16 (by decide)).1
  have hM : wm_M D ad cA cR s (ln) (wd) H locs := by
    exact hM
  refine lv_ldc (v := nI 65536) hC.1 hC.2.1 hC.2.2.2.1 (hC.2.2.2.2 _ kk_Mill_85) d_Mill_keepResult_7 ?_
  refine nv_icmp_le (tgt := 14) hC (by omega) (by omega) d_Mill_keepResult_9 (by decide) (fun hc => ?_) (fun hc => ?_)
  · refine lv_aload_n hC.1 hC.2.1 d_Mill_keepResult_14 rfl (lv_at hl 0 rfl) ?_
    refine wm_regs hC hK hM kf_Mill_11 d_Mill_keepResult_15 ?_
    refine lv_iload_n hC.1 hC.2.1 d_Mill_keepResult_18 rfl (lv_at hl 1 rfl) ?_
    refine wm_reg hC hK hM (i := d) (by omega) d_Mill_keepResult_19 ?_
    refine lv_aload_n hC.1 hC.2.1 d_Mill_keepResult_20 rfl (lv_at hl 0 rfl) ?_
    refine wm_res hC hK hM kf_Mill_16 d_Mill_keepResult_21 ?_
    refine wm_callVv hC hK hM (As := [.ref (ad 16)]) (rest := []) (wm_at_o (by omega)) rfl (c_Whole_become l D ad cA cR _ ln wd d 16 (Mx 16) (by omega) (by decide) (wm_rep_ze (hok d (by omega))) (hok 16 (by decide))) kc_Whole_become km_Mill_50 ki_Whole kn_Whole_become ke_Whole_become kd_Whole_become ⟨rfl, rfl⟩ ⟨Nat.le_of_ble_eq_true rfl, Nat.le_of_ble_eq_true rfl⟩ rfl hl.1 (Nat.le_of_ble_eq_true rfl) d_Mill_keepResult_24 (fun u1 H locs hp hM => ?_)
    refine lv_iconst (v := nI 1) hC.1 hC.2.1 d_Mill_keepResult_27 (by decide) ?_
    exact wm_zret hC hK hM hr hlk rfl (Or.inl ⟨sp_bl.mp hc, rfl, wm_ok_up hok hp⟩) d_Mill_keepResult_28
  · refine lv_iconst (v := nI 0) hC.1 hC.2.1 d_Mill_keepResult_12 (by decide) ?_
    exact wm_zret hC hK hM hr hlk rfl (Or.inr ⟨Nat.le_of_not_lt (fun z => absurd (sp_bl.mpr z) (by omega)), rfl, rfl⟩) d_Mill_keepResult_13
set_option maxHeartbeats 4000000 in
set_option maxRecDepth 100000 in
theorem c_Mill_add (l : Launch) (D : va_G) (ad : Nat → Nat) (cA cR : ClassId) (sz : Nat) (ln : Nat → Nat) (wd : Nat → Nat → Int32) (N : Nat → Nat) (hR : wm_R N ln wd) (x y z : Int32) : Met l y_Mill_add (Cond.code y_Mill_add b_Mill_add 4 (some .boolean) :: lw_T) ({ frames := 3, cells := 0, slots := 0, locals := 68 }) (va_Pc [.ref (ad 38), .int (x), .int (y), .int (z)] (wm_B D ad cA cR sz ln wd)) (va_Qi (fun (r : Int32) (u : wm_St) => r = (sp_add N x y z).1 ∧ wm_R (sp_add N x y z).2 u.1 u.2) (wm_E D ad cA cR sz) (wm_A ad sz)) 0 0 (wm_A ad sz) := by
  refine wm_met l (by decide) (Nat.le_of_ble_eq_true rfl) ?_
  intro p e s m below meth c ls hsz hC hK hr hlk hM hl
  subst hsz
  have hC : CallFix p m c b_Mill_add 4 s _ lw_T R_Mill := hC
  have hl : lv_has ls 4 [(0, .ref (ad 38)), (1, .int (x)), (2, .int (y)), (3, .int (z))] := hl
  obtain ⟨⟨Mx, hok, he⟩, hL⟩ := id hR
  refine lv_iload_n hC.1 hC.2.1 d_Mill_add_0 rfl (lv_at hl 1 rfl) ?_
  refine wm_callPi hC hK hM (As := [.int (x)]) (rest := []) (c_Mill_isRegister l _ x) kc_Mill_isRegister km_Mill_26 ki_Mill ks_Mill_isRegister kd_Mill_isRegister ⟨rfl, rfl⟩ ⟨Nat.le_of_ble_eq_true rfl, Nat.le_of_ble_eq_true rfl⟩ rfl hl.1 (Nat.le_of_ble_eq_true rfl) d_Mill_add_1 (fun r H locs hp hM => ?_)
  rcases hp with ⟨d, hd, rfl, rfl⟩ | ⟨hno, rfl⟩
  · refine nv_if_eq (tgt := 21) hC (by omega) d_Mill_add_4 (by decide) (fun hz => ?_) (fun hz => ?_)
    · exact absurd hz (by decide)
    · refine lv_iload_n hC.1 hC.2.1 d_Mill_add_7 rfl (lv_at hl 2 rfl) ?_
      refine wm_callPi hC hK hM (As := [.int (y)]) (rest := []) (c_Mill_isRegister l _ y) kc_Mill_isRegister km_Mill_26 ki_Mill ks_Mill_isRegister kd_Mill_isRegister ⟨rfl, rfl⟩ ⟨Nat.le_of_ble_eq_true rfl, Nat.le_of_ble_eq_true rfl⟩ rfl hl.1 (Nat.le_of_ble_eq_true rfl) d_Mill_add_8 (fun r H locs hp hM => ?_)
      rcases hp with ⟨a, ha, rfl, rfl⟩ | ⟨hno, rfl⟩
      · refine nv_if_eq (tgt := 21) hC (by omega) d_Mill_add_11 (by decide) (fun hz => ?_) (fun hz => ?_)
        · exact absurd hz (by decide)
        · refine lv_iload_n hC.1 hC.2.1 d_Mill_add_14 rfl (lv_at hl 3 rfl) ?_
          refine wm_callPi hC hK hM (As := [.int (z)]) (rest := []) (c_Mill_isRegister l _ z) kc_Mill_isRegister km_Mill_26 ki_Mill ks_Mill_isRegister kd_Mill_isRegister ⟨rfl, rfl⟩ ⟨Nat.le_of_ble_eq_true rfl, Nat.le_of_ble_eq_true rfl⟩ rfl hl.1 (Nat.le_of_ble_eq_true rfl) d_Mill_add_15 (fun r H locs hp hM => ?_)
          rcases hp with ⟨b, hb, rfl, rfl⟩ | ⟨hno, rfl⟩
          · refine nv_if_ne (tgt := 23) hC (by omega) d_Mill_add_18 (by decide) (fun hz => ?_) (fun hz => ?_)
            · have l1 := wm_len16 (hok a (by omega)) (by rw [he a ha]; exact hL a ha)
              have l2 := wm_len16 (hok b (by omega)) (by rw [he b hb]; exact hL b hb)
              refine lv_aload_n hC.1 hC.2.1 d_Mill_add_23 rfl (lv_at hl 0 rfl) ?_
              refine wm_res hC hK hM kf_Mill_16 d_Mill_add_24 ?_
              refine lv_aload_n hC.1 hC.2.1 d_Mill_add_27 rfl (lv_at hl 0 rfl) ?_
              refine wm_regs hC hK hM kf_Mill_11 d_Mill_add_28 ?_
              refine lv_iload_n hC.1 hC.2.1 d_Mill_add_31 rfl (lv_at hl 2 rfl) ?_
              refine wm_reg hC hK hM (i := a) (by omega) d_Mill_add_32 ?_
              refine lv_aload_n hC.1 hC.2.1 d_Mill_add_33 rfl (lv_at hl 0 rfl) ?_
              refine wm_regs hC hK hM kf_Mill_11 d_Mill_add_34 ?_
              refine lv_iload_n hC.1 hC.2.1 d_Mill_add_37 rfl (lv_at hl 3 rfl) ?_
              refine wm_reg hC hK hM (i := b) (by omega) d_Mill_add_38 ?_
              refine wm_callVv hC hK hM (As := [.ref (ad a), .ref (ad b)]) (rest := []) (wm_at_o (by decide)) rfl (c_Whole_becomeSum l D ad cA cR _ ln wd 16 a b (Mx a) (Mx b) (by decide) (by omega) (by omega) (by omega) (by omega) (wm_rep_ze (hok 16 (by decide))) (hok a (by omega)) (hok b (by omega)) (by omega) (by omega)) kc_Whole_becomeSum km_Mill_54 ki_Whole kn_Whole_becomeSum ke_Whole_becomeSum kd_Whole_becomeSum ⟨rfl, rfl⟩ ⟨Nat.le_of_ble_eq_true rfl, Nat.le_of_ble_eq_true rfl⟩ rfl hl.1 (Nat.le_of_ble_eq_true rfl) d_Mill_add_39 (fun u1 H locs hp1 hM => ?_)
              have ok1 := wm_ok_up hok hp1
              refine lv_aload_n hC.1 hC.2.1 d_Mill_add_42 rfl (lv_at hl 0 rfl) ?_
              refine lv_iload_n hC.1 hC.2.1 d_Mill_add_43 rfl (lv_at hl 1 rfl) ?_
              refine wm_callVi hC hK hM (As := [.int (nI (d))]) (rest := []) wm_at_m rfl (c_Mill_keepResult l D ad cA cR _ (u1.1) (u1.2) _ d hd ok1) kc_Mill_keepResult km_Mill_43 ki_Mill kn_Mill_keepResult ke_Mill_keepResult kd_Mill_keepResult ⟨rfl, rfl⟩ ⟨Nat.le_of_ble_eq_true rfl, Nat.le_of_ble_eq_true rfl⟩ rfl hl.1 (Nat.le_of_ble_eq_true rfl) d_Mill_add_44 (fun r uk H locs hpk hM => ?_)
              have hfin := wm_fin (N := N) hpk ok1 (fun j hj => by rw [va_up_ne _ _ (by omega)]; exact he j hj) hL (X := N a + N b) (by rw [va_up_self, he a ha, he b hb])
              exact wm_zret hC hK hM hr hlk (wm_kept_n hpk) (by simp only [sp_add, sp_3, sp_ix_ok hd, sp_ix_ok ha, sp_ix_ok hb]; exact hfin) d_Mill_add_47
            · exact absurd hz (by decide)
          · refine nv_if_ne (tgt := 23) hC (by omega) d_Mill_add_18 (by decide) (fun hz => ?_) (fun hz => ?_)
            · exact absurd rfl hz
            · refine lv_iconst (v := nI 0) hC.1 hC.2.1 d_Mill_add_21 (by decide) ?_
              exact wm_zret hC hK hM hr hlk rfl (⟨by simp only [sp_add, sp_3, sp_no, sp_ix_ok hd, sp_ix_ok ha, sp_ix_no hno], by simp only [sp_add, sp_3, sp_no, sp_ix_ok hd, sp_ix_ok ha, sp_ix_no hno]; exact hR⟩) d_Mill_add_22
      · refine nv_if_eq (tgt := 21) hC (by omega) d_Mill_add_11 (by decide) (fun hz => ?_) (fun hz => ?_)
        · refine lv_iconst (v := nI 0) hC.1 hC.2.1 d_Mill_add_21 (by decide) ?_
          exact wm_zret hC hK hM hr hlk rfl (⟨by simp only [sp_add, sp_3, sp_no, sp_ix_ok hd, sp_ix_no hno], by simp only [sp_add, sp_3, sp_no, sp_ix_ok hd, sp_ix_no hno]; exact hR⟩) d_Mill_add_22
        · exact absurd rfl hz
  · refine nv_if_eq (tgt := 21) hC (by omega) d_Mill_add_4 (by decide) (fun hz => ?_) (fun hz => ?_)
    · refine lv_iconst (v := nI 0) hC.1 hC.2.1 d_Mill_add_21 (by decide) ?_
      exact wm_zret hC hK hM hr hlk rfl (⟨by simp only [sp_add, sp_3, sp_no, sp_ix_no hno], by simp only [sp_add, sp_3, sp_no, sp_ix_no hno]; exact hR⟩) d_Mill_add_22
    · exact absurd rfl hz
set_option maxHeartbeats 4000000 in
set_option maxRecDepth 100000 in
theorem c_Mill_copy (l : Launch) (D : va_G) (ad : Nat → Nat) (cA cR : ClassId) (sz : Nat) (ln : Nat → Nat) (wd : Nat → Nat → Int32) (N : Nat → Nat) (hR : wm_R N ln wd) (x y : Int32) : Met l y_Mill_copy (Cond.code y_Mill_copy b_Mill_copy 3 (some .boolean) :: lw_T) ({ frames := 2, cells := 0, slots := 0, locals := 47 }) (va_Pc [.ref (ad 38), .int (x), .int (y)] (wm_B D ad cA cR sz ln wd)) (va_Qi (fun (r : Int32) (u : wm_St) => r = (sp_copy N x y).1 ∧ wm_R (sp_copy N x y).2 u.1 u.2) (wm_E D ad cA cR sz) (wm_A ad sz)) 0 0 (wm_A ad sz) := by
  refine wm_met l (by decide) (Nat.le_of_ble_eq_true rfl) ?_
  intro p e s m below meth c ls hsz hC hK hr hlk hM hl
  subst hsz
  have hC : CallFix p m c b_Mill_copy 3 s _ lw_T R_Mill := hC
  have hl : lv_has ls 3 [(0, .ref (ad 38)), (1, .int (x)), (2, .int (y))] := hl
  obtain ⟨⟨Mx, hok, he⟩, hL⟩ := id hR
  refine lv_iload_n hC.1 hC.2.1 d_Mill_copy_0 rfl (lv_at hl 1 rfl) ?_
  refine wm_callPi hC hK hM (As := [.int (x)]) (rest := []) (c_Mill_isRegister l _ x) kc_Mill_isRegister km_Mill_26 ki_Mill ks_Mill_isRegister kd_Mill_isRegister ⟨rfl, rfl⟩ ⟨Nat.le_of_ble_eq_true rfl, Nat.le_of_ble_eq_true rfl⟩ rfl hl.1 (Nat.le_of_ble_eq_true rfl) d_Mill_copy_1 (fun r H locs hp hM => ?_)
  rcases hp with ⟨d, hd, rfl, rfl⟩ | ⟨hno, rfl⟩
  · refine nv_if_eq (tgt := 14) hC (by omega) d_Mill_copy_4 (by decide) (fun hz => ?_) (fun hz => ?_)
    · exact absurd hz (by decide)
    · refine lv_iload_n hC.1 hC.2.1 d_Mill_copy_7 rfl (lv_at hl 2 rfl) ?_
      refine wm_callPi hC hK hM (As := [.int (y)]) (rest := []) (c_Mill_isRegister l _ y) kc_Mill_isRegister km_Mill_26 ki_Mill ks_Mill_isRegister kd_Mill_isRegister ⟨rfl, rfl⟩ ⟨Nat.le_of_ble_eq_true rfl, Nat.le_of_ble_eq_true rfl⟩ rfl hl.1 (Nat.le_of_ble_eq_true rfl) d_Mill_copy_8 (fun r H locs hp hM => ?_)
      rcases hp with ⟨a, ha, rfl, rfl⟩ | ⟨hno, rfl⟩
      · refine nv_if_ne (tgt := 16) hC (by omega) d_Mill_copy_11 (by decide) (fun hz => ?_) (fun hz => ?_)
        · refine lv_aload_n hC.1 hC.2.1 d_Mill_copy_16 rfl (lv_at hl 0 rfl) ?_
          refine wm_regs hC hK hM kf_Mill_11 d_Mill_copy_17 ?_
          refine lv_iload_n hC.1 hC.2.1 d_Mill_copy_20 rfl (lv_at hl 1 rfl) ?_
          refine wm_reg hC hK hM (i := d) (by omega) d_Mill_copy_21 ?_
          refine lv_aload_n hC.1 hC.2.1 d_Mill_copy_22 rfl (lv_at hl 0 rfl) ?_
          refine wm_regs hC hK hM kf_Mill_11 d_Mill_copy_23 ?_
          refine lv_iload_n hC.1 hC.2.1 d_Mill_copy_26 rfl (lv_at hl 2 rfl) ?_
          refine wm_reg hC hK hM (i := a) (by omega) d_Mill_copy_27 ?_
          refine wm_callVv hC hK hM (As := [.ref (ad a)]) (rest := []) (wm_at_o (by omega)) rfl (c_Whole_become l D ad cA cR _ ln wd d a (Mx a) (by omega) (by omega) (wm_rep_ze (hok d (by omega))) (hok a (by omega))) kc_Whole_become km_Mill_50 ki_Whole kn_Whole_become ke_Whole_become kd_Whole_become ⟨rfl, rfl⟩ ⟨Nat.le_of_ble_eq_true rfl, Nat.le_of_ble_eq_true rfl⟩ rfl hl.1 (Nat.le_of_ble_eq_true rfl) d_Mill_copy_28 (fun u1 H locs hp1 hM => ?_)
          have ok1 := wm_ok_up hok hp1
          rw [he a ha] at ok1
          refine lv_iconst (v := nI 1) hC.1 hC.2.1 d_Mill_copy_31 (by decide) ?_
          exact wm_zret hC hK hM hr hlk rfl ⟨by simp only [sp_copy, sp_ix_ok hd, sp_ix_ok ha], by simp only [sp_copy, sp_ix_ok hd, sp_ix_ok ha]; exact wm_R_up ok1 he hL (hL a ha)⟩ d_Mill_copy_32
        · exact absurd hz (by decide)
      · refine nv_if_ne (tgt := 16) hC (by omega) d_Mill_copy_11 (by decide) (fun hz => ?_) (fun hz => ?_)
        · exact absurd rfl hz
        · refine lv_iconst (v := nI 0) hC.1 hC.2.1 d_Mill_copy_14 (by decide) ?_
          exact wm_zret hC hK hM hr hlk rfl (⟨by simp only [sp_copy, sp_3, sp_no, sp_ix_ok hd, sp_ix_no hno], by simp only [sp_copy, sp_3, sp_no, sp_ix_ok hd, sp_ix_no hno]; exact hR⟩) d_Mill_copy_15
  · refine nv_if_eq (tgt := 14) hC (by omega) d_Mill_copy_4 (by decide) (fun hz => ?_) (fun hz => ?_)
    · refine lv_iconst (v := nI 0) hC.1 hC.2.1 d_Mill_copy_14 (by decide) ?_
      exact wm_zret hC hK hM hr hlk rfl (⟨by simp only [sp_copy, sp_3, sp_no, sp_ix_no hno], by simp only [sp_copy, sp_3, sp_no, sp_ix_no hno]; exact hR⟩) d_Mill_copy_15
    · exact absurd rfl hz
end
section
theorem sp_big {A p : Nat} {E : Nat} (h1 : 2 ^ 65472 ≤ E) (h2 : E ≤ A) : sp_L ≤ A * 18446744073709551616 + p := by
  have h3 : 2 ^ 65472 * 18446744073709551616 ≤ A * 18446744073709551616 := Nat.mul_le_mul_right _ (Nat.le_trans h1 h2)
  have e1 : (2 : Nat) ^ 65536 = 2 ^ (65472 + 64) := congrArg (fun n => 2 ^ n) (by decide)
  have e : sp_L = 2 ^ 65472 * 18446744073709551616 := by
    unfold sp_L
    rw [e1, Nat.pow_add]
  rw [e]
  exact Nat.le_trans h3 (Nat.le_add_right _ _)
theorem wm_prod_fit {f g : Nat → Int32} {n m A B : Nat} (h1 : wm_rep f n A) (h2 : wm_rep g m B) (h : wm_bl A + wm_bl B ≤ 65537) (l1 : n ≤ 2048) (l2 : m ≤ 2048) : n + m ≤ 2049 := by
  rcases Nat.eq_zero_or_pos n with z | z
  · omega
  · rcases Nat.eq_zero_or_pos m with y | y
    · omega
    · obtain ⟨n', rfl⟩ : ∃ k, n = k + 1 := ⟨n - 1, by omega⟩
      obtain ⟨m', rfl⟩ : ∃ k, m = k + 1 := ⟨m - 1, by omega⟩
      have a1 := wm_bl_words h1
      have a2 := wm_bl_words h2
      omega
theorem wm_prod_big {A B : Nat} (b1 : wm_bl A ≤ 65536) (b2 : wm_bl B ≤ 65536) (h : 65537 < wm_bl A + wm_bl B) : sp_L ≤ A * B := by
  have hA : 0 < A := by
    rcases Nat.eq_zero_or_pos A with z | z
    · rw [z, wm_bl_0] at h; omega
    · exact z
  have hB : 0 < B := by
    rcases Nat.eq_zero_or_pos B with z | z
    · rw [z, wm_bl_0] at h; omega
    · exact z
  have h1 := Nat.mul_le_mul (wm_bl_ge hA) (wm_bl_ge hB)
  rw [← Nat.pow_add] at h1
  have h2 : 2 ^ 65536 ≤ 2 ^ (wm_bl A - 1 + (wm_bl B - 1)) := Nat.pow_le_pow_right (by decide) (by omega)
  exact Nat.le_trans h2 h1
theorem wm_R_up2 {N Mx : Nat → Nat} {ln : Nat → Nat} {wd : Nat → Nat → Int32} {d e X Y : Nat} (h : wm_ok (va_up (va_up Mx d X) e Y) ln wd) (he : ∀ j, j < 16 → Mx j = N j) (hL : ∀ j, j < 16 → N j < sp_L) (hX : X < sp_L) (hY : Y < sp_L) : wm_R (va_up (va_up N d X) e Y) ln wd := by
  refine wm_R_up h (fun j hj => ?_) (fun j hj => ?_) hY
  · by_cases e : j = d
    · rw [e, va_up_self, va_up_self]
    · rw [va_up_ne _ _ e, va_up_ne _ _ e]; exact he j hj
  · by_cases e : j = d
    · rw [e, va_up_self]; exact hX
    · rw [va_up_ne _ _ e]; exact hL j hj
end
section
set_option maxHeartbeats 4000000 in
set_option maxRecDepth 100000 in
theorem c_Mill_push (l : Launch) (D : va_G) (ad : Nat → Nat) (cA cR : ClassId) (sz : Nat) (ln : Nat → Nat) (wd : Nat → Nat → Int32) (N : Nat → Nat) (hR : wm_R N ln wd) (x : Int32) (p0 : Nat) (hp0 : p0 < 2 ^ 64) : Met l y_Mill_push (Cond.code y_Mill_push b_Mill_push 4 (some .boolean) :: lw_T) ({ frames := 3, cells := 0, slots := 0, locals := 69 }) (va_Pc [.ref (ad 38), .int (x), .long (lN (p0))] (wm_B D ad cA cR sz ln wd)) (va_Qi (fun (r : Int32) (u : wm_St) => r = (sp_push N x p0).1 ∧ wm_R (sp_push N x p0).2 u.1 u.2) (wm_E D ad cA cR sz) (wm_A ad sz)) 0 0 (wm_A ad sz) := by
  refine wm_met l (by decide) (Nat.le_of_ble_eq_true rfl) ?_
  intro p e s m below meth c ls hsz hC hK hr hlk hM hl
  subst hsz
  have hC : CallFix p m c b_Mill_push 4 s _ lw_T R_Mill := hC
  have hl : lv_has ls 4 [(0, .ref (ad 38)), (1, .int (x)), (2, .long (lN (p0)))] := hl
  obtain ⟨⟨Mx, hok, he⟩, hL⟩ := id hR
  refine lv_iload_n hC.1 hC.2.1 d_Mill_push_0 rfl (lv_at hl 1 rfl) ?_
  refine wm_callPi hC hK hM (As := [.int (x)]) (rest := []) (c_Mill_isRegister l _ x) kc_Mill_isRegister km_Mill_26 ki_Mill ks_Mill_isRegister kd_Mill_isRegister ⟨rfl, rfl⟩ ⟨Nat.le_of_ble_eq_true rfl, Nat.le_of_ble_eq_true rfl⟩ rfl hl.1 (Nat.le_of_ble_eq_true rfl) d_Mill_push_1 (fun r H locs hp hM => ?_)
  rcases hp with ⟨d, hd, rfl, rfl⟩ | ⟨hno, rfl⟩
  · refine nv_if_eq (tgt := 21) hC (by omega) d_Mill_push_4 (by decide) (fun hz => ?_) (fun hz => ?_)
    · exact absurd hz (by decide)
    · have l1 := wm_len16 (hok d (by omega)) (by rw [he d hd]; exact hL d hd)
      have hbb : wm_bl (Mx d) ≤ 65536 := sp_bl.mpr (by rw [he d hd]; exact hL d hd)
      refine lv_aload_n hC.1 hC.2.1 d_Mill_push_7 rfl (lv_at hl 0 rfl) ?_
      refine wm_regs hC hK hM kf_Mill_11 d_Mill_push_8 ?_
      refine lv_iload_n hC.1 hC.2.1 d_Mill_push_11 rfl (lv_at hl 1 rfl) ?_
      refine wm_reg hC hK hM (i := d) (by omega) d_Mill_push_12 ?_
      refine wm_callVi hC hK hM (As := []) (rest := []) (wm_at_o (by omega)) rfl (c_Whole_size l D ad cA cR _ ln wd d (Mx d) (by omega) (hok d (by omega))) kc_Whole_size km_Mill_30 ki_Whole kn_Whole_size ke_Whole_size kd_Whole_size ⟨rfl, rfl⟩ ⟨Nat.le_of_ble_eq_true rfl, Nat.le_of_ble_eq_true rfl⟩ rfl hl.1 (Nat.le_of_ble_eq_true rfl) d_Mill_push_13 (fun r u H locs hp hM => ?_)
      obtain ⟨rfl, rfl⟩ := hp
      have hM : wm_M D ad cA cR s (ln) (wd) H locs := by
        exact hM
      refine lv_ldc (v := nI 65472) hC.1 hC.2.1 hC.2.2.2.1 (hC.2.2.2.2 _ kk_Mill_34) d_Mill_push_16 ?_
      refine nv_icmp_le (tgt := 23) hC (by omega) (by omega) d_Mill_push_18 (by decide) (fun hc => ?_) (fun hc => ?_)
      · have l2 : ln d ≤ 2046 := wm_rep_le (hok d (by omega)) (by rw [wm_p32]; exact wm_bl_le.mp hc)
        refine lv_aload_n hC.1 hC.2.1 d_Mill_push_23 rfl (lv_at hl 0 rfl) ?_
        refine wm_res hC hK hM kf_Mill_16 d_Mill_push_24 ?_
        refine lv_aload_n hC.1 hC.2.1 d_Mill_push_27 rfl (lv_at hl 0 rfl) ?_
        refine wm_regs hC hK hM kf_Mill_11 d_Mill_push_28 ?_
        refine lv_iload_n hC.1 hC.2.1 d_Mill_push_31 rfl (lv_at hl 1 rfl) ?_
        refine wm_reg hC hK hM (i := d) (by omega) d_Mill_push_32 ?_
        refine lv_bipush (v := nI 64) hC.1 hC.2.1 d_Mill_push_33 (by decide) ?_
        refine wm_callVv hC hK hM (As := [.ref (ad d), .int (nI (64))]) (rest := []) (wm_at_o (by decide)) rfl (c_Whole_becomeShiftedLeft l D ad cA cR _ ln wd 16 d (Mx d) 64 (by decide) (by omega) (by omega) (wm_rep_ze (hok 16 (by decide))) (hok d (by omega)) (by decide) (by omega)) kc_Whole_becomeShiftedLeft km_Mill_35 ki_Whole kn_Whole_becomeShiftedLeft ke_Whole_becomeShiftedLeft kd_Whole_becomeShiftedLeft ⟨rfl, rfl⟩ ⟨Nat.le_of_ble_eq_true rfl, Nat.le_of_ble_eq_true rfl⟩ rfl hl.1 (Nat.le_of_ble_eq_true rfl) d_Mill_push_35 (fun u1 H locs hp1 hM => ?_)
        have ok1 := wm_ok_up hok hp1
        refine lv_aload_n hC.1 hC.2.1 d_Mill_push_38 rfl (lv_at hl 0 rfl) ?_
        refine wm_res hC hK hM kf_Mill_16 d_Mill_push_39 ?_
        refine lv_lload_n hC.1 hC.2.1 d_Mill_push_42 rfl (lv_at hl 2 rfl) ?_
        refine wm_callVv hC hK hM (As := [.long (lN (p0))]) (rest := []) (wm_at_o (by decide)) rfl (c_Whole_fillLowestPair l D ad cA cR _ (u1.1) (u1.2) 16 p0 _ (by decide) hp0 (wm_ok_self ok1 (by decide))) kc_Whole_fillLowestPair km_Mill_39 ki_Whole kn_Whole_fillLowestPair ke_Whole_fillLowestPair kd_Whole_fillLowestPair ⟨rfl, rfl⟩ ⟨Nat.le_of_ble_eq_true rfl, Nat.le_of_ble_eq_true rfl⟩ rfl hl.1 (Nat.le_of_ble_eq_true rfl) d_Mill_push_43 (fun u2 H locs hp2 hM => ?_)
        have ok2 := wm_ok_up ok1 hp2
        refine lv_aload_n hC.1 hC.2.1 d_Mill_push_46 rfl (lv_at hl 0 rfl) ?_
        refine lv_iload_n hC.1 hC.2.1 d_Mill_push_47 rfl (lv_at hl 1 rfl) ?_
        refine wm_callVi hC hK hM (As := [.int (nI (d))]) (rest := []) wm_at_m rfl (c_Mill_keepResult l D ad cA cR _ (u2.1) (u2.2) _ d hd ok2) kc_Mill_keepResult km_Mill_43 ki_Mill kn_Mill_keepResult ke_Mill_keepResult kd_Mill_keepResult ⟨rfl, rfl⟩ ⟨Nat.le_of_ble_eq_true rfl, Nat.le_of_ble_eq_true rfl⟩ rfl hl.1 (Nat.le_of_ble_eq_true rfl) d_Mill_push_48 (fun r uk H locs hpk hM => ?_)
        have hfin := wm_fin (N := N) hpk ok2 (fun j hj => by rw [va_up_ne _ _ (by omega), va_up_ne _ _ (by omega)]; exact he j hj) hL (X := N d * 18446744073709551616 + p0) (by rw [va_up_self, he d hd]; exact congrArg (· + p0) (by rw [show (2 : Nat) ^ 64 = 18446744073709551616 by decide, Nat.mul_div_cancel _ (by decide)]))
        exact wm_zret hC hK hM hr hlk (wm_kept_n hpk) (by simp only [sp_push, sp_ix_ok hd]; exact hfin) d_Mill_push_51
      · have hbig : ¬ N d * 18446744073709551616 + p0 < sp_L := by
          have h1 := wm_bl_ge (n := Mx d) (by
            rcases Nat.eq_zero_or_pos (Mx d) with z | z
            · rw [z, wm_bl_0] at hc; omega
            · exact z)
          have h2 : 2 ^ 65472 ≤ 2 ^ (wm_bl (Mx d) - 1) := Nat.pow_le_pow_right (by decide) (by omega)
          rw [he d hd] at h1 h2
          exact Nat.not_lt.mpr (sp_big h2 h1)
        refine lv_iconst (v := nI 0) hC.1 hC.2.1 d_Mill_push_21 (by decide) ?_
        exact wm_zret hC hK hM hr hlk rfl ⟨by simp only [sp_push, sp_ix_ok hd, sp_putv, if_neg hbig], by simp only [sp_push, sp_ix_ok hd, sp_putv, if_neg hbig]; exact hR⟩ d_Mill_push_22
  · refine nv_if_eq (tgt := 21) hC (by omega) d_Mill_push_4 (by decide) (fun hz => ?_) (fun hz => ?_)
    · refine lv_iconst (v := nI 0) hC.1 hC.2.1 d_Mill_push_21 (by decide) ?_
      exact wm_zret hC hK hM hr hlk rfl (⟨by simp only [sp_push, sp_3, sp_no, sp_ix_no hno], by simp only [sp_push, sp_3, sp_no, sp_ix_no hno]; exact hR⟩) d_Mill_push_22
    · exact absurd rfl hz
set_option maxHeartbeats 4000000 in
set_option maxRecDepth 100000 in
theorem c_Mill_spread (l : Launch) (D : va_G) (ad : Nat → Nat) (cA cR : ClassId) (sz : Nat) (ln : Nat → Nat) (wd : Nat → Nat → Int32) (N : Nat → Nat) (hR : wm_R N ln wd) (x : Int32) (p0 : Nat) (hp0 : p0 < 2 ^ 64) (n0 : Int32) : Met l y_Mill_spread (Cond.code y_Mill_spread b_Mill_spread 5 (some .boolean) :: lw_T) ({ frames := 3, cells := 0, slots := 0, locals := 68 }) (va_Pc [.ref (ad 38), .int (x), .long (lN (p0)), .int (n0)] (wm_B D ad cA cR sz ln wd)) (va_Qi (fun (r : Int32) (u : wm_St) => r = (sp_spread N x p0 n0).1 ∧ wm_R (sp_spread N x p0 n0).2 u.1 u.2) (wm_E D ad cA cR sz) (wm_A ad sz)) 0 0 (wm_A ad sz) := by
  refine wm_met l (by decide) (Nat.le_of_ble_eq_true rfl) ?_
  intro p e s m below meth c ls hsz hC hK hr hlk hM hl
  subst hsz
  have hC : CallFix p m c b_Mill_spread 5 s _ lw_T R_Mill := hC
  have hl : lv_has ls 5 [(0, .ref (ad 38)), (1, .int (x)), (2, .long (lN (p0))), (4, .int (n0))] := hl
  obtain ⟨⟨Mx, hok, he⟩, hL⟩ := id hR
  refine lv_iload_n hC.1 hC.2.1 d_Mill_spread_0 rfl (lv_at hl 1 rfl) ?_
  refine wm_callPi hC hK hM (As := [.int (x)]) (rest := []) (c_Mill_isRegister l _ x) kc_Mill_isRegister km_Mill_26 ki_Mill ks_Mill_isRegister kd_Mill_isRegister ⟨rfl, rfl⟩ ⟨Nat.le_of_ble_eq_true rfl, Nat.le_of_ble_eq_true rfl⟩ rfl hl.1 (Nat.le_of_ble_eq_true rfl) d_Mill_spread_1 (fun r H locs hp hM => ?_)
  rcases hp with ⟨d, hd, rfl, rfl⟩ | ⟨hno, rfl⟩
  · refine nv_if_eq (tgt := 20) hC (by omega) d_Mill_spread_4 (by decide) (fun hz => ?_) (fun hz => ?_)
    · exact absurd hz (by decide)
    · refine lv_iload hC.1 hC.2.1 d_Mill_spread_7 (lv_at hl 3 rfl) ?_
      refine lv_if_lt (tgt := 20) hC.1 hC.2.1 d_Mill_spread_9 (by decide) (fun hn => ?_) (fun hn => ?_)
      · refine lv_iconst (v := nI 0) hC.1 hC.2.1 d_Mill_spread_20 (by decide) ?_
        exact wm_zret hC hK hM hr hlk rfl ⟨by simp only [sp_spread, sp_ix_ok hd]; rw [if_pos (Or.inl hn)]; rfl, by simp only [sp_spread, sp_ix_ok hd]; rw [if_pos (Or.inl hn)]; exact hR⟩ d_Mill_spread_21
      · obtain ⟨k, hk, rfl⟩ := nI_of hn
        refine lv_iload hC.1 hC.2.1 d_Mill_spread_12 (lv_at hl 3 rfl) ?_
        refine lv_sipush (v := nI 1024) hC.1 hC.2.1 d_Mill_spread_14 (by decide) ?_
        refine nv_icmp_le (tgt := 22) hC (by omega) (by omega) d_Mill_spread_17 (by decide) (fun hk2 => ?_) (fun hk2 => ?_)
        · refine lv_aload_n hC.1 hC.2.1 d_Mill_spread_22 rfl (lv_at hl 0 rfl) ?_
          refine wm_res hC hK hM kf_Mill_16 d_Mill_spread_23 ?_
          refine lv_lload_n hC.1 hC.2.1 d_Mill_spread_26 rfl (lv_at hl 2 rfl) ?_
          refine lv_iload hC.1 hC.2.1 d_Mill_spread_27 (lv_at hl 3 rfl) ?_
          refine wm_callVv hC hK hM (As := [.long (lN (p0)), .int (nI (k))]) (rest := []) (wm_at_o (by decide)) rfl (c_Whole_becomePairs l D ad cA cR _ ln wd 16 p0 k (by decide) hp0 hk2 (wm_rep_ze (hok 16 (by decide)))) kc_Whole_becomePairs km_Mill_46 ki_Whole kn_Whole_becomePairs ke_Whole_becomePairs kd_Whole_becomePairs ⟨rfl, rfl⟩ ⟨Nat.le_of_ble_eq_true rfl, Nat.le_of_ble_eq_true rfl⟩ rfl hl.1 (Nat.le_of_ble_eq_true rfl) d_Mill_spread_29 (fun u1 H locs hp1 hM => ?_)
          have ok1 := wm_ok_up hok hp1
          refine lv_aload_n hC.1 hC.2.1 d_Mill_spread_32 rfl (lv_at hl 0 rfl) ?_
          refine lv_iload_n hC.1 hC.2.1 d_Mill_spread_33 rfl (lv_at hl 1 rfl) ?_
          refine wm_callVi hC hK hM (As := [.int (nI (d))]) (rest := []) wm_at_m rfl (c_Mill_keepResult l D ad cA cR _ (u1.1) (u1.2) _ d hd ok1) kc_Mill_keepResult km_Mill_43 ki_Mill kn_Mill_keepResult ke_Mill_keepResult kd_Mill_keepResult ⟨rfl, rfl⟩ ⟨Nat.le_of_ble_eq_true rfl, Nat.le_of_ble_eq_true rfl⟩ rfl hl.1 (Nat.le_of_ble_eq_true rfl) d_Mill_spread_34 (fun r uk H locs hpk hM => ?_)
          have hfin := wm_fin (N := N) hpk ok1 (fun j hj => by rw [va_up_ne _ _ (by omega)]; exact he j hj) hL (X := wm_pr p0 k) (by rw [va_up_self])
          have hnn : ¬ (nI k < 0 ∨ nI 1024 < nI k) := fun z => by
            rcases z with z | z
            · exact hn z
            · exact absurd ((nI_ltI (by decide) hk).mp z) (by omega)
          exact wm_zret hC hK hM hr hlk (wm_kept_n hpk) (by simp only [sp_spread, sp_ix_ok hd]; rw [if_neg hnn, nI_clamp hk]; exact hfin) d_Mill_spread_37
        · refine lv_iconst (v := nI 0) hC.1 hC.2.1 d_Mill_spread_20 (by decide) ?_
          have hpp : nI k < 0 ∨ nI 1024 < nI k := Or.inr ((nI_ltI (by decide) hk).mpr hk2)
          exact wm_zret hC hK hM hr hlk rfl ⟨by simp only [sp_spread, sp_ix_ok hd]; rw [if_pos hpp]; rfl, by simp only [sp_spread, sp_ix_ok hd]; rw [if_pos hpp]; exact hR⟩ d_Mill_spread_21
  · refine nv_if_eq (tgt := 20) hC (by omega) d_Mill_spread_4 (by decide) (fun hz => ?_) (fun hz => ?_)
    · refine lv_iconst (v := nI 0) hC.1 hC.2.1 d_Mill_spread_20 (by decide) ?_
      exact wm_zret hC hK hM hr hlk rfl (⟨by simp only [sp_spread, sp_3, sp_no, sp_ix_no hno], by simp only [sp_spread, sp_3, sp_no, sp_ix_no hno]; exact hR⟩) d_Mill_spread_21
    · exact absurd rfl hz
set_option maxHeartbeats 4000000 in
set_option maxRecDepth 100000 in
theorem c_Mill_take (l : Launch) (D : va_G) (ad : Nat → Nat) (cA cR : ClassId) (sz : Nat) (ln : Nat → Nat) (wd : Nat → Nat → Int32) (N : Nat → Nat) (hR : wm_R N ln wd) (x y z : Int32) : Met l y_Mill_take (Cond.code y_Mill_take b_Mill_take 4 (some .boolean) :: lw_T) ({ frames := 3, cells := 0, slots := 0, locals := 68 }) (va_Pc [.ref (ad 38), .int (x), .int (y), .int (z)] (wm_B D ad cA cR sz ln wd)) (va_Qi (fun (r : Int32) (u : wm_St) => r = (sp_take N x y z).1 ∧ wm_R (sp_take N x y z).2 u.1 u.2) (wm_E D ad cA cR sz) (wm_A ad sz)) 0 0 (wm_A ad sz) := by
  refine wm_met l (by decide) (Nat.le_of_ble_eq_true rfl) ?_
  intro p e s m below meth c ls hsz hC hK hr hlk hM hl
  subst hsz
  have hC : CallFix p m c b_Mill_take 4 s _ lw_T R_Mill := hC
  have hl : lv_has ls 4 [(0, .ref (ad 38)), (1, .int (x)), (2, .int (y)), (3, .int (z))] := hl
  obtain ⟨⟨Mx, hok, he⟩, hL⟩ := id hR
  refine lv_iload_n hC.1 hC.2.1 d_Mill_take_0 rfl (lv_at hl 1 rfl) ?_
  refine wm_callPi hC hK hM (As := [.int (x)]) (rest := []) (c_Mill_isRegister l _ x) kc_Mill_isRegister km_Mill_26 ki_Mill ks_Mill_isRegister kd_Mill_isRegister ⟨rfl, rfl⟩ ⟨Nat.le_of_ble_eq_true rfl, Nat.le_of_ble_eq_true rfl⟩ rfl hl.1 (Nat.le_of_ble_eq_true rfl) d_Mill_take_1 (fun r H locs hp hM => ?_)
  rcases hp with ⟨d, hd, rfl, rfl⟩ | ⟨hno, rfl⟩
  · refine nv_if_eq (tgt := 21) hC (by omega) d_Mill_take_4 (by decide) (fun hz => ?_) (fun hz => ?_)
    · exact absurd hz (by decide)
    · refine lv_iload_n hC.1 hC.2.1 d_Mill_take_7 rfl (lv_at hl 2 rfl) ?_
      refine wm_callPi hC hK hM (As := [.int (y)]) (rest := []) (c_Mill_isRegister l _ y) kc_Mill_isRegister km_Mill_26 ki_Mill ks_Mill_isRegister kd_Mill_isRegister ⟨rfl, rfl⟩ ⟨Nat.le_of_ble_eq_true rfl, Nat.le_of_ble_eq_true rfl⟩ rfl hl.1 (Nat.le_of_ble_eq_true rfl) d_Mill_take_8 (fun r H locs hp hM => ?_)
      rcases hp with ⟨a, ha, rfl, rfl⟩ | ⟨hno, rfl⟩
      · refine nv_if_eq (tgt := 21) hC (by omega) d_Mill_take_11 (by decide) (fun hz => ?_) (fun hz => ?_)
        · exact absurd hz (by decide)
        · refine lv_iload_n hC.1 hC.2.1 d_Mill_take_14 rfl (lv_at hl 3 rfl) ?_
          refine wm_callPi hC hK hM (As := [.int (z)]) (rest := []) (c_Mill_isRegister l _ z) kc_Mill_isRegister km_Mill_26 ki_Mill ks_Mill_isRegister kd_Mill_isRegister ⟨rfl, rfl⟩ ⟨Nat.le_of_ble_eq_true rfl, Nat.le_of_ble_eq_true rfl⟩ rfl hl.1 (Nat.le_of_ble_eq_true rfl) d_Mill_take_15 (fun r H locs hp hM => ?_)
          rcases hp with ⟨b, hb, rfl, rfl⟩ | ⟨hno, rfl⟩
          · refine nv_if_ne (tgt := 23) hC (by omega) d_Mill_take_18 (by decide) (fun hz => ?_) (fun hz => ?_)
            · have l1 := wm_len16 (hok a (by omega)) (by rw [he a ha]; exact hL a ha)
              have l2 := wm_len16 (hok b (by omega)) (by rw [he b hb]; exact hL b hb)
              refine lv_aload_n hC.1 hC.2.1 d_Mill_take_23 rfl (lv_at hl 0 rfl) ?_
              refine wm_regs hC hK hM kf_Mill_11 d_Mill_take_24 ?_
              refine lv_iload_n hC.1 hC.2.1 d_Mill_take_27 rfl (lv_at hl 2 rfl) ?_
              refine wm_reg hC hK hM (i := a) (by omega) d_Mill_take_28 ?_
              refine lv_aload_n hC.1 hC.2.1 d_Mill_take_29 rfl (lv_at hl 0 rfl) ?_
              refine wm_regs hC hK hM kf_Mill_11 d_Mill_take_30 ?_
              refine lv_iload_n hC.1 hC.2.1 d_Mill_take_33 rfl (lv_at hl 3 rfl) ?_
              refine wm_reg hC hK hM (i := b) (by omega) d_Mill_take_34 ?_
              refine wm_callVi hC hK hM (As := [.ref (ad b)]) (rest := []) (wm_at_o (by omega)) rfl (c_Whole_order l D ad cA cR _ ln wd a b (Mx a) (Mx b) (by omega) (by omega) (hok a (by omega)) (hok b (by omega))) kc_Whole_order km_Mill_58 ki_Whole kn_Whole_order ke_Whole_order kd_Whole_order ⟨rfl, rfl⟩ ⟨Nat.le_of_ble_eq_true rfl, Nat.le_of_ble_eq_true rfl⟩ rfl hl.1 (Nat.le_of_ble_eq_true rfl) d_Mill_take_35 (fun r u H locs hp hM => ?_)
              obtain ⟨hr0, rfl⟩ := hp
              have hM : wm_M D ad cA cR s (ln) (wd) H locs := by
                exact hM
              refine lv_if_ge (tgt := 43) hC.1 hC.2.1 d_Mill_take_38 (by decide) (fun hs => ?_) (fun hs => ?_)
              · have hle : Mx b ≤ Mx a := by
                  rcases Nat.lt_or_ge (Mx a) (Mx b) with z | z
                  · rw [hr0, wm_ord_lt z] at hs; exact absurd hs (by decide)
                  · exact z
                refine lv_aload_n hC.1 hC.2.1 d_Mill_take_43 rfl (lv_at hl 0 rfl) ?_
                refine wm_res hC hK hM kf_Mill_16 d_Mill_take_44 ?_
                refine lv_aload_n hC.1 hC.2.1 d_Mill_take_47 rfl (lv_at hl 0 rfl) ?_
                refine wm_regs hC hK hM kf_Mill_11 d_Mill_take_48 ?_
                refine lv_iload_n hC.1 hC.2.1 d_Mill_take_51 rfl (lv_at hl 2 rfl) ?_
                refine wm_reg hC hK hM (i := a) (by omega) d_Mill_take_52 ?_
                refine lv_aload_n hC.1 hC.2.1 d_Mill_take_53 rfl (lv_at hl 0 rfl) ?_
                refine wm_regs hC hK hM kf_Mill_11 d_Mill_take_54 ?_
                refine lv_iload_n hC.1 hC.2.1 d_Mill_take_57 rfl (lv_at hl 3 rfl) ?_
                refine wm_reg hC hK hM (i := b) (by omega) d_Mill_take_58 ?_
                refine wm_callVv hC hK hM (As := [.ref (ad a), .ref (ad b)]) (rest := []) (wm_at_o (by decide)) rfl (c_Whole_becomeDifference l D ad cA cR _ ln wd 16 a b (Mx a) (Mx b) (by decide) (by omega) (by omega) (by omega) (by omega) (wm_rep_ze (hok 16 (by decide))) (hok a (by omega)) (hok b (by omega)) (by omega) hle) kc_Whole_becomeDifference km_Mill_62 ki_Whole kn_Whole_becomeDifference ke_Whole_becomeDifference kd_Whole_becomeDifference ⟨rfl, rfl⟩ ⟨Nat.le_of_ble_eq_true rfl, Nat.le_of_ble_eq_true rfl⟩ rfl hl.1 (Nat.le_of_ble_eq_true rfl) d_Mill_take_59 (fun u1 H locs hp1 hM => ?_)
                have ok1 := wm_ok_up hok hp1
                refine lv_aload_n hC.1 hC.2.1 d_Mill_take_62 rfl (lv_at hl 0 rfl) ?_
                refine lv_iload_n hC.1 hC.2.1 d_Mill_take_63 rfl (lv_at hl 1 rfl) ?_
                refine wm_callVi hC hK hM (As := [.int (nI (d))]) (rest := []) wm_at_m rfl (c_Mill_keepResult l D ad cA cR _ (u1.1) (u1.2) _ d hd ok1) kc_Mill_keepResult km_Mill_43 ki_Mill kn_Mill_keepResult ke_Mill_keepResult kd_Mill_keepResult ⟨rfl, rfl⟩ ⟨Nat.le_of_ble_eq_true rfl, Nat.le_of_ble_eq_true rfl⟩ rfl hl.1 (Nat.le_of_ble_eq_true rfl) d_Mill_take_64 (fun r uk H locs hpk hM => ?_)
                have hfin := wm_fin1 (N := N) hpk ok1 (fun j hj => by rw [va_up_ne _ _ (by omega)]; exact he j hj) hL (X := N a - N b) (by rw [va_up_self, he a ha, he b hb]) (Nat.lt_of_le_of_lt (Nat.sub_le _ _) (hL a ha))
                rw [he a ha, he b hb] at hle
                exact wm_zret hC hK hM hr hlk (wm_kept_n hpk) (by simp only [sp_take, sp_3, sp_ix_ok hd, sp_ix_ok ha, sp_ix_ok hb]; rw [if_neg (Nat.not_lt.mpr hle)]; exact hfin) d_Mill_take_67
              · have hlt : N a < N b := by
                  rw [← he a ha, ← he b hb]
                  rcases Nat.lt_trichotomy (Mx a) (Mx b) with z | z | z
                  · exact z
                  · rw [hr0, wm_ord_eq z] at hs; exact absurd (show (0 : Int32) ≤ 0 by decide) hs
                  · rw [hr0, wm_ord_gt z] at hs; exact absurd (show (0 : Int32) ≤ 1 by decide) hs
                refine lv_iconst (v := nI 0) hC.1 hC.2.1 d_Mill_take_41 (by decide) ?_
                exact wm_zret hC hK hM hr hlk rfl ⟨by simp only [sp_take, sp_3, sp_ix_ok hd, sp_ix_ok ha, sp_ix_ok hb]; rw [if_pos hlt]; rfl, by simp only [sp_take, sp_3, sp_ix_ok hd, sp_ix_ok ha, sp_ix_ok hb]; rw [if_pos hlt]; exact hR⟩ d_Mill_take_42
            · exact absurd hz (by decide)
          · refine nv_if_ne (tgt := 23) hC (by omega) d_Mill_take_18 (by decide) (fun hz => ?_) (fun hz => ?_)
            · exact absurd rfl hz
            · refine lv_iconst (v := nI 0) hC.1 hC.2.1 d_Mill_take_21 (by decide) ?_
              exact wm_zret hC hK hM hr hlk rfl (⟨by simp only [sp_take, sp_3, sp_no, sp_ix_ok hd, sp_ix_ok ha, sp_ix_no hno], by simp only [sp_take, sp_3, sp_no, sp_ix_ok hd, sp_ix_ok ha, sp_ix_no hno]; exact hR⟩) d_Mill_take_22
      · refine nv_if_eq (tgt := 21) hC (by omega) d_Mill_take_11 (by decide) (fun hz => ?_) (fun hz => ?_)
        · refine lv_iconst (v := nI 0) hC.1 hC.2.1 d_Mill_take_21 (by decide) ?_
          exact wm_zret hC hK hM hr hlk rfl (⟨by simp only [sp_take, sp_3, sp_no, sp_ix_ok hd, sp_ix_no hno], by simp only [sp_take, sp_3, sp_no, sp_ix_ok hd, sp_ix_no hno]; exact hR⟩) d_Mill_take_22
        · exact absurd rfl hz
  · refine nv_if_eq (tgt := 21) hC (by omega) d_Mill_take_4 (by decide) (fun hz => ?_) (fun hz => ?_)
    · refine lv_iconst (v := nI 0) hC.1 hC.2.1 d_Mill_take_21 (by decide) ?_
      exact wm_zret hC hK hM hr hlk rfl (⟨by simp only [sp_take, sp_3, sp_no, sp_ix_no hno], by simp only [sp_take, sp_3, sp_no, sp_ix_no hno]; exact hR⟩) d_Mill_take_22
    · exact absurd rfl hz
end
section
set_option maxHeartbeats 4000000 in
set_option maxRecDepth 100000 in
theorem c_Mill_times (l : Launch) (D : va_G) (ad : Nat → Nat) (cA cR : ClassId) (sz : Nat) (ln : Nat → Nat) (wd : Nat → Nat → Int32) (N : Nat → Nat) (hR : wm_R N ln wd) (x y z : Int32) : Met l y_Mill_times (Cond.code y_Mill_times b_Mill_times 4 (some .boolean) :: lw_T) ({ frames := 3, cells := 0, slots := 0, locals := 68 }) (va_Pc [.ref (ad 38), .int (x), .int (y), .int (z)] (wm_B D ad cA cR sz ln wd)) (va_Qi (fun (r : Int32) (u : wm_St) => r = (sp_times N x y z).1 ∧ wm_R (sp_times N x y z).2 u.1 u.2) (wm_E D ad cA cR sz) (wm_A ad sz)) 0 0 (wm_A ad sz) := by
  refine wm_met l (by decide) (Nat.le_of_ble_eq_true rfl) ?_
  intro p e s m below meth c ls hsz hC hK hr hlk hM hl
  subst hsz
  have hC : CallFix p m c b_Mill_times 4 s _ lw_T R_Mill := hC
  have hl : lv_has ls 4 [(0, .ref (ad 38)), (1, .int (x)), (2, .int (y)), (3, .int (z))] := hl
  obtain ⟨⟨Mx, hok, he⟩, hL⟩ := id hR
  refine lv_iload_n hC.1 hC.2.1 d_Mill_times_0 rfl (lv_at hl 1 rfl) ?_
  refine wm_callPi hC hK hM (As := [.int (x)]) (rest := []) (c_Mill_isRegister l _ x) kc_Mill_isRegister km_Mill_26 ki_Mill ks_Mill_isRegister kd_Mill_isRegister ⟨rfl, rfl⟩ ⟨Nat.le_of_ble_eq_true rfl, Nat.le_of_ble_eq_true rfl⟩ rfl hl.1 (Nat.le_of_ble_eq_true rfl) d_Mill_times_1 (fun r H locs hp hM => ?_)
  rcases hp with ⟨d, hd, rfl, rfl⟩ | ⟨hno, rfl⟩
  · refine nv_if_eq (tgt := 21) hC (by omega) d_Mill_times_4 (by decide) (fun hz => ?_) (fun hz => ?_)
    · exact absurd hz (by decide)
    · refine lv_iload_n hC.1 hC.2.1 d_Mill_times_7 rfl (lv_at hl 2 rfl) ?_
      refine wm_callPi hC hK hM (As := [.int (y)]) (rest := []) (c_Mill_isRegister l _ y) kc_Mill_isRegister km_Mill_26 ki_Mill ks_Mill_isRegister kd_Mill_isRegister ⟨rfl, rfl⟩ ⟨Nat.le_of_ble_eq_true rfl, Nat.le_of_ble_eq_true rfl⟩ rfl hl.1 (Nat.le_of_ble_eq_true rfl) d_Mill_times_8 (fun r H locs hp hM => ?_)
      rcases hp with ⟨a, ha, rfl, rfl⟩ | ⟨hno, rfl⟩
      · refine nv_if_eq (tgt := 21) hC (by omega) d_Mill_times_11 (by decide) (fun hz => ?_) (fun hz => ?_)
        · exact absurd hz (by decide)
        · refine lv_iload_n hC.1 hC.2.1 d_Mill_times_14 rfl (lv_at hl 3 rfl) ?_
          refine wm_callPi hC hK hM (As := [.int (z)]) (rest := []) (c_Mill_isRegister l _ z) kc_Mill_isRegister km_Mill_26 ki_Mill ks_Mill_isRegister kd_Mill_isRegister ⟨rfl, rfl⟩ ⟨Nat.le_of_ble_eq_true rfl, Nat.le_of_ble_eq_true rfl⟩ rfl hl.1 (Nat.le_of_ble_eq_true rfl) d_Mill_times_15 (fun r H locs hp hM => ?_)
          rcases hp with ⟨b, hb, rfl, rfl⟩ | ⟨hno, rfl⟩
          · refine nv_if_ne (tgt := 23) hC (by omega) d_Mill_times_18 (by decide) (fun hz => ?_) (fun hz => ?_)
            · have l1 := wm_len16 (hok a (by omega)) (by rw [he a ha]; exact hL a ha)
              have l2 := wm_len16 (hok b (by omega)) (by rw [he b hb]; exact hL b hb)
              have b1 : wm_bl (Mx a) ≤ 65536 := sp_bl.mpr (by rw [he a ha]; exact hL a ha)
              have b2 : wm_bl (Mx b) ≤ 65536 := sp_bl.mpr (by rw [he b hb]; exact hL b hb)
              refine lv_aload_n hC.1 hC.2.1 d_Mill_times_23 rfl (lv_at hl 0 rfl) ?_
              refine wm_regs hC hK hM kf_Mill_11 d_Mill_times_24 ?_
              refine lv_iload_n hC.1 hC.2.1 d_Mill_times_27 rfl (lv_at hl 2 rfl) ?_
              refine wm_reg hC hK hM (i := a) (by omega) d_Mill_times_28 ?_
              refine wm_callVi hC hK hM (As := []) (rest := []) (wm_at_o (by omega)) rfl (c_Whole_size l D ad cA cR _ ln wd a (Mx a) (by omega) (hok a (by omega))) kc_Whole_size km_Mill_30 ki_Whole kn_Whole_size ke_Whole_size kd_Whole_size ⟨rfl, rfl⟩ ⟨Nat.le_of_ble_eq_true rfl, Nat.le_of_ble_eq_true rfl⟩ rfl hl.1 (Nat.le_of_ble_eq_true rfl) d_Mill_times_29 (fun r u H locs hp hM => ?_)
              obtain ⟨rfl, rfl⟩ := hp
              have hM : wm_M D ad cA cR s (ln) (wd) H locs := by
                exact hM
              refine lv_aload_n hC.1 hC.2.1 d_Mill_times_32 rfl (lv_at hl 0 rfl) ?_
              refine wm_regs hC hK hM kf_Mill_11 d_Mill_times_33 ?_
              refine lv_iload_n hC.1 hC.2.1 d_Mill_times_36 rfl (lv_at hl 3 rfl) ?_
              refine wm_reg hC hK hM (i := b) (by omega) d_Mill_times_37 ?_
              refine wm_callVi hC hK hM (As := []) (rest := [.int (nI (wm_bl (Mx a)))]) (wm_at_o (by omega)) rfl (c_Whole_size l D ad cA cR _ ln wd b (Mx b) (by omega) (hok b (by omega))) kc_Whole_size km_Mill_30 ki_Whole kn_Whole_size ke_Whole_size kd_Whole_size ⟨rfl, rfl⟩ ⟨Nat.le_of_ble_eq_true rfl, Nat.le_of_ble_eq_true rfl⟩ rfl hl.1 (Nat.le_of_ble_eq_true rfl) d_Mill_times_38 (fun r u H locs hp hM => ?_)
              obtain ⟨rfl, rfl⟩ := hp
              have hM : wm_M D ad cA cR s (ln) (wd) H locs := by
                exact hM
              refine nv_iadd hC d_Mill_times_41 ?_
              refine lv_ldc (v := nI 65537) hC.1 hC.2.1 hC.2.2.2.1 (hC.2.2.2.2 _ kk_Mill_65) d_Mill_times_42 ?_
              refine nv_icmp_le (tgt := 49) hC (by omega) (by omega) d_Mill_times_44 (by decide) (fun hc => ?_) (fun hc => ?_)
              · have hfit := wm_prod_fit (hok a (by omega)) (hok b (by omega)) hc l1 l2
                refine lv_aload_n hC.1 hC.2.1 d_Mill_times_49 rfl (lv_at hl 0 rfl) ?_
                refine wm_res hC hK hM kf_Mill_16 d_Mill_times_50 ?_
                refine lv_aload_n hC.1 hC.2.1 d_Mill_times_53 rfl (lv_at hl 0 rfl) ?_
                refine wm_regs hC hK hM kf_Mill_11 d_Mill_times_54 ?_
                refine lv_iload_n hC.1 hC.2.1 d_Mill_times_57 rfl (lv_at hl 2 rfl) ?_
                refine wm_reg hC hK hM (i := a) (by omega) d_Mill_times_58 ?_
                refine lv_aload_n hC.1 hC.2.1 d_Mill_times_59 rfl (lv_at hl 0 rfl) ?_
                refine wm_regs hC hK hM kf_Mill_11 d_Mill_times_60 ?_
                refine lv_iload_n hC.1 hC.2.1 d_Mill_times_63 rfl (lv_at hl 3 rfl) ?_
                refine wm_reg hC hK hM (i := b) (by omega) d_Mill_times_64 ?_
                refine wm_callVv hC hK hM (As := [.ref (ad a), .ref (ad b)]) (rest := []) (wm_at_o (by decide)) rfl (c_Whole_becomeProduct l D ad cA cR _ ln wd 16 a b (Mx a) (Mx b) (by decide) (by omega) (by omega) (by omega) (by omega) (wm_rep_ze (hok 16 (by decide))) (hok a (by omega)) (hok b (by omega)) hfit) kc_Whole_becomeProduct km_Mill_66 ki_Whole kn_Whole_becomeProduct ke_Whole_becomeProduct kd_Whole_becomeProduct ⟨rfl, rfl⟩ ⟨Nat.le_of_ble_eq_true rfl, Nat.le_of_ble_eq_true rfl⟩ rfl hl.1 (Nat.le_of_ble_eq_true rfl) d_Mill_times_65 (fun u1 H locs hp1 hM => ?_)
                have ok1 := wm_ok_up hok hp1
                refine lv_aload_n hC.1 hC.2.1 d_Mill_times_68 rfl (lv_at hl 0 rfl) ?_
                refine lv_iload_n hC.1 hC.2.1 d_Mill_times_69 rfl (lv_at hl 1 rfl) ?_
                refine wm_callVi hC hK hM (As := [.int (nI (d))]) (rest := []) wm_at_m rfl (c_Mill_keepResult l D ad cA cR _ (u1.1) (u1.2) _ d hd ok1) kc_Mill_keepResult km_Mill_43 ki_Mill kn_Mill_keepResult ke_Mill_keepResult kd_Mill_keepResult ⟨rfl, rfl⟩ ⟨Nat.le_of_ble_eq_true rfl, Nat.le_of_ble_eq_true rfl⟩ rfl hl.1 (Nat.le_of_ble_eq_true rfl) d_Mill_times_70 (fun r uk H locs hpk hM => ?_)
                have hfin := wm_fin (N := N) hpk ok1 (fun j hj => by rw [va_up_ne _ _ (by omega)]; exact he j hj) hL (X := N a * N b) (by rw [va_up_self, he a ha, he b hb])
                exact wm_zret hC hK hM hr hlk (wm_kept_n hpk) (by simp only [sp_times, sp_3, sp_ix_ok hd, sp_ix_ok ha, sp_ix_ok hb]; exact hfin) d_Mill_times_73
              · have hbig : ¬ N a * N b < sp_L := by rw [← he a ha, ← he b hb]; exact Nat.not_lt.mpr (wm_prod_big b1 b2 hc)
                refine lv_iconst (v := nI 0) hC.1 hC.2.1 d_Mill_times_47 (by decide) ?_
                exact wm_zret hC hK hM hr hlk rfl ⟨by simp only [sp_times, sp_3, sp_ix_ok hd, sp_ix_ok ha, sp_ix_ok hb, sp_putv]; rw [if_neg hbig], by simp only [sp_times, sp_3, sp_ix_ok hd, sp_ix_ok ha, sp_ix_ok hb, sp_putv]; rw [if_neg hbig]; exact hR⟩ d_Mill_times_48
            · exact absurd hz (by decide)
          · refine nv_if_ne (tgt := 23) hC (by omega) d_Mill_times_18 (by decide) (fun hz => ?_) (fun hz => ?_)
            · exact absurd rfl hz
            · refine lv_iconst (v := nI 0) hC.1 hC.2.1 d_Mill_times_21 (by decide) ?_
              exact wm_zret hC hK hM hr hlk rfl (⟨by simp only [sp_times, sp_3, sp_no, sp_ix_ok hd, sp_ix_ok ha, sp_ix_no hno], by simp only [sp_times, sp_3, sp_no, sp_ix_ok hd, sp_ix_ok ha, sp_ix_no hno]; exact hR⟩) d_Mill_times_22
      · refine nv_if_eq (tgt := 21) hC (by omega) d_Mill_times_11 (by decide) (fun hz => ?_) (fun hz => ?_)
        · refine lv_iconst (v := nI 0) hC.1 hC.2.1 d_Mill_times_21 (by decide) ?_
          exact wm_zret hC hK hM hr hlk rfl (⟨by simp only [sp_times, sp_3, sp_no, sp_ix_ok hd, sp_ix_no hno], by simp only [sp_times, sp_3, sp_no, sp_ix_ok hd, sp_ix_no hno]; exact hR⟩) d_Mill_times_22
        · exact absurd rfl hz
  · refine nv_if_eq (tgt := 21) hC (by omega) d_Mill_times_4 (by decide) (fun hz => ?_) (fun hz => ?_)
    · refine lv_iconst (v := nI 0) hC.1 hC.2.1 d_Mill_times_21 (by decide) ?_
      exact wm_zret hC hK hM hr hlk rfl (⟨by simp only [sp_times, sp_3, sp_no, sp_ix_no hno], by simp only [sp_times, sp_3, sp_no, sp_ix_no hno]; exact hR⟩) d_Mill_times_22
    · exact absurd rfl hz
set_option maxHeartbeats 4000000 in
set_option maxRecDepth 100000 in
theorem c_Mill_divide (l : Launch) (D : va_G) (ad : Nat → Nat) (cA cR : ClassId) (sz : Nat) (ln : Nat → Nat) (wd : Nat → Nat → Int32) (N : Nat → Nat) (hR : wm_R N ln wd) (x y z w : Int32) : Met l y_Mill_divide (Cond.code y_Mill_divide b_Mill_divide 5 (some .boolean) :: lw_T) ({ frames := 4, cells := 0, slots := 0, locals := 114 }) (va_Pc [.ref (ad 38), .int (x), .int (y), .int (z), .int (w)] (wm_B D ad cA cR sz ln wd)) (va_Qi (fun (r : Int32) (u : wm_St) => r = (sp_divide N x y z w).1 ∧ wm_R (sp_divide N x y z w).2 u.1 u.2) (wm_E D ad cA cR sz) (wm_A ad sz)) 0 0 (wm_A ad sz) := by
  refine wm_met l (by decide) (Nat.le_of_ble_eq_true rfl) ?_
  intro p e s m below meth c ls hsz hC hK hr hlk hM hl
  subst hsz
  have hC : CallFix p m c b_Mill_divide 5 s _ lw_T R_Mill := hC
  have hl : lv_has ls 5 [(0, .ref (ad 38)), (1, .int (x)), (2, .int (y)), (3, .int (z)), (4, .int (w))] := hl
  obtain ⟨⟨Mx, hok, he⟩, hL⟩ := id hR
  refine lv_iload_n hC.1 hC.2.1 d_Mill_divide_0 rfl (lv_at hl 1 rfl) ?_
  refine wm_callPi hC hK hM (As := [.int (x)]) (rest := []) (c_Mill_isRegister l _ x) kc_Mill_isRegister km_Mill_26 ki_Mill ks_Mill_isRegister kd_Mill_isRegister ⟨rfl, rfl⟩ ⟨Nat.le_of_ble_eq_true rfl, Nat.le_of_ble_eq_true rfl⟩ rfl hl.1 (Nat.le_of_ble_eq_true rfl) d_Mill_divide_1 (fun r H locs hp hM => ?_)
  rcases hp with ⟨q, hq, rfl, rfl⟩ | ⟨hno, rfl⟩
  · refine nv_if_eq (tgt := 29) hC (by omega) d_Mill_divide_4 (by decide) (fun hz => ?_) (fun hz => ?_)
    · exact absurd hz (by decide)
    · refine lv_iload_n hC.1 hC.2.1 d_Mill_divide_7 rfl (lv_at hl 2 rfl) ?_
      refine wm_callPi hC hK hM (As := [.int (y)]) (rest := []) (c_Mill_isRegister l _ y) kc_Mill_isRegister km_Mill_26 ki_Mill ks_Mill_isRegister kd_Mill_isRegister ⟨rfl, rfl⟩ ⟨Nat.le_of_ble_eq_true rfl, Nat.le_of_ble_eq_true rfl⟩ rfl hl.1 (Nat.le_of_ble_eq_true rfl) d_Mill_divide_8 (fun r H locs hp hM => ?_)
      rcases hp with ⟨r0, hr0, rfl, rfl⟩ | ⟨hno, rfl⟩
      · refine nv_if_eq (tgt := 29) hC (by omega) d_Mill_divide_11 (by decide) (fun hz => ?_) (fun hz => ?_)
        · exact absurd hz (by decide)
        · refine lv_iload_n hC.1 hC.2.1 d_Mill_divide_14 rfl (lv_at hl 3 rfl) ?_
          refine wm_callPi hC hK hM (As := [.int (z)]) (rest := []) (c_Mill_isRegister l _ z) kc_Mill_isRegister km_Mill_26 ki_Mill ks_Mill_isRegister kd_Mill_isRegister ⟨rfl, rfl⟩ ⟨Nat.le_of_ble_eq_true rfl, Nat.le_of_ble_eq_true rfl⟩ rfl hl.1 (Nat.le_of_ble_eq_true rfl) d_Mill_divide_15 (fun r H locs hp hM => ?_)
          rcases hp with ⟨a, ha, rfl, rfl⟩ | ⟨hno, rfl⟩
          · refine nv_if_eq (tgt := 29) hC (by omega) d_Mill_divide_18 (by decide) (fun hz => ?_) (fun hz => ?_)
            · exact absurd hz (by decide)
            · refine lv_iload hC.1 hC.2.1 d_Mill_divide_21 (lv_at hl 4 rfl) ?_
              refine wm_callPi hC hK hM (As := [.int (w)]) (rest := []) (c_Mill_isRegister l _ w) kc_Mill_isRegister km_Mill_26 ki_Mill ks_Mill_isRegister kd_Mill_isRegister ⟨rfl, rfl⟩ ⟨Nat.le_of_ble_eq_true rfl, Nat.le_of_ble_eq_true rfl⟩ rfl hl.1 (Nat.le_of_ble_eq_true rfl) d_Mill_divide_23 (fun r H locs hp hM => ?_)
              rcases hp with ⟨b, hb, rfl, rfl⟩ | ⟨hno, rfl⟩
              · refine nv_if_ne (tgt := 31) hC (by omega) d_Mill_divide_26 (by decide) (fun hz => ?_) (fun hz => ?_)
                · have l1 := wm_len16 (hok a (by omega)) (by rw [he a ha]; exact hL a ha)
                  have l2 := wm_len16 (hok b (by omega)) (by rw [he b hb]; exact hL b hb)
                  refine lv_iload_n hC.1 hC.2.1 d_Mill_divide_31 rfl (lv_at hl 1 rfl) ?_
                  refine lv_iload_n hC.1 hC.2.1 d_Mill_divide_32 rfl (lv_at hl 2 rfl) ?_
                  refine nv_icmp_eq (tgt := 49) hC (by omega) (by omega) d_Mill_divide_33 (by decide) (fun hqr => ?_) (fun hqr => ?_)
                  · refine lv_iconst (v := nI 0) hC.1 hC.2.1 d_Mill_divide_49 (by decide) ?_
                    have hcd : q = r0 ∨ N b = 0 := Or.inl hqr
                    exact wm_zret hC hK hM hr hlk rfl ⟨by simp only [sp_divide, sp_3, sp_ix_ok hq, sp_ix_ok hr0, sp_ix_ok ha, sp_ix_ok hb]; rw [if_pos hcd]; rfl, by simp only [sp_divide, sp_3, sp_ix_ok hq, sp_ix_ok hr0, sp_ix_ok ha, sp_ix_ok hb]; rw [if_pos hcd]; exact hR⟩ d_Mill_divide_50
                  · refine lv_aload_n hC.1 hC.2.1 d_Mill_divide_36 rfl (lv_at hl 0 rfl) ?_
                    refine wm_regs hC hK hM kf_Mill_11 d_Mill_divide_37 ?_
                    refine lv_iload hC.1 hC.2.1 d_Mill_divide_40 (lv_at hl 4 rfl) ?_
                    refine wm_reg hC hK hM (i := b) (by omega) d_Mill_divide_42 ?_
                    refine wm_len hC hK hM (j := b) (by omega) kf_Mill_69 d_Mill_divide_43 ?_
                    refine nv_if_ne (tgt := 51) hC (by omega) d_Mill_divide_46 (by decide) (fun hlb => ?_) (fun hlb => ?_)
                    · have hb0 : Mx b ≠ 0 := fun z => hlb ((wm_rep_0 (hok b (by omega))).mpr z)
                      refine lv_aload_n hC.1 hC.2.1 d_Mill_divide_51 rfl (lv_at hl 0 rfl) ?_
                      refine wm_regs hC hK hM kf_Mill_11 d_Mill_divide_52 ?_
                      refine lv_iload_n hC.1 hC.2.1 d_Mill_divide_55 rfl (lv_at hl 3 rfl) ?_
                      refine wm_reg hC hK hM (i := a) (by omega) d_Mill_divide_56 ?_
                      refine lv_aload_n hC.1 hC.2.1 d_Mill_divide_57 rfl (lv_at hl 0 rfl) ?_
                      refine wm_regs hC hK hM kf_Mill_11 d_Mill_divide_58 ?_
                      refine lv_iload hC.1 hC.2.1 d_Mill_divide_61 (lv_at hl 4 rfl) ?_
                      refine wm_reg hC hK hM (i := b) (by omega) d_Mill_divide_63 ?_
                      refine lv_aload_n hC.1 hC.2.1 d_Mill_divide_64 rfl (lv_at hl 0 rfl) ?_
                      refine wm_res hC hK hM kf_Mill_16 d_Mill_divide_65 ?_
                      refine lv_aload_n hC.1 hC.2.1 d_Mill_divide_68 rfl (lv_at hl 0 rfl) ?_
                      refine wm_lef hC hK hM kf_Mill_20 d_Mill_divide_69 ?_
                      refine lv_aload_n hC.1 hC.2.1 d_Mill_divide_72 rfl (lv_at hl 0 rfl) ?_
                      refine wm_hel hC hK hM kf_Mill_23 d_Mill_divide_73 ?_
                      refine wm_callSv hC hK hM (As := [.ref (ad a), .ref (ad b), .ref (ad 16), .ref (ad 17), .ref (ad 18)]) (rest := []) (c_Div_find l D ad cA cR _ ln wd Mx a b ha hb hok l1 l2 hb0) kc_Div_find km_Mill_73 ki_Div ks_Div_find kd_Div_find ⟨rfl, rfl⟩ ⟨Nat.le_of_ble_eq_true rfl, Nat.le_of_ble_eq_true rfl⟩ rfl hl.1 (Nat.le_of_ble_eq_true rfl) d_Mill_divide_76 (fun u1 H locs hp1 hM => ?_)
                      obtain ⟨h9, ok1⟩ := hp1
                      refine lv_aload_n hC.1 hC.2.1 d_Mill_divide_79 rfl (lv_at hl 0 rfl) ?_
                      refine wm_regs hC hK hM kf_Mill_11 d_Mill_divide_80 ?_
                      refine lv_iload_n hC.1 hC.2.1 d_Mill_divide_83 rfl (lv_at hl 1 rfl) ?_
                      refine wm_reg hC hK hM (i := q) (by omega) d_Mill_divide_84 ?_
                      refine lv_aload_n hC.1 hC.2.1 d_Mill_divide_85 rfl (lv_at hl 0 rfl) ?_
                      refine wm_res hC hK hM kf_Mill_16 d_Mill_divide_86 ?_
                      refine wm_callVv hC hK hM (As := [.ref (ad 16)]) (rest := []) (wm_at_o (by omega)) rfl (c_Whole_become l D ad cA cR _ (u1.1) (u1.2) q 16 _ (by omega) (by decide) (wm_rep_ze (ok1 q (by omega))) (ok1 16 (by decide))) kc_Whole_become km_Mill_50 ki_Whole kn_Whole_become ke_Whole_become kd_Whole_become ⟨rfl, rfl⟩ ⟨Nat.le_of_ble_eq_true rfl, Nat.le_of_ble_eq_true rfl⟩ rfl hl.1 (Nat.le_of_ble_eq_true rfl) d_Mill_divide_89 (fun u2 H locs hp2 hM => ?_)
                      have ok2 := wm_ok_up ok1 hp2
                      refine lv_aload_n hC.1 hC.2.1 d_Mill_divide_92 rfl (lv_at hl 0 rfl) ?_
                      refine wm_regs hC hK hM kf_Mill_11 d_Mill_divide_93 ?_
                      refine lv_iload_n hC.1 hC.2.1 d_Mill_divide_96 rfl (lv_at hl 2 rfl) ?_
                      refine wm_reg hC hK hM (i := r0) (by omega) d_Mill_divide_97 ?_
                      refine lv_aload_n hC.1 hC.2.1 d_Mill_divide_98 rfl (lv_at hl 0 rfl) ?_
                      refine wm_lef hC hK hM kf_Mill_20 d_Mill_divide_99 ?_
                      refine wm_callVv hC hK hM (As := [.ref (ad 17)]) (rest := []) (wm_at_o (by omega)) rfl (c_Whole_become l D ad cA cR _ (u2.1) (u2.2) r0 17 _ (by omega) (by decide) (wm_rep_ze (ok2 r0 (by omega))) (ok2 17 (by decide))) kc_Whole_become km_Mill_50 ki_Whole kn_Whole_become ke_Whole_become kd_Whole_become ⟨rfl, rfl⟩ ⟨Nat.le_of_ble_eq_true rfl, Nat.le_of_ble_eq_true rfl⟩ rfl hl.1 (Nat.le_of_ble_eq_true rfl) d_Mill_divide_102 (fun u3 H locs hp3 hM => ?_)
                      have ok3 := wm_ok_up ok2 hp3
                      rw [va_up_ne _ _ (show 16 ≠ 17 by decide), va_up_self, va_up_ne _ _ (show 17 ≠ q by omega), va_up_self] at ok3
                      rw [he a ha, he b hb] at ok3
                      have hcd : ¬ (q = r0 ∨ N b = 0) := fun z => by
                        rcases z with z | z
                        · exact hqr z
                        · rw [he b hb] at hb0; exact hb0 z
                      have hfin : wm_R (va_up (va_up N q (N a / N b)) r0 (N a % N b)) u3.1 u3.2 := wm_R_up2 ok3 (fun j hj => by rw [va_up_ne _ _ (by omega), va_up_ne _ _ (by omega), va_up_ne _ _ (by omega)]; exact he j hj) hL (Nat.lt_of_le_of_lt (Nat.div_le_self _ _) (hL a ha)) (Nat.lt_of_le_of_lt (Nat.mod_le _ _) (hL a ha))
                      refine lv_iconst (v := nI 1) hC.1 hC.2.1 d_Mill_divide_105 (by decide) ?_
                      exact wm_zret hC hK hM hr hlk rfl ⟨by simp only [sp_divide, sp_3, sp_ix_ok hq, sp_ix_ok hr0, sp_ix_ok ha, sp_ix_ok hb]; rw [if_neg hcd], by simp only [sp_divide, sp_3, sp_ix_ok hq, sp_ix_ok hr0, sp_ix_ok ha, sp_ix_ok hb]; rw [if_neg hcd]; exact hfin⟩ d_Mill_divide_106
                    · refine lv_iconst (v := nI 0) hC.1 hC.2.1 d_Mill_divide_49 (by decide) ?_
                      have hcd : q = r0 ∨ N b = 0 := Or.inr (by rw [← he b hb]; exact (wm_rep_0 (hok b (by omega))).mp hlb)
                      exact wm_zret hC hK hM hr hlk rfl ⟨by simp only [sp_divide, sp_3, sp_ix_ok hq, sp_ix_ok hr0, sp_ix_ok ha, sp_ix_ok hb]; rw [if_pos hcd]; rfl, by simp only [sp_divide, sp_3, sp_ix_ok hq, sp_ix_ok hr0, sp_ix_ok ha, sp_ix_ok hb]; rw [if_pos hcd]; exact hR⟩ d_Mill_divide_50
                · exact absurd hz (by decide)
              · refine nv_if_ne (tgt := 31) hC (by omega) d_Mill_divide_26 (by decide) (fun hz => ?_) (fun hz => ?_)
                · exact absurd rfl hz
                · refine lv_iconst (v := nI 0) hC.1 hC.2.1 d_Mill_divide_29 (by decide) ?_
                  exact wm_zret hC hK hM hr hlk rfl (⟨by simp only [sp_divide, sp_3, sp_no, sp_ix_ok hq, sp_ix_ok hr0, sp_ix_ok ha, sp_ix_no hno], by simp only [sp_divide, sp_3, sp_no, sp_ix_ok hq, sp_ix_ok hr0, sp_ix_ok ha, sp_ix_no hno]; exact hR⟩) d_Mill_divide_30
          · refine nv_if_eq (tgt := 29) hC (by omega) d_Mill_divide_18 (by decide) (fun hz => ?_) (fun hz => ?_)
            · refine lv_iconst (v := nI 0) hC.1 hC.2.1 d_Mill_divide_29 (by decide) ?_
              exact wm_zret hC hK hM hr hlk rfl (⟨by simp only [sp_divide, sp_3, sp_no, sp_ix_ok hq, sp_ix_ok hr0, sp_ix_no hno], by simp only [sp_divide, sp_3, sp_no, sp_ix_ok hq, sp_ix_ok hr0, sp_ix_no hno]; exact hR⟩) d_Mill_divide_30
            · exact absurd rfl hz
      · refine nv_if_eq (tgt := 29) hC (by omega) d_Mill_divide_11 (by decide) (fun hz => ?_) (fun hz => ?_)
        · refine lv_iconst (v := nI 0) hC.1 hC.2.1 d_Mill_divide_29 (by decide) ?_
          exact wm_zret hC hK hM hr hlk rfl (⟨by simp only [sp_divide, sp_3, sp_no, sp_ix_ok hq, sp_ix_no hno], by simp only [sp_divide, sp_3, sp_no, sp_ix_ok hq, sp_ix_no hno]; exact hR⟩) d_Mill_divide_30
        · exact absurd rfl hz
  · refine nv_if_eq (tgt := 29) hC (by omega) d_Mill_divide_4 (by decide) (fun hz => ?_) (fun hz => ?_)
    · refine lv_iconst (v := nI 0) hC.1 hC.2.1 d_Mill_divide_29 (by decide) ?_
      exact wm_zret hC hK hM hr hlk rfl (⟨by simp only [sp_divide, sp_3, sp_no, sp_ix_no hno], by simp only [sp_divide, sp_3, sp_no, sp_ix_no hno]; exact hR⟩) d_Mill_divide_30
    · exact absurd rfl hz
set_option maxHeartbeats 4000000 in
set_option maxRecDepth 100000 in
theorem c_Mill_root (l : Launch) (D : va_G) (ad : Nat → Nat) (cA cR : ClassId) (sz : Nat) (ln : Nat → Nat) (wd : Nat → Nat → Int32) (N : Nat → Nat) (hR : wm_R N ln wd) (x y z : Int32) : Met l y_Mill_root (Cond.code y_Mill_root b_Mill_root 4 (some .boolean) :: lw_T) ({ frames := 5, cells := 0, slots := 0, locals := 140 }) (va_Pc [.ref (ad 38), .int (x), .int (y), .int (z)] (wm_B D ad cA cR sz ln wd)) (va_Qi (fun (r : Int32) (u : wm_St) => r = (sp_root N x y z).1 ∧ wm_R (sp_root N x y z).2 u.1 u.2) (wm_E D ad cA cR sz) (wm_A ad sz)) 0 0 (wm_A ad sz) := by
  refine wm_met l (by decide) (Nat.le_of_ble_eq_true rfl) ?_
  intro p e s m below meth c ls hsz hC hK hr hlk hM hl
  subst hsz
  have hC : CallFix p m c b_Mill_root 4 s _ lw_T R_Mill := hC
  have hl : lv_has ls 4 [(0, .ref (ad 38)), (1, .int (x)), (2, .int (y)), (3, .int (z))] := hl
  obtain ⟨⟨Mx, hok, he⟩, hL⟩ := id hR
  refine lv_iload_n hC.1 hC.2.1 d_Mill_root_0 rfl (lv_at hl 1 rfl) ?_
  refine wm_callPi hC hK hM (As := [.int (x)]) (rest := []) (c_Mill_isRegister l _ x) kc_Mill_isRegister km_Mill_26 ki_Mill ks_Mill_isRegister kd_Mill_isRegister ⟨rfl, rfl⟩ ⟨Nat.le_of_ble_eq_true rfl, Nat.le_of_ble_eq_true rfl⟩ rfl hl.1 (Nat.le_of_ble_eq_true rfl) d_Mill_root_1 (fun r H locs hp hM => ?_)
  rcases hp with ⟨s0, hs0, rfl, rfl⟩ | ⟨hno, rfl⟩
  · refine nv_if_eq (tgt := 26) hC (by omega) d_Mill_root_4 (by decide) (fun hz => ?_) (fun hz => ?_)
    · exact absurd hz (by decide)
    · refine lv_iload_n hC.1 hC.2.1 d_Mill_root_7 rfl (lv_at hl 2 rfl) ?_
      refine wm_callPi hC hK hM (As := [.int (y)]) (rest := []) (c_Mill_isRegister l _ y) kc_Mill_isRegister km_Mill_26 ki_Mill ks_Mill_isRegister kd_Mill_isRegister ⟨rfl, rfl⟩ ⟨Nat.le_of_ble_eq_true rfl, Nat.le_of_ble_eq_true rfl⟩ rfl hl.1 (Nat.le_of_ble_eq_true rfl) d_Mill_root_8 (fun r H locs hp hM => ?_)
      rcases hp with ⟨r0, hr0, rfl, rfl⟩ | ⟨hno, rfl⟩
      · refine nv_if_eq (tgt := 26) hC (by omega) d_Mill_root_11 (by decide) (fun hz => ?_) (fun hz => ?_)
        · exact absurd hz (by decide)
        · refine lv_iload_n hC.1 hC.2.1 d_Mill_root_14 rfl (lv_at hl 3 rfl) ?_
          refine wm_callPi hC hK hM (As := [.int (z)]) (rest := []) (c_Mill_isRegister l _ z) kc_Mill_isRegister km_Mill_26 ki_Mill ks_Mill_isRegister kd_Mill_isRegister ⟨rfl, rfl⟩ ⟨Nat.le_of_ble_eq_true rfl, Nat.le_of_ble_eq_true rfl⟩ rfl hl.1 (Nat.le_of_ble_eq_true rfl) d_Mill_root_15 (fun r H locs hp hM => ?_)
          rcases hp with ⟨a, ha, rfl, rfl⟩ | ⟨hno, rfl⟩
          · refine nv_if_eq (tgt := 26) hC (by omega) d_Mill_root_18 (by decide) (fun hz => ?_) (fun hz => ?_)
            · exact absurd hz (by decide)
            · have l1 := wm_len16 (hok a (by omega)) (by rw [he a ha]; exact hL a ha)
              refine lv_iload_n hC.1 hC.2.1 d_Mill_root_21 rfl (lv_at hl 1 rfl) ?_
              refine lv_iload_n hC.1 hC.2.1 d_Mill_root_22 rfl (lv_at hl 2 rfl) ?_
              refine nv_icmp_ne (tgt := 28) hC (by omega) (by omega) d_Mill_root_23 (by decide) (fun hsr => ?_) (fun hsr => ?_)
              · refine lv_aload_n hC.1 hC.2.1 d_Mill_root_28 rfl (lv_at hl 0 rfl) ?_
                refine wm_regs hC hK hM kf_Mill_11 d_Mill_root_29 ?_
                refine lv_iload_n hC.1 hC.2.1 d_Mill_root_32 rfl (lv_at hl 3 rfl) ?_
                refine wm_reg hC hK hM (i := a) (by omega) d_Mill_root_33 ?_
                refine lv_aload_n hC.1 hC.2.1 d_Mill_root_34 rfl (lv_at hl 0 rfl) ?_
                refine wm_res hC hK hM kf_Mill_16 d_Mill_root_35 ?_
                refine lv_aload_n hC.1 hC.2.1 d_Mill_root_38 rfl (lv_at hl 0 rfl) ?_
                refine wm_lef hC hK hM kf_Mill_20 d_Mill_root_39 ?_
                refine lv_aload_n hC.1 hC.2.1 d_Mill_root_42 rfl (lv_at hl 0 rfl) ?_
                refine wm_hel hC hK hM kf_Mill_23 d_Mill_root_43 ?_
                refine wm_callSv hC hK hM (As := [.ref (ad a), .ref (ad 16), .ref (ad 17), .ref (ad 18)]) (rest := []) (c_Root_find l D ad cA cR _ ln wd Mx a ha hok l1) kc_Root_find km_Mill_79 ki_Root ks_Root_find kd_Root_find ⟨rfl, rfl⟩ ⟨Nat.le_of_ble_eq_true rfl, Nat.le_of_ble_eq_true rfl⟩ rfl hl.1 (Nat.le_of_ble_eq_true rfl) d_Mill_root_46 (fun u1 H locs hp1 hM => ?_)
                obtain ⟨h9, s1, q1, q2, ok1⟩ := hp1
                rw [he a ha] at q1 q2 ok1
                have hsq := sp_sq_of q1 q2
                refine lv_aload_n hC.1 hC.2.1 d_Mill_root_49 rfl (lv_at hl 0 rfl) ?_
                refine wm_regs hC hK hM kf_Mill_11 d_Mill_root_50 ?_
                refine lv_iload_n hC.1 hC.2.1 d_Mill_root_53 rfl (lv_at hl 1 rfl) ?_
                refine wm_reg hC hK hM (i := s0) (by omega) d_Mill_root_54 ?_
                refine lv_aload_n hC.1 hC.2.1 d_Mill_root_55 rfl (lv_at hl 0 rfl) ?_
                refine wm_res hC hK hM kf_Mill_16 d_Mill_root_56 ?_
                refine wm_callVv hC hK hM (As := [.ref (ad 16)]) (rest := []) (wm_at_o (by omega)) rfl (c_Whole_become l D ad cA cR _ (u1.1) (u1.2) s0 16 _ (by omega) (by decide) (wm_rep_ze (ok1 s0 (by omega))) (ok1 16 (by decide))) kc_Whole_become km_Mill_50 ki_Whole kn_Whole_become ke_Whole_become kd_Whole_become ⟨rfl, rfl⟩ ⟨Nat.le_of_ble_eq_true rfl, Nat.le_of_ble_eq_true rfl⟩ rfl hl.1 (Nat.le_of_ble_eq_true rfl) d_Mill_root_59 (fun u2 H locs hp2 hM => ?_)
                have ok2 := wm_ok_up ok1 hp2
                refine lv_aload_n hC.1 hC.2.1 d_Mill_root_62 rfl (lv_at hl 0 rfl) ?_
                refine wm_regs hC hK hM kf_Mill_11 d_Mill_root_63 ?_
                refine lv_iload_n hC.1 hC.2.1 d_Mill_root_66 rfl (lv_at hl 2 rfl) ?_
                refine wm_reg hC hK hM (i := r0) (by omega) d_Mill_root_67 ?_
                refine lv_aload_n hC.1 hC.2.1 d_Mill_root_68 rfl (lv_at hl 0 rfl) ?_
                refine wm_lef hC hK hM kf_Mill_20 d_Mill_root_69 ?_
                refine wm_callVv hC hK hM (As := [.ref (ad 17)]) (rest := []) (wm_at_o (by omega)) rfl (c_Whole_become l D ad cA cR _ (u2.1) (u2.2) r0 17 _ (by omega) (by decide) (wm_rep_ze (ok2 r0 (by omega))) (ok2 17 (by decide))) kc_Whole_become km_Mill_50 ki_Whole kn_Whole_become ke_Whole_become kd_Whole_become ⟨rfl, rfl⟩ ⟨Nat.le_of_ble_eq_true rfl, Nat.le_of_ble_eq_true rfl⟩ rfl hl.1 (Nat.le_of_ble_eq_true rfl) d_Mill_root_72 (fun u3 H locs hp3 hM => ?_)
                have ok3 := wm_ok_up ok2 hp3
                rw [va_up_ne _ _ (show 16 ≠ 17 by decide), va_up_self, va_up_ne _ _ (show 17 ≠ s0 by omega), va_up_self] at ok3
                rw [← hsq] at ok3
                have hfin : wm_R (va_up (va_up N s0 (sp_sq (N a))) r0 (N a - sp_sq (N a) * sp_sq (N a))) u3.1 u3.2 := wm_R_up2 ok3 (fun j hj => by rw [va_up_ne _ _ (by omega), va_up_ne _ _ (by omega), va_up_ne _ _ (by omega)]; exact he j hj) hL (by rw [hsq]; exact Nat.lt_of_le_of_lt (Nat.le_trans (Nat.le_mul_self _) q1) (hL a ha)) (Nat.lt_of_le_of_lt (Nat.sub_le _ _) (hL a ha))
                refine lv_iconst (v := nI 1) hC.1 hC.2.1 d_Mill_root_75 (by decide) ?_
                exact wm_zret hC hK hM hr hlk rfl ⟨by simp only [sp_root, sp_3, sp_ix_ok hs0, sp_ix_ok hr0, sp_ix_ok ha]; rw [if_neg hsr], by simp only [sp_root, sp_3, sp_ix_ok hs0, sp_ix_ok hr0, sp_ix_ok ha]; rw [if_neg hsr]; exact hfin⟩ d_Mill_root_76
              · refine lv_iconst (v := nI 0) hC.1 hC.2.1 d_Mill_root_26 (by decide) ?_
                exact wm_zret hC hK hM hr hlk rfl ⟨by simp only [sp_root, sp_3, sp_ix_ok hs0, sp_ix_ok hr0, sp_ix_ok ha]; rw [if_pos hsr]; rfl, by simp only [sp_root, sp_3, sp_ix_ok hs0, sp_ix_ok hr0, sp_ix_ok ha]; rw [if_pos hsr]; exact hR⟩ d_Mill_root_27
          · refine nv_if_eq (tgt := 26) hC (by omega) d_Mill_root_18 (by decide) (fun hz => ?_) (fun hz => ?_)
            · refine lv_iconst (v := nI 0) hC.1 hC.2.1 d_Mill_root_26 (by decide) ?_
              exact wm_zret hC hK hM hr hlk rfl (⟨by simp only [sp_root, sp_3, sp_no, sp_ix_ok hs0, sp_ix_ok hr0, sp_ix_no hno], by simp only [sp_root, sp_3, sp_no, sp_ix_ok hs0, sp_ix_ok hr0, sp_ix_no hno]; exact hR⟩) d_Mill_root_27
            · exact absurd rfl hz
      · refine nv_if_eq (tgt := 26) hC (by omega) d_Mill_root_11 (by decide) (fun hz => ?_) (fun hz => ?_)
        · refine lv_iconst (v := nI 0) hC.1 hC.2.1 d_Mill_root_26 (by decide) ?_
          exact wm_zret hC hK hM hr hlk rfl (⟨by simp only [sp_root, sp_3, sp_no, sp_ix_ok hs0, sp_ix_no hno], by simp only [sp_root, sp_3, sp_no, sp_ix_ok hs0, sp_ix_no hno]; exact hR⟩) d_Mill_root_27
        · exact absurd rfl hz
  · refine nv_if_eq (tgt := 26) hC (by omega) d_Mill_root_4 (by decide) (fun hz => ?_) (fun hz => ?_)
    · refine lv_iconst (v := nI 0) hC.1 hC.2.1 d_Mill_root_26 (by decide) ?_
      exact wm_zret hC hK hM hr hlk rfl (⟨by simp only [sp_root, sp_3, sp_no, sp_ix_no hno], by simp only [sp_root, sp_3, sp_no, sp_ix_no hno]; exact hR⟩) d_Mill_root_27
    · exact absurd rfl hz
end
