theorem md_tb0 {s h l b i : Nat} (hl : l < 2 ^ s) (hb : b < 2) : Nat.testBit (2 ^ s * (2 * h) + l) i = (Nat.testBit (2 ^ s * (2 * h + b) + l) i && !decide (s = i)) := by
  rw [Nat.testBit_two_pow_mul_add _ hl, Nat.testBit_two_pow_mul_add _ hl]
  by_cases h1 : i < s
  · rw [if_pos h1, if_pos h1, show decide (s = i) = false from decide_eq_false (by omega)]
    simp
  · rw [if_neg h1, if_neg h1]
    by_cases h2 : s = i
    · subst h2
      rw [Nat.sub_self, Nat.testBit_zero, show decide (s = s) = true from decide_eq_true rfl]
      simp
    · obtain ⟨j, hj⟩ : ∃ j, i - s = j + 1 := ⟨i - s - 1, by omega⟩
      rw [hj, Nat.testBit_succ, Nat.testBit_succ, show 2 * h / 2 = h by omega, show (2 * h + b) / 2 = h by omega, show decide (s = i) = false from decide_eq_false h2]
      simp
theorem md_tb1 {s h l i : Nat} (hl : l < 2 ^ s) : Nat.testBit (2 ^ s * (2 * h + 1) + l) i = (Nat.testBit (2 ^ s * (2 * h) + l) i || decide (s = i)) := by
  rw [md_tb0 hl (show 1 < 2 by decide)]
  by_cases h2 : s = i
  · subst h2
    rw [Nat.testBit_two_pow_mul_add _ hl, if_neg (by omega), Nat.sub_self, Nat.testBit_zero, show (2 * h + 1) % 2 = 1 by omega]
    simp
  · rw [show decide (s = i) = false from decide_eq_false h2]
    simp
theorem md_split (d s : Nat) : d = 2 ^ s * (2 * (d / 2 ^ s / 2) + d / 2 ^ s % 2) + d % 2 ^ s := by
  rw [Nat.div_add_mod, Nat.div_add_mod]
theorem md_clrN {d s : Nat} : d - d / 2 ^ s % 2 * 2 ^ s = 2 ^ s * (2 * (d / 2 ^ s / 2)) + d % 2 ^ s := by
  have h := md_split d s
  have e : 2 ^ s * (2 * (d / 2 ^ s / 2) + d / 2 ^ s % 2) = 2 ^ s * (2 * (d / 2 ^ s / 2)) + d / 2 ^ s % 2 * 2 ^ s := by rw [Nat.mul_add, Nat.mul_comm (2 ^ s) (d / 2 ^ s % 2)]
  rw [e] at h
  omega
theorem md_clr_le {d s : Nat} : d / 2 ^ s % 2 * 2 ^ s ≤ d := by
  have h := md_split d s
  have e : 2 ^ s * (2 * (d / 2 ^ s / 2) + d / 2 ^ s % 2) = 2 ^ s * (2 * (d / 2 ^ s / 2)) + d / 2 ^ s % 2 * 2 ^ s := by rw [Nat.mul_add, Nat.mul_comm (2 ^ s) (d / 2 ^ s % 2)]
  rw [e] at h
  omega
theorem md_clr {d s : Nat} (hd : d < 65536) (hs : s < 16) : nI d &&& (nI (1 * 2 ^ s) ^^^ (-1)) = nI (d - d / 2 ^ s % 2 * 2 ^ s) := by
  apply Int32.toBitVec_inj.mp
  show BitVec.ofNat 32 d &&& (BitVec.ofNat 32 (1 * 2 ^ s) ^^^ BitVec.ofInt 32 (-1)) = BitVec.ofNat 32 (d - d / 2 ^ s % 2 * 2 ^ s)
  apply BitVec.eq_of_getLsbD_eq
  intro i hi
  have e1 : (BitVec.ofInt 32 (-1)).getLsbD i = true := by
    have : ∀ i, i < 32 → (BitVec.ofInt 32 (-1)).getLsbD i = true := by decide
    exact this i hi
  rw [BitVec.getLsbD_and, BitVec.getLsbD_xor, e1, BitVec.getLsbD_ofNat, BitVec.getLsbD_ofNat, BitVec.getLsbD_ofNat, md_clrN, md_tb0 (b := d / 2 ^ s % 2) (Nat.mod_lt _ (Nat.two_pow_pos _)) (Nat.mod_lt _ (by decide)), ← md_split, Nat.one_mul, Nat.testBit_two_pow, show decide (i < 32) = true from decide_eq_true hi]
  simp
theorem md_set1 {d s : Nat} (hd : d < 65536) (hs : s < 16) : nI (d - d / 2 ^ s % 2 * 2 ^ s) ||| nI (1 * 2 ^ s) = nI (d - d / 2 ^ s % 2 * 2 ^ s + 1 * 2 ^ s) := by
  apply Int32.toBitVec_inj.mp
  show BitVec.ofNat 32 (d - d / 2 ^ s % 2 * 2 ^ s) ||| BitVec.ofNat 32 (1 * 2 ^ s) = BitVec.ofNat 32 (d - d / 2 ^ s % 2 * 2 ^ s + 1 * 2 ^ s)
  apply BitVec.eq_of_getLsbD_eq
  intro i hi
  have e : d - d / 2 ^ s % 2 * 2 ^ s + 1 * 2 ^ s = 2 ^ s * (2 * (d / 2 ^ s / 2) + 1) + d % 2 ^ s := by
    rw [md_clrN, Nat.mul_add, Nat.mul_one, Nat.one_mul]; omega
  rw [BitVec.getLsbD_or, BitVec.getLsbD_ofNat, BitVec.getLsbD_ofNat, BitVec.getLsbD_ofNat, e, md_tb1 (Nat.mod_lt _ (Nat.two_pow_pos _)), ← md_clrN, Nat.one_mul, Nat.testBit_two_pow, show decide (i < 32) = true from decide_eq_true hi]
  simp
theorem md_set0 (a : Nat) : nI a ||| nI 0 = nI (a + 0 * 1) := by
  rw [Nat.zero_mul, Nat.add_zero]
  apply Int32.toBitVec_inj.mp
  show BitVec.ofNat 32 a ||| 0#32 = BitVec.ofNat 32 a
  simp
theorem md_setlt {d s e : Nat} (hd : d < 65536) (hs : s < 16) (he : e < 2) : d - d / 2 ^ s % 2 * 2 ^ s + e * 2 ^ s < 65536 := by
  have h1 : d / 2 ^ s < 2 ^ (16 - s) := by
    rw [Nat.div_lt_iff_lt_mul (Nat.two_pow_pos _), ← Nat.pow_add, show 16 - s + s = 16 by omega]; exact hd
  have h2 : 2 ^ s * (2 * (d / 2 ^ s / 2) + e) + d % 2 ^ s < 2 ^ s * 2 ^ (16 - s) := by
    have h3 : 2 * (d / 2 ^ s / 2) + e + 1 ≤ 2 ^ (16 - s) := by
      obtain ⟨j, hj⟩ : ∃ j, 16 - s = j + 1 := ⟨15 - s, by omega⟩
      rw [hj, Nat.pow_succ] at h1 ⊢
      omega
    have h4 := Nat.mul_le_mul_left (2 ^ s) h3
    rw [Nat.mul_add _ _ 1, Nat.mul_one] at h4
    have h5 := Nat.mod_lt d (Nat.two_pow_pos s)
    omega
  rw [← Nat.pow_add, show s + (16 - s) = 16 by omega] at h2
  have e : d - d / 2 ^ s % 2 * 2 ^ s + e * 2 ^ s = 2 ^ s * (2 * (d / 2 ^ s / 2) + e) + d % 2 ^ s := by
    rw [md_clrN, Nat.mul_add (2 ^ s) _ e, Nat.mul_comm (2 ^ s) e]; omega
  rw [e]
  exact h2
/-! divide, a bit at a time -/
theorem md_dbit {Q A y : Nat} : (Q * 2 ^ (y + 1) + A % 2 ^ (y + 1)) / 2 ^ y % 2 = A / 2 ^ y % 2 := by
  rw [Nat.pow_succ, Nat.mul_comm (2 ^ y) 2, ← Nat.mul_assoc, Nat.mul_comm (Q * 2), Nat.mul_add_div (Nat.two_pow_pos _), Nat.mul_comm 2 (2 ^ y), Nat.mod_mul_right_div_self]
  omega
theorem md_half2 (A y : Nat) : A / 2 ^ y = 2 * (A / 2 ^ (y + 1)) + A / 2 ^ y % 2 := by
  rw [Nat.pow_succ, ← Nat.div_div_eq_div_mul]
  omega
theorem md_divV {f : Nat → Nat} {n y e Q A : Nat} (hk : y / 16 < n) (hd : mv_d f n) (hV : mv_v f n = Q * 2 ^ (y + 1) + A % 2 ^ (y + 1)) : mv_v (va_up f (y / 16) (f (y / 16) - f (y / 16) / 2 ^ (y % 16) % 2 * 2 ^ (y % 16) + e * 2 ^ (y % 16))) n = (2 * Q + e) * 2 ^ y + A % 2 ^ y := by
  have h1 := mv_set (f := f) (v := f (y / 16) - f (y / 16) / 2 ^ (y % 16) % 2 * 2 ^ (y % 16) + e * 2 ^ (y % 16)) hk
  have hb := mv_bit hd hk
  rw [hV, md_dbit] at hb
  rw [← hb] at h1 ⊢
  have hle : A / 2 ^ y % 2 * 2 ^ (y % 16) ≤ f (y / 16) := by rw [hb]; exact md_clr_le
  obtain ⟨g, hg⟩ : ∃ g, f (y / 16) = g + A / 2 ^ y % 2 * 2 ^ (y % 16) := ⟨f (y / 16) - A / 2 ^ y % 2 * 2 ^ (y % 16), by omega⟩
  rw [hg, Nat.add_sub_cancel, Nat.add_mul, Nat.add_mul, Nat.mul_assoc, Nat.mul_assoc, Nat.mul_comm (2 ^ (y % 16)), ← md_2p, hV, Nat.mod_pow_succ] at h1
  rw [hg, Nat.add_sub_cancel]
  have e2 : Q * 2 ^ (y + 1) = 2 * Q * 2 ^ y := by rw [Nat.pow_succ, Nat.mul_comm (2 ^ y) 2, ← Nat.mul_assoc, Nat.mul_comm Q 2]
  rw [e2, Nat.mul_comm (2 ^ y) (A / 2 ^ y % 2)] at h1
  rw [Nat.add_mul]
  omega
theorem md_divA {A B Q R y e R' : Nat} (h : A / 2 ^ (y + 1) = Q * B + R) (hr : 2 * R + A / 2 ^ y % 2 = e * B + R') : A / 2 ^ y = (2 * Q + e) * B + R' := by
  rw [md_half2, h, Nat.mul_add, Nat.add_assoc, hr, Nat.add_mul, Nat.mul_assoc]
  omega
theorem md_divend {A B Q R : Nat} (h : A / 2 ^ 0 = Q * B + R) (hR : R < B) : Q = A / B ∧ R = A % B := by
  rw [Nat.pow_zero, Nat.div_one] at h
  have h2 := (Nat.div_mod_unique (a := A) (b := B) (c := R) (d := Q) (by omega)).mpr ⟨by rw [h, Nat.mul_comm]; omega, hR⟩
  exact ⟨h2.1.symm, h2.2.symm⟩
