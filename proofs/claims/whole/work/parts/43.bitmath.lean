theorem wm_bc_3' : ∀ b, b < 256 → ∀ x, x < 5 → ((wm_bc2 b + wm_bc2 b / 16 + 16 * x) &&& 15) = wm_bc3 b ∧ wm_bc2 b + wm_bc2 b / 16 + 16 * x < 256 ∧ wm_bc2 b % 16 < 5 := by decide +kernel
theorem wm_on_4 {b0 b1 b2 b3 : Nat} (h0 : b0 < 256) (h1 : b1 < 256) (h2 : b2 < 256) (h3 : b3 < 256) : wm_on (b0 + 256 * (b1 + 256 * (b2 + 256 * b3))) 32 = wm_on b0 8 + wm_on b1 8 + wm_on b2 8 + wm_on b3 8 := by
  have s : ∀ b r k : Nat, b < 256 → wm_on (b + 256 * r) (8 + k) = wm_on b 8 + wm_on r k := by
    intro b r k hb
    rw [wm_on_add, ← wm_on_mod (b + 256 * r) 8, show (2 : Nat) ^ 8 = 256 by decide, show (b + 256 * r) % 256 = b by omega, show (b + 256 * r) / 256 = r by omega]
  rw [show (32 : Nat) = 8 + (8 + (8 + 8)) by decide, s _ _ _ h0, s _ _ _ h1, s _ _ _ h2]
  omega
theorem wm_bc_end {x0 x1 x2 x3 : Nat} (h0 : x0 ≤ 8) (h1 : x1 ≤ 8) (h2 : x2 ≤ 8) (h3 : x3 ≤ 8) : (x0 + 256 * (x1 + 256 * (x2 + 256 * x3)) + (x0 + 256 * (x1 + 256 * (x2 + 256 * x3))) / 2 ^ 8 + (x0 + 256 * (x1 + 256 * (x2 + 256 * x3)) + (x0 + 256 * (x1 + 256 * (x2 + 256 * x3))) / 2 ^ 8) / 2 ^ 16) % 2 ^ 6 = x0 + x1 + x2 + x3 := by
  have g1 : (x0 + 256 * (x1 + 256 * (x2 + 256 * x3))) / 2 ^ 8 = x1 + 256 * (x2 + 256 * x3) := by omega
  rw [g1]
  have g2 : (x0 + 256 * (x1 + 256 * (x2 + 256 * x3)) + (x1 + 256 * (x2 + 256 * x3))) / 2 ^ 16 = x2 + x3 + 256 * x3 := by omega
  rw [g2]
  omega
theorem wm_bc {v a1 a2 a3 a4 a5 : Nat} (hv : v < 4294967296) (e1 : a1 = v - (v / 2 ^ 1 &&& 1431655765)) (e2 : a2 = (a1 &&& 858993459) + (a1 / 2 ^ 2 &&& 858993459)) (e3 : a3 = (a2 + a2 / 2 ^ 4) &&& 252645135) (e4 : a4 = a3 + a3 / 2 ^ 8) (e5 : a5 = a4 + a4 / 2 ^ 16) : a5 % 2 ^ 6 = wm_on v 32 := by
  obtain ⟨b0, b1, b2, b3, h0, h1, h2, h3, rfl⟩ : ∃ b0 b1 b2 b3, b0 < 256 ∧ b1 < 256 ∧ b2 < 256 ∧ b3 < 256 ∧ v = b0 + 256 * (b1 + 256 * (b2 + 256 * b3)) := ⟨v % 256, v / 256 % 256, v / 65536 % 256, v / 16777216, by omega, by omega, by omega, by omega, by omega⟩
  have m1 : (1431655765 : Nat) = 85 + 256 * (85 + 256 * (85 + 256 * 85)) := by decide
  have m2 : (858993459 : Nat) = 51 + 256 * (51 + 256 * (51 + 256 * 51)) := by decide
  have m3 : (252645135 : Nat) = 15 + 256 * (15 + 256 * (15 + 256 * 15)) := by decide
  have p0 := wm_bc_1 b0 h0 (b1 % 2) (by omega)
  have p1 := wm_bc_1 b1 h1 (b2 % 2) (by omega)
  have p2 := wm_bc_1 b2 h2 (b3 % 2) (by omega)
  have p3 := wm_bc_1 b3 h3 0 (by omega)
  have f1 : a1 = wm_bc1 b0 + 256 * (wm_bc1 b1 + 256 * (wm_bc1 b2 + 256 * wm_bc1 b3)) := by
    rw [e1, show (b0 + 256 * (b1 + 256 * (b2 + 256 * b3))) / 2 ^ 1 = (b0 / 2 + 128 * (b1 % 2)) + 256 * ((b1 / 2 + 128 * (b2 % 2)) + 256 * ((b2 / 2 + 128 * (b3 % 2)) + 256 * (b3 / 2 + 128 * 0))) by omega, m1, wm_mask4 (by omega) (by omega) (by omega) (by omega) (by decide), p0.1, p1.1, p2.1, p3.1]
    unfold wm_bc1
    have := p0.2
    have := p1.2
    have := p2.2
    have := p3.2
    omega
  have q0 := wm_bc_2 b0 h0 (wm_bc1 b1 % 4) (by omega)
  have q1 := wm_bc_2 b1 h1 (wm_bc1 b2 % 4) (by omega)
  have q2 := wm_bc_2 b2 h2 (wm_bc1 b3 % 4) (by omega)
  have q3 := wm_bc_2 b3 h3 0 (by omega)
  have c0 := q0.2.1
  have c1 := q1.2.1
  have c2 := q2.2.1
  have c3 := q3.2.1
  have f2 : a2 = wm_bc2 b0 + 256 * (wm_bc2 b1 + 256 * (wm_bc2 b2 + 256 * wm_bc2 b3)) := by
    rw [e2, f1, show (wm_bc1 b0 + 256 * (wm_bc1 b1 + 256 * (wm_bc1 b2 + 256 * wm_bc1 b3))) / 2 ^ 2 = (wm_bc1 b0 / 4 + 64 * (wm_bc1 b1 % 4)) + 256 * ((wm_bc1 b1 / 4 + 64 * (wm_bc1 b2 % 4)) + 256 * ((wm_bc1 b2 / 4 + 64 * (wm_bc1 b3 % 4)) + 256 * (wm_bc1 b3 / 4 + 64 * 0))) by omega, m2, wm_mask4 c0 c1 c2 c3 (by decide), wm_mask4 (by omega) (by omega) (by omega) (by omega) (by decide), q0.1, q1.1, q2.1, q3.1]
    unfold wm_bc2
    omega
  have r1 := wm_bc_3' b1 h1 0 (by decide)
  have r2 := wm_bc_3' b2 h2 0 (by decide)
  have r3 := wm_bc_3' b3 h3 0 (by decide)
  have s0 := wm_bc_3' b0 h0 (wm_bc2 b1 % 16) r1.2.2
  have s1 := wm_bc_3' b1 h1 (wm_bc2 b2 % 16) r2.2.2
  have s2 := wm_bc_3' b2 h2 (wm_bc2 b3 % 16) r3.2.2
  have f3 : a3 = wm_on b0 8 + 256 * (wm_on b1 8 + 256 * (wm_on b2 8 + 256 * wm_on b3 8)) := by
    rw [e3, f2, show wm_bc2 b0 + 256 * (wm_bc2 b1 + 256 * (wm_bc2 b2 + 256 * wm_bc2 b3)) + (wm_bc2 b0 + 256 * (wm_bc2 b1 + 256 * (wm_bc2 b2 + 256 * wm_bc2 b3))) / 2 ^ 4 = (wm_bc2 b0 + wm_bc2 b0 / 16 + 16 * (wm_bc2 b1 % 16)) + 256 * ((wm_bc2 b1 + wm_bc2 b1 / 16 + 16 * (wm_bc2 b2 % 16)) + 256 * ((wm_bc2 b2 + wm_bc2 b2 / 16 + 16 * (wm_bc2 b3 % 16)) + 256 * (wm_bc2 b3 + wm_bc2 b3 / 16 + 16 * 0))) by omega, m3, wm_mask4 s0.2.1 s1.2.1 s2.2.1 r3.2.1 (by decide), s0.1, s1.1, s2.1, r3.1, wm_bc_4 b0 h0, wm_bc_4 b1 h1, wm_bc_4 b2 h2, wm_bc_4 b3 h3]
  have o0 := wm_on_le b0 8
  have o1 := wm_on_le b1 8
  have o2 := wm_on_le b2 8
  have o3 := wm_on_le b3 8
  rw [wm_on_4 h0 h1 h2 h3, e5, e4, f3]
  exact wm_bc_end o0 o1 o2 o3
/-! ===== the lowest 1 ===== -/
theorem wm_ntz_fin {v w k : Nat} (hb : wm_bl v = wm_bl w + k) (h1 : 1 ≤ w) (h4 : w ≤ 4) : 1 + k + w / 2 ^ 1 = wm_bl v := by
  have h : wm_bl w = 1 + w / 2 ^ 1 := by
    rcases (show w = 1 ∨ w = 2 ∨ w = 3 ∨ w = 4 by omega) with z | z | z | z <;> subst z <;> decide
  omega
theorem wm_ctz {v : Nat} (h : 0 < v) : ∃ t m, v = 2 ^ t * (2 * m + 1) := by
  induction v using Nat.strongRecOn with
  | ind v ih =>
    rcases Nat.mod_two_eq_zero_or_one v with z | z
    · obtain ⟨t, m, e⟩ := ih (v / 2) (by omega) (by omega)
      refine ⟨t + 1, m, ?_⟩
      rw [Nat.pow_succ, Nat.mul_comm (2 ^ t), Nat.mul_assoc, ← e]
      omega
    · exact ⟨0, v / 2, by rw [Nat.pow_zero, Nat.one_mul]; omega⟩
theorem wm_andk {a b k : Nat} : a &&& b = (a % 2 ^ k &&& b % 2 ^ k) + 2 ^ k * (a / 2 ^ k &&& b / 2 ^ k) := by
  have h3 := Nat.mod_add_div (a &&& b) (2 ^ k)
  rw [Nat.and_mod_two_pow, Nat.and_div_two_pow] at h3
  exact h3.symm
theorem wm_and_c {n m : Nat} (h : m < 2 ^ n) : (2 ^ n - (m + 1)) &&& m = 0 := by
  apply Nat.eq_of_testBit_eq
  intro i
  rw [Nat.testBit_and, Nat.testBit_two_pow_sub_succ h, Nat.zero_testBit]
  cases m.testBit i <;> simp
theorem wm_low_ones {t m : Nat} (h : 2 ^ t * (2 * m + 1) < 4294967296) : (4294967296 - (2 ^ t * (2 * m + 1) + 1)) &&& (2 ^ t * (2 * m + 1) - 1) = 2 ^ t - 1 := by
  have hp : 0 < 2 ^ t := Nat.pow_pos (by decide)
  have ht : t < 32 := by
    rcases Nat.lt_or_ge t 32 with z | z
    · exact z
    · have h1 : 2 ^ 32 ≤ 2 ^ t := Nat.pow_le_pow_right (by decide) z
      have h2 : 2 ^ t * 1 ≤ 2 ^ t * (2 * m + 1) := Nat.mul_le_mul_left _ (by omega)
      omega
  have e0 : 4294967296 = 2 ^ (t + 1) * 2 ^ (31 - t) := by rw [← Nat.pow_add, show t + 1 + (31 - t) = 32 by omega]
  have e1 : 2 ^ t * (2 * m + 1) = 2 ^ (t + 1) * m + 2 ^ t := by rw [Nat.pow_succ, Nat.mul_add, Nat.mul_one, Nat.mul_assoc]
  have e2 : 2 ^ (t + 1) = 2 * 2 ^ t := by rw [Nat.pow_succ, Nat.mul_comm]
  have hm : m < 2 ^ (31 - t) := by
    rw [e1] at h
    have h3 : 2 ^ (t + 1) * m < 2 ^ (t + 1) * 2 ^ (31 - t) := by omega
    exact Nat.lt_of_mul_lt_mul_left h3
  obtain ⟨m', hm'⟩ : ∃ z, z = 2 ^ (31 - t) - (m + 1) := ⟨_, rfl⟩
  have e3 : 4294967296 - (2 ^ t * (2 * m + 1) + 1) = 2 ^ (t + 1) * m' + (2 ^ t - 1) := by
    have e5 : 2 ^ (31 - t) = m' + m + 1 := by omega
    rw [e1, e0, e5, Nat.mul_add, Nat.mul_add, Nat.mul_one]
    omega
  have e4 : 2 ^ t * (2 * m + 1) - 1 = 2 ^ (t + 1) * m + (2 ^ t - 1) := by omega
  have d : ∀ z : Nat, (2 ^ (t + 1) * z + (2 ^ t - 1)) % 2 ^ (t + 1) = 2 ^ t - 1 ∧ (2 ^ (t + 1) * z + (2 ^ t - 1)) / 2 ^ (t + 1) = z := by
    intro z
    constructor
    · rw [Nat.add_comm, Nat.add_mul_mod_self_left, Nat.mod_eq_of_lt (by omega)]
    · rw [Nat.add_comm, Nat.add_mul_div_left _ _ (by omega), Nat.div_eq_of_lt (by omega), Nat.zero_add]
  rw [e3, e4, wm_andk (k := t + 1), (d m').1, (d m').2, (d m).1, (d m).2, hm', wm_and_c hm, Nat.mul_zero, Nat.add_zero, Nat.and_self]
theorem wm_xorm (x : Int32) : x ^^^ (-1) = nI (4294967296 - (wm_u x + 1)) := by
  apply wm_u_inj
  have h := wm_u_lt x
  rw [wm_un' (by omega)]
  show (x ^^^ (-1)).toBitVec.toNat = _
  rw [Int32.toBitVec_xor, show (-1 : Int32).toBitVec = BitVec.allOnes 32 by decide, BitVec.xor_allOnes]
  rw [BitVec.toNat_not]
  unfold wm_u
  omega
theorem wm_bl_ones {t : Nat} : wm_bl (2 ^ t - 1) = t := by
  have hp : 0 < 2 ^ t := Nat.pow_pos (by decide)
  refine wm_bl_of (by omega) ?_
  rcases Nat.eq_zero_or_pos t with z | z
  · exact Or.inl z
  · refine Or.inr ?_
    obtain ⟨s, rfl⟩ : ∃ s, t = s + 1 := ⟨t - 1, by omega⟩
    have h2 : 0 < 2 ^ s := Nat.pow_pos (by decide)
    rw [Nat.add_sub_cancel, Nat.pow_succ]
    omega
