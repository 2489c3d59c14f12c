/-- a row whose number is a multiple of B^y -/
theorem wm_mult {f : Nat → Int32} {y n Z : Nat} (h : wm_v f (y + n) = Z * 4294967296 ^ y) : wm_v f y = 0 ∧ wm_v (wm_off f y) n = Z := by
  have e := wm_v_off f y n
  have b := wm_v_lt f y
  rw [h, Nat.add_comm, Nat.mul_comm (4294967296 ^ y)] at e
  obtain ⟨e1, e2⟩ := wm_du (h := Z) (b := wm_v (wm_off f y) n) (P := 4294967296 ^ y) (X := 0) (Z := wm_v f y) (wm_pp y) b (by omega)
  exact ⟨e2.symm, e1.symm⟩
/-- the root's rows after rounds: x words are still to come, s is found -/
def wm_J (A cnt x s : Nat) (fl fd : Nat → Int32) : Prop := s * s * 4294967296 ^ (2 * x) + wm_v fl 2050 = A ∧ wm_v fl 2050 < (2 * s + 1) * 4294967296 ^ (2 * x) ∧ wm_v fd 2050 = 2 * s * 4294967296 ^ x ∧ 4294967296 ^ (cnt - x) ≤ 2 * s ∧ s < 4294967296 ^ (cnt - x)
set_option maxRecDepth 100000 in
theorem wm_J_pre {A K y s : Nat} {fl fd : Nat → Int32} (h : wm_J A (y + (K + 2)) (y + 1) s fl fd) (hfit : 2 * y + K + 3 < 2050) : wm_v (wm_off fd y) (K + 3) = 2 * (s * 4294967296) ∧ 4294967296 ^ (K + 1) ≤ 2 * s ∧ s < 4294967296 ^ (K + 1) ∧ wm_v (wm_off fl (2 * y)) (K + 4) < (2 * s + 1) * (4294967296 * 4294967296) ∧ wm_v fl 2050 = wm_v fl (2 * y) + 4294967296 ^ (2 * y) * wm_v (wm_off fl (2 * y)) (K + 4) ∧ (∀ k, 2 * y + (K + 3) < k → k < 2050 → fl k = 0) ∧ wm_v fd y = 0 ∧ ∀ k, y + (K + 2) < k → k < 2050 → fd k = 0 := by
  obtain ⟨h1, h2, h3, h4, h5⟩ := h
  rw [show y + (K + 2) - (y + 1) = K + 1 by omega] at h4 h5
  have hp2 := wm_pp (2 * y)
  have eK : 4294967296 ^ (K + 3) = 4294967296 ^ (K + 1) * (4294967296 * 4294967296) := by rw [show K + 3 = K + 1 + 2 from rfl, Nat.pow_add]
  have m1 : wm_v fd (y + (2050 - y)) = (2 * (s * 4294967296)) * 4294967296 ^ y := by
    rw [show y + (2050 - y) = 2050 by omega, h3, Nat.pow_succ]
    rw [← Nat.mul_assoc, ← Nat.mul_assoc, Nat.mul_right_comm]
  obtain ⟨a1, a2⟩ := wm_mult m1
  have b1 : wm_v (wm_off fd y) (2050 - y) < 4294967296 ^ (K + 3) := by rw [a2, eK]; omega
  obtain ⟨c1, c2⟩ := wm_small b1 (show K + 3 ≤ 2050 - y by omega)
  have e2 : (2 * s + 1) * 4294967296 ^ (2 * (y + 1)) = 4294967296 ^ (2 * y) * ((2 * s + 1) * (4294967296 * 4294967296)) := by
    rw [show 2 * (y + 1) = 2 * y + 2 by omega, Nat.pow_add, Nat.mul_left_comm]
  rw [e2] at h2
  have e3 := wm_v_off fl (2 * y) (2050 - 2 * y)
  rw [show 2 * y + (2050 - 2 * y) = 2050 by omega] at e3
  have b2 : wm_v (wm_off fl (2 * y)) (2050 - 2 * y) < (2 * s + 1) * (4294967296 * 4294967296) := by
    have h6 : 4294967296 ^ (2 * y) * wm_v (wm_off fl (2 * y)) (2050 - 2 * y) < 4294967296 ^ (2 * y) * ((2 * s + 1) * (4294967296 * 4294967296)) := by omega
    exact Nat.lt_of_mul_lt_mul_left h6
  have eK4 : 4294967296 ^ (K + 4) = 4294967296 ^ (K + 1) * 4294967296 * (4294967296 * 4294967296) := by rw [show K + 4 = K + 1 + 1 + 2 from rfl, Nat.pow_add, Nat.pow_succ]
  have hs3 : 2 * s + 1 ≤ 4294967296 ^ (K + 1) * 4294967296 := by
    generalize 4294967296 ^ (K + 1) = S at h5
    omega
  have b3 : wm_v (wm_off fl (2 * y)) (2050 - 2 * y) < 4294967296 ^ (K + 4) := by
    rw [eK4]
    exact Nat.lt_of_lt_of_le b2 (Nat.mul_le_mul_right _ hs3)
  obtain ⟨d1, d2⟩ := wm_small b3 (show K + 4 ≤ 2050 - 2 * y by omega)
  refine ⟨by rw [← c1, a2], h4, h5, by rw [← d1]; exact b2, by rw [← d1]; exact e3, fun k k1 k2 => ?_, a1, fun k k1 k2 => ?_⟩
  · have := d2 (k - 2 * y) (by omega) (by omega)
    have e : wm_off fl (2 * y) (k - 2 * y) = fl k := by
      show fl (2 * y + (k - 2 * y)) = fl k
      rw [Nat.add_sub_cancel' (by omega)]
    rw [← e, this]
  · have := c2 (k - y) (by omega) (by omega)
    have e : wm_off fd y (k - y) = fd k := by
      show fd (y + (k - y)) = fd k
      rw [Nat.add_sub_cancel' (by omega)]
    rw [← e, this]
set_option maxRecDepth 100000 in
theorem wm_J_step {A K y s w : Nat} {fl fd f g : Nat → Int32} (h : wm_J A (y + (K + 2)) (y + 1) s fl fd) (hfit : 2 * y + K + 3 < 2050) (hw : w < 4294967296)
    (e1 : wm_v (wm_off f (2 * y)) (K + 4) + w * (2 * (s * 4294967296) + w) = wm_v (wm_off fl (2 * y)) (K + 4)) (e2 : wm_v (wm_off fl (2 * y)) (K + 4) < (w + 1) * (2 * (s * 4294967296) + (w + 1))) (e3 : wm_v (wm_off g y) (K + 3) = 2 * (s * 4294967296 + w))
    (hf : ∀ k, (k < 2 * y ∨ 2 * y + (K + 3) < k) → f k = fl k) (hg : ∀ k, (k < y ∨ y + (K + 2) < k) → g k = fd k) : wm_J A (y + (K + 2)) y (s * 4294967296 + w) f g := by
  obtain ⟨p1, p2, p3, p4, p5, p6, p7, p8⟩ := wm_J_pre h hfit
  obtain ⟨h1, -, -, -, -⟩ := h
  have hp2 := wm_pp (2 * y)
  have q1 : wm_v f 2050 = wm_v f (2 * y + (K + 4)) := wm_v_z' (by omega) (fun k k1 k2 => by rw [hf k (Or.inr (by omega))]; exact p6 k (by omega) k2)
  have q2 : wm_v f (2 * y) = wm_v fl (2 * y) := wm_v_congr (fun k hk => hf k (Or.inl hk))
  rw [wm_v_off, q2] at q1
  have q3 : wm_v g 2050 = wm_v g (y + (K + 3)) := wm_v_z' (by omega) (fun k k1 k2 => by rw [hg k (Or.inr (by omega))]; exact p8 k (by omega) k2)
  have q4 : wm_v g y = 0 := by rw [wm_v_congr (g := fd) (fun k hk => hg k (Or.inl hk))]; exact p7
  rw [wm_v_off, q4, Nat.zero_add, e3] at q3
  have hb := wm_v_lt fl (2 * y)
  obtain ⟨r1, r2⟩ := wm_rt_ok (s := s) (R := 0) (q := wm_v (wm_off fl (2 * y)) (K + 4)) (w := w) (T := wm_v (wm_off fl (2 * y)) (K + 4)) (b := 4294967296) (by omega) (by rw [Nat.mul_assoc]; omega) (by rw [Nat.mul_assoc]; exact e2)
  rw [Nat.mul_assoc 2 s, Nat.add_zero (s * s)] at r1
  rw [Nat.mul_assoc 2 s] at r2
  generalize hT : wm_v (wm_off fl (2 * y)) (K + 4) = T at *
  generalize hQ : w * (2 * (s * 4294967296) + w) = Q at *
  have eTQ : T - Q = wm_v (wm_off f (2 * y)) (K + 4) := by omega
  rw [eTQ] at r1 r2
  generalize hZ : wm_v (wm_off f (2 * y)) (K + 4) = Z at *
  refine ⟨?_, ?_, ?_, ?_, ?_⟩
  · have e4 : ((s * 4294967296 + w) * (s * 4294967296 + w) + Z) * 4294967296 ^ (2 * y) = (s * s * 4294967296 * 4294967296 + T) * 4294967296 ^ (2 * y) := by rw [r1]
    rw [Nat.add_mul _ Z, Nat.add_mul _ T] at e4
    have e5 : s * s * 4294967296 ^ (2 * (y + 1)) = s * s * 4294967296 * 4294967296 * 4294967296 ^ (2 * y) := by
      rw [show 2 * (y + 1) = 2 + 2 * y by omega, Nat.pow_add, ← Nat.mul_assoc, show (4294967296 : Nat) ^ 2 = 4294967296 * 4294967296 from rfl, ← Nat.mul_assoc]
    rw [q1, ← h1, e5, p5, Nat.mul_comm (4294967296 ^ (2 * y)) T, Nat.mul_comm (4294967296 ^ (2 * y)) Z]
    omega
  · have e6 : (Z + 1) * 4294967296 ^ (2 * y) ≤ (2 * (s * 4294967296 + w) + 1) * 4294967296 ^ (2 * y) := Nat.mul_le_mul_right _ (by omega)
    rw [Nat.add_mul, Nat.one_mul] at e6
    rw [q1, Nat.mul_comm (4294967296 ^ (2 * y)) Z]
    omega
  · rw [q3, Nat.mul_comm]
  · rw [show y + (K + 2) - y = K + 1 + 1 by omega, Nat.pow_succ]
    omega
  · rw [show y + (K + 2) - y = K + 1 + 1 by omega, Nat.pow_succ]
    omega
