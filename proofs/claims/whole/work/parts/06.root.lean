/-! ===== a word of a square root ===== -/
/-- the guess w (times the doubled root) may be 2 too great at most -/
theorem wm_rt_2 {s T g b : Nat} (hs : b ≤ 2 * s) (hg : g + 2 < b) (h : (g + 2) * (s * b) < T / 2 + s * b) : g * (2 * s * b + g) ≤ T := by
  generalize hD : s * b = D at h
  have h2 : g * g ≤ b * b := Nat.mul_le_mul (by omega) (by omega)
  have h3 : b * b ≤ 2 * s * b := Nat.mul_le_mul_right _ hs
  have h5 : 2 * s * b = 2 * D := by rw [Nat.mul_assoc, hD]
  have e1 : (g + 2) * D = g * D + 2 * D := Nat.add_mul _ _ _
  have e2 : g * (2 * s * b + g) = 2 * (g * D) + g * g := by
    rw [h5, Nat.mul_add, Nat.mul_left_comm]
  rw [e2]
  rw [e1] at h
  omega
theorem wm_sq (a b : Nat) : (a + b) * (a + b) = a * a + 2 * (a * b) + b * b := by
  rw [Nat.mul_add, Nat.add_mul, Nat.add_mul, Nat.mul_comm b a]
  omega
/-- what the step does: R is what is left of s, T = R with the next two words, w the next word of the root -/
theorem wm_rt_ok {s R q w T b : Nat} (hT : T = R * b * b + q) (h1 : w * (2 * s * b + w) ≤ T) (h2 : T < (w + 1) * (2 * s * b + (w + 1))) :
    (s * b + w) * (s * b + w) + (T - w * (2 * s * b + w)) = (s * s + R) * b * b + q ∧ T - w * (2 * s * b + w) ≤ 2 * (s * b + w) := by
  generalize hD : s * b = D
  have h5 : 2 * s * b = 2 * D := by rw [Nat.mul_assoc, hD]
  have e0 : w * (2 * s * b + w) = 2 * (D * w) + w * w := by
    rw [h5, Nat.mul_add, Nat.mul_left_comm, Nat.mul_comm w D]
  have e1 : (D + w) * (D + w) = D * D + 2 * (D * w) + w * w := wm_sq D w
  have e4 : D * D = s * s * b * b := by
    rw [← hD, Nat.mul_assoc (s * s), Nat.mul_mul_mul_comm]
  have e2 : (s * s + R) * b * b = s * s * b * b + R * b * b := by
    rw [Nat.add_mul, Nat.add_mul]
  have e3 : (w + 1) * (2 * s * b + (w + 1)) = 2 * (D * w) + w * w + 2 * D + 2 * w + 1 := by
    rw [h5, Nat.add_mul, Nat.one_mul, Nat.mul_add, Nat.mul_left_comm, Nat.mul_comm w D, Nat.mul_add, Nat.mul_one]
    omega
  rw [e0] at h1 ⊢
  rw [e3] at h2
  constructor
  · rw [e1, e2, e4]
    generalize s * s * b * b = X at *
    generalize R * b * b = Y at *
    omega
  · omega
/-- the shift back: S the root of A * 4^h, R what is left, S = s * 2^h + t -/
theorem wm_rt_back {A S R s t p : Nat} (hA : S * S + R = A * (p * p)) (hR : R ≤ 2 * S) (hS : S = s * p + t) (ht : t < p) : s * s ≤ A ∧ A - s * s ≤ 2 * s ∧ (R + t * (2 * S)) / (p * p) = A - s * s := by
  have hp : 0 < p := by omega
  have hpp : 0 < p * p := Nat.mul_pos hp hp
  generalize hD : s * p = D at hS
  have e0 : D * D = s * s * (p * p) := by rw [← hD, Nat.mul_mul_mul_comm]
  have e1 : S * S = s * s * (p * p) + 2 * (D * t) + t * t := by rw [hS, wm_sq, e0]
  have e2 : t * (2 * S) = 2 * (D * t) + 2 * (t * t) := by
    rw [Nat.mul_left_comm, hS, Nat.mul_add, Nat.mul_comm t D]
    omega
  have htt : t * t < p * p := by
    rcases Nat.eq_zero_or_pos t with z | z
    · subst z; rw [Nat.zero_mul]; exact hpp
    · exact Nat.mul_lt_mul_of_lt_of_le ht (Nat.le_of_lt ht) hp
  have h1 : s * s ≤ A := by
    have h : s * s * (p * p) ≤ A * (p * p) := by omega
    exact Nat.le_of_mul_le_mul_right h hpp
  obtain ⟨r, rfl⟩ : ∃ r, A = s * s + r := ⟨A - s * s, by omega⟩
  have e3 : (s * s + r) * (p * p) = s * s * (p * p) + r * (p * p) := Nat.add_mul _ _ _
  have e4 : R + t * (2 * S) = t * t + p * p * r := by
    rw [Nat.mul_comm (p * p) r]
    omega
  refine ⟨h1, ?_, ?_⟩
  · rw [Nat.add_sub_cancel_left]
    have h2 : R + t * (2 * S) < t * t + (2 * s + 1) * (p * p) := by
      have a2 : 2 * S * (t + 1) ≤ 2 * S * p := Nat.mul_le_mul_left _ ht
      have a3 : 2 * S * p = 2 * (s * (p * p)) + 2 * (t * p) := by
        rw [Nat.mul_assoc, hS, Nat.add_mul, Nat.mul_add, ← hD, Nat.mul_assoc s]
      have a4 : 2 * S * (t + 1) = t * (2 * S) + 2 * S := by
        rw [Nat.mul_add, Nat.mul_one, Nat.mul_comm t]
      have a5 : (2 * s + 1) * (p * p) = 2 * (s * (p * p)) + p * p := by
        rw [Nat.add_mul, Nat.one_mul, Nat.mul_assoc]
      have a6 : 2 * (t * p) < t * t + p * p := by
        obtain ⟨d, hd⟩ : ∃ d, p = t + d := ⟨p - t, by omega⟩
        have hdd : 0 < d * d := Nat.mul_pos (by omega) (by omega)
        have b1 : t * p = t * t + t * d := by rw [hd, Nat.mul_add]
        have b2 : p * p = t * t + 2 * (t * d) + d * d := by rw [hd, wm_sq]
        omega
      omega
    rw [e4] at h2
    have h3 : r * (p * p) < (2 * s + 1) * (p * p) := by
      rw [Nat.mul_comm r]
      omega
    have := Nat.lt_of_mul_lt_mul_right h3
    omega
  · rw [e4, Nat.add_mul_div_left _ _ hpp, Nat.div_eq_of_lt htt, Nat.zero_add, Nat.add_sub_cancel_left]
