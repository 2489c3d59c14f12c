/-! ===== a word of a quotient, guessed from the highest words ===== -/
/-- the guess: the quotient of the highest words, at most 2^32 - 1 -/
def wm_gs (U V : Nat) : Nat := if U / V < 4294967295 then U / V else 4294967295
theorem wm_gs_lt (U V : Nat) : wm_gs U V < 4294967296 := by
  unfold wm_gs
  split <;> omega
theorem wm_gs_mul {U V : Nat} : wm_gs U V * V ≤ U := by
  have h : wm_gs U V ≤ U / V := by
    unfold wm_gs
    split <;> omega
  exact Nat.le_trans (Nat.mul_le_mul_right V h) (Nat.div_mul_le_self U V)
theorem wm_gs_hi {U V : Nat} (hV : 0 < V) : U < (wm_gs U V + 1) * V ∨ wm_gs U V = 4294967295 := by
  unfold wm_gs
  split
  · exact Or.inl (by rw [← Nat.div_lt_iff_lt_mul hV]; omega)
  · exact Or.inr rfl
/-- what the guess is, from what the loop leaves behind -/
theorem wm_gs_of {U V w : Nat} (hV : 0 < V) (h1 : w * V ≤ U) (h2 : wm_gs U V ≤ w) (h3 : w < 4294967296) : w = wm_gs U V := by
  have h4 : w ≤ U / V := (Nat.le_div_iff_mul_le hV).mpr h1
  unfold wm_gs at h2 ⊢
  split at h2
  · rw [if_pos (by assumption)]; omega
  · rw [if_neg (by assumption)]; omega
/-- the guess is not much too great -/
theorem wm_knuth1 {u v U V S u' v' q : Nat} (hu : u = U * S + u') (hv : v = V * S + v') (hv' : v' < S) (hV : 4294967296 ≤ V) (hq : q < 4294967296) (h1 : q * V ≤ U) : q * v < u + v := by
  have a1 : q * v = q * V * S + q * v' := by rw [hv, Nat.mul_add, Nat.mul_assoc]
  have a2 : q * V * S ≤ U * S := Nat.mul_le_mul_right _ h1
  have a3 : q * v' ≤ q * S := Nat.mul_le_mul_left _ (Nat.le_of_lt hv')
  have a4 : q * S ≤ 4294967295 * S := Nat.mul_le_mul_right _ (by omega)
  have a5 : 4294967296 * S ≤ V * S := Nat.mul_le_mul_right _ hV
  omega
/-- nor too small -/
theorem wm_knuth2 {u v U V S u' v' q : Nat} (hu : u = U * S + u') (hu' : u' < S) (hv : v = V * S + v') (h2 : U < (q + 1) * V) : u < (q + 1) * v := by
  have a1 : (U + 1) * S ≤ (q + 1) * V * S := Nat.mul_le_mul_right _ h2
  have a2 : (q + 1) * V * S ≤ (q + 1) * v := by
    rw [Nat.mul_assoc]
    exact Nat.mul_le_mul_left _ (by omega)
  rw [Nat.add_mul, Nat.one_mul] at a1
  omega
/-! ===== how many bits a number has ===== -/
def wm_bl (n : Nat) : Nat := if n = 0 then 0 else n.log2 + 1
theorem wm_bl_0 : wm_bl 0 = 0 := rfl
theorem wm_bl_le {n k : Nat} : wm_bl n ≤ k ↔ n < 2 ^ k := by
  unfold wm_bl
  by_cases h : n = 0
  · rw [if_pos h, h]
    exact ⟨fun _ => Nat.pow_pos (by decide), fun _ => Nat.zero_le _⟩
  · rw [if_neg h, ← Nat.log2_lt h]
    exact Iff.rfl
theorem wm_bl_lt (n : Nat) : n < 2 ^ wm_bl n := wm_bl_le.mp (Nat.le_refl _)
theorem wm_bl_of {n b : Nat} (h1 : n < 2 ^ b) (h2 : b = 0 ∨ 2 ^ (b - 1) ≤ n) : wm_bl n = b := by
  have a : wm_bl n ≤ b := wm_bl_le.mpr h1
  rcases h2 with h2 | h2
  · omega
  · have c : ¬ wm_bl n ≤ b - 1 := fun z => Nat.not_lt.mpr h2 (wm_bl_le.mp z)
    omega
theorem wm_bl_ge {n : Nat} (h : 0 < n) : 2 ^ (wm_bl n - 1) ≤ n := by
  have hn : n ≠ 0 := by omega
  have e : wm_bl n = n.log2 + 1 := if_neg hn
  rw [e, Nat.add_sub_cancel]
  exact Nat.log2_self_le hn
theorem wm_bl_pos {n : Nat} (h : 0 < n) : 0 < wm_bl n := by
  have e : wm_bl n = n.log2 + 1 := if_neg (by omega)
  omega
/-- shifted left -/
theorem wm_bl_shl {n r k : Nat} (hn : 0 < n) (hr : r < 2 ^ k) : wm_bl (n * 2 ^ k + r) = wm_bl n + k := by
  have h1 := wm_bl_lt n
  have h2 := wm_bl_ge hn
  have h3 := wm_bl_pos hn
  apply wm_bl_of
  · rw [Nat.pow_add]
    have : (n + 1) * 2 ^ k ≤ 2 ^ wm_bl n * 2 ^ k := Nat.mul_le_mul_right _ h1
    rw [Nat.add_mul, Nat.one_mul] at this
    omega
  · refine Or.inr ?_
    have e : 2 ^ (wm_bl n + k - 1) = 2 ^ (wm_bl n - 1) * 2 ^ k := by
      rw [← Nat.pow_add]
      congr 1
      omega
    rw [e]
    have := Nat.mul_le_mul_right (2 ^ k) h2
    omega
theorem wm_bl_div {n k : Nat} (h : 2 ^ k ≤ n) : wm_bl n = wm_bl (n / 2 ^ k) + k := by
  have hp : 0 < 2 ^ k := Nat.pow_pos (by decide)
  have h0 : 0 < n / 2 ^ k := Nat.div_pos h hp
  have e := wm_bl_shl (k := k) h0 (Nat.mod_lt n hp)
  rw [Nat.mul_comm, Nat.add_comm, Nat.mod_add_div] at e
  exact e
theorem wm_p32 (k : Nat) : 4294967296 ^ k = 2 ^ (32 * k) := by rw [Nat.pow_mul]
theorem wm_bl_rep {f : Nat → Int32} {k N : Nat} (h : wm_rep f (k + 1) N) : wm_bl N = 32 * k + wm_bl (wm_u (f k)) := by
  obtain ⟨-, -, h3, h4⟩ := h
  have h5 : 0 < wm_u (f k) := wm_u_nz (h3 (by omega))
  have h6 := wm_v_lt f k
  rw [← h4, wm_v_s, wm_p32, Nat.add_comm, wm_bl_shl h5 (by rw [← wm_p32]; exact h6), Nat.add_comm]
/-! ===== the guess, step by step ===== -/
theorem wm_gu_le {w b o pair sec lo : Nat} (h : w * b + o = pair) : w * (b * 4294967296 + sec) ≤ pair * 4294967296 + lo ↔ w * sec ≤ o * 4294967296 + lo := by
  have e : w * (b * 4294967296 + sec) = w * b * 4294967296 + w * sec := by rw [Nat.mul_add, Nat.mul_assoc]
  rw [e, ← h, Nat.add_mul]
  omega
theorem wm_gu_big {w b o pair sec lo : Nat} (h : w * b + o = pair) (ho : 4294967296 ≤ o) (hw : w < 4294967296) (hs : sec < 4294967296) : w * (b * 4294967296 + sec) ≤ pair * 4294967296 + lo := by
  rw [wm_gu_le h]
  have h1 : w * sec ≤ 4294967295 * 4294967295 := Nat.mul_le_mul (by omega) (by omega)
  omega
theorem wm_gu_0 {b pair sec lo : Nat} (hb : 0 < b) (hl : lo < 4294967296) : wm_gs (pair * 4294967296 + lo) (b * 4294967296 + sec) ≤ pair / b := by
  rw [Nat.le_div_iff_mul_le hb]
  have h1 := wm_gs_mul (U := pair * 4294967296 + lo) (V := b * 4294967296 + sec)
  generalize wm_gs (pair * 4294967296 + lo) (b * 4294967296 + sec) = g at h1
  rw [Nat.mul_add, ← Nat.mul_assoc] at h1
  omega
theorem wm_gu_dec {U V w : Nat} (h : ¬ w * V ≤ U) : wm_gs U V + 1 ≤ w := by
  have h1 := wm_gs_mul (U := U) (V := V)
  rcases Nat.lt_or_ge (wm_gs U V) w with z | z
  · exact z
  · exact absurd (Nat.le_trans (Nat.mul_le_mul_right V z) h1) h
theorem wm_half {p b : Nat} (hb : 0 < b) : p / 2 / b * 2 * b ≤ p ∧ p - p / 2 / b * 2 * b < 2 * b ∧ p / b = p / 2 / b * 2 + (if b ≤ p - p / 2 / b * 2 * b then 1 else 0) := by
  have hb2 : 0 < 2 * b := by omega
  have e0 : p / 2 / b = p / (2 * b) := by rw [Nat.div_div_eq_div_mul]
  have e1 := Nat.mod_add_div p (2 * b)
  have e2 := Nat.mod_lt p hb2
  rw [e0]
  generalize p / (2 * b) = x at e1
  generalize p % (2 * b) = y at e1 e2
  have e3 : x * 2 * b = 2 * b * x := by rw [Nat.mul_comm (2 * b), Nat.mul_assoc]
  rw [e3]
  subst e1
  refine ⟨by omega, by omega, ?_⟩
  rw [Nat.add_sub_cancel]
  have e4 : (y + 2 * b * x) / b = y / b + x * 2 := by
    rw [Nat.mul_comm 2 b, Nat.mul_assoc, Nat.add_mul_div_left _ _ hb, Nat.mul_comm 2 x]
  rw [e4, Nat.add_comm]
  congr 1
  split
  · exact Nat.div_eq_of_lt_le (by omega) (by omega)
  · exact Nat.div_eq_of_lt (by omega)
/-! ===== long division, a step ===== -/
theorem wm_dv_step {L T v P q r : Nat} (hT : T = L * P + r) (hr : r < P) (hq : q * v ≤ L) (hq2 : L < (q + 1) * v) : T = q * v * P + ((L - q * v) * P + r) ∧ (L - q * v) * P + r < v * P := by
  obtain ⟨d, rfl⟩ : ∃ d, L = q * v + d := ⟨L - q * v, by omega⟩
  rw [Nat.add_sub_cancel_left]
  rw [Nat.add_mul, Nat.one_mul] at hq2
  have h1 : (d + 1) * P ≤ v * P := Nat.mul_le_mul_right _ (by omega)
  rw [Nat.add_mul, Nat.one_mul] at h1
  refine ⟨?_, by omega⟩
  rw [hT, Nat.add_mul]
  omega
theorem wm_nlz_fin {v w k : Nat} (hb : wm_bl v = wm_bl w + k) (h1 : 1 ≤ w) (h4 : w < 4) : 31 - k - w / 2 ^ 1 = 32 - wm_bl v := by
  have h : wm_bl w = 1 + w / 2 ^ 1 := by
    rcases (show w = 1 ∨ w = 2 ∨ w = 3 by omega) with z | z | z <;> subst z <;> decide
  omega
