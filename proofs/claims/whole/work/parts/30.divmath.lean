theorem wm_v_2 (g : Nat → Int32) (c : Nat) : wm_v g (c + 2) = (wm_u (g (c + 1)) * 4294967296 + wm_u (g c)) * 4294967296 ^ c + wm_v g c := by
  have e : wm_v g (c + 2) = wm_v g c + wm_u (g c) * 4294967296 ^ c + wm_u (g (c + 1)) * 4294967296 ^ (c + 1) := rfl
  rw [e, Nat.pow_succ, Nat.add_mul, Nat.mul_comm (4294967296 ^ c), Nat.mul_assoc]
  omega
theorem wm_v_3 (g : Nat → Int32) (c : Nat) : wm_v g (c + 3) = ((wm_u (g (c + 2)) * 4294967296 + wm_u (g (c + 1))) * 4294967296 + wm_u (g c)) * 4294967296 ^ c + wm_v g c := by
  have e : wm_v g (c + 3) = wm_v g (c + 2) + wm_u (g (c + 2)) * 4294967296 ^ (c + 2) := rfl
  have e2 : 4294967296 ^ (c + 2) = 4294967296 * 4294967296 * 4294967296 ^ c := by rw [Nat.pow_add, Nat.mul_comm]
  rw [e, wm_v_2, e2, Nat.add_mul _ (wm_u (g c)), Nat.add_mul _ (wm_u (g c)), Nat.add_mul (wm_u (g (c + 2)) * 4294967296), Nat.add_mul, ← Nat.mul_assoc (wm_u (g (c + 2))), ← Nat.mul_assoc (wm_u (g (c + 2)))]
  omega
theorem wm_nw_top {g dv : Nat → Int32} {c : Nat} (hlt : wm_v g (c + 2) < wm_v dv (c + 1) * 4294967296) : wm_u (g (c + 1)) ≤ wm_u (dv c) := by
  have h1 : wm_u (g (c + 1)) * 4294967296 ^ (c + 1) ≤ wm_v g (c + 2) := by
    have e : wm_v g (c + 2) = wm_v g (c + 1) + wm_u (g (c + 1)) * 4294967296 ^ (c + 1) := rfl
    omega
  have h2 : wm_v dv (c + 1) < (wm_u (dv c) + 1) * 4294967296 ^ c := by
    have := wm_v_lt dv c
    rw [wm_v_s, Nat.add_mul, Nat.one_mul]
    omega
  have h3 : wm_v dv (c + 1) * 4294967296 < (wm_u (dv c) + 1) * 4294967296 ^ c * 4294967296 := by omega
  rw [Nat.mul_assoc, ← Nat.pow_succ] at h3
  have h4 := Nat.lt_of_mul_lt_mul_right (Nat.lt_of_le_of_lt h1 (Nat.lt_trans hlt h3))
  omega
theorem wm_nw2 {g dv : Nat → Int32} {c q : Nat} (ht : 2147483648 ≤ wm_u (dv (c + 1))) (hlt : wm_v g (c + 3) < wm_v dv (c + 2) * 4294967296) (hq : q = wm_gs ((wm_u (g (c + 2)) * 2 ^ 32 + wm_u (g (c + 1))) * 4294967296 + wm_u (g c)) (wm_u (dv (c + 1)) * 4294967296 + wm_u (dv c))) : q * wm_v dv (c + 2) < wm_v g (c + 3) + wm_v dv (c + 2) ∧ wm_v g (c + 3) < (q + 1) * wm_v dv (c + 2) := by
  have hu := wm_v_3 g c
  have hv := wm_v_2 dv c
  have b1 := wm_v_lt g c
  have b2 := wm_v_lt dv c
  have hV : 4294967296 ≤ wm_u (dv (c + 1)) * 4294967296 + wm_u (dv c) := by omega
  have hq1 : q < 4294967296 := by rw [hq]; exact wm_gs_lt _ _
  have hq2 : q * (wm_u (dv (c + 1)) * 4294967296 + wm_u (dv c)) ≤ (wm_u (g (c + 2)) * 4294967296 + wm_u (g (c + 1))) * 4294967296 + wm_u (g c) := by rw [hq]; exact wm_gs_mul
  refine ⟨wm_knuth1 hu hv b2 hV hq1 hq2, ?_⟩
  have h3 := wm_gs_hi (U := (wm_u (g (c + 2)) * 2 ^ 32 + wm_u (g (c + 1))) * 4294967296 + wm_u (g c)) (V := wm_u (dv (c + 1)) * 4294967296 + wm_u (dv c)) (by omega)
  rw [← hq] at h3
  rcases h3 with h3 | h3
  · exact wm_knuth2 hu b1 hv h3
  · rw [h3, Nat.mul_comm]
    exact hlt
theorem wm_nw1 {g dv : Nat → Int32} {q : Nat} (ht : 2147483648 ≤ wm_u (dv 0)) (hlt : wm_v g 2 < wm_v dv 1 * 4294967296) (hq : q = wm_gs ((wm_u (g 1) * 2 ^ 32 + wm_u (g 0)) * 4294967296 + wm_u (nI 0)) (wm_u (dv 0) * 4294967296 + wm_u (nI 0))) : q * wm_v dv 1 < wm_v g 2 + wm_v dv 1 ∧ wm_v g 2 < (q + 1) * wm_v dv 1 := by
  have z : wm_u (nI 0) = 0 := by decide
  have hu : wm_v g 2 = wm_u (g 1) * 4294967296 + wm_u (g 0) := by rw [wm_v_2 g 0, wm_v_0, Nat.pow_zero, Nat.mul_one, Nat.add_zero]
  have hv : wm_v dv 1 = wm_u (dv 0) := by rw [wm_v_s, wm_v_0, Nat.pow_zero, Nat.mul_one, Nat.zero_add]
  rw [z, Nat.add_zero, Nat.add_zero] at hq
  have h1 : q * (wm_u (dv 0) * 4294967296) ≤ (wm_u (g 1) * 2 ^ 32 + wm_u (g 0)) * 4294967296 := by rw [hq]; exact wm_gs_mul
  have h3 := wm_gs_hi (U := (wm_u (g 1) * 2 ^ 32 + wm_u (g 0)) * 4294967296) (V := wm_u (dv 0) * 4294967296) (by omega)
  rw [← hq] at h3
  rw [hu, hv] at hlt ⊢
  have h4 : q * wm_u (dv 0) ≤ wm_u (g 1) * 4294967296 + wm_u (g 0) := Nat.le_of_mul_le_mul_right (c := 4294967296) (by rw [Nat.mul_assoc]; exact h1) (by decide)
  refine ⟨by omega, ?_⟩
  rcases h3 with h3 | h3
  · exact Nat.lt_of_mul_lt_mul_right (a := 4294967296) (by rw [Nat.mul_assoc]; exact h3)
  · rw [h3]
    omega
theorem wm_du {h b P X Z : Nat} (hX : X < P) (hZ : Z < P) (e : h * P + X = b * P + Z) : h = b ∧ X = Z := by
  rcases Nat.lt_trichotomy h b with z | z | z
  · have : (h + 1) * P ≤ b * P := Nat.mul_le_mul_right _ z
    rw [Nat.add_mul, Nat.one_mul] at this
    omega
  · subst z
    omega
  · have : (b + 1) * P ≤ h * P := Nat.mul_le_mul_right _ z
    rw [Nat.add_mul, Nat.one_mul] at this
    omega
theorem wm_nw_a {X P q Y b h T : Nat} (hX : X < P) (hS : X + q = Y + b * P) (hT : T = Y + h * P) (hq : q ≤ T) (hlt : T < q + P) : b = h ∧ X + q = T := by
  obtain ⟨e1, e2⟩ := wm_du (h := h) (b := b) (P := P) (X := X) (Z := T - q) hX (by omega) (by omega)
  omega
theorem wm_nw_b {X P q Y b h T : Nat} (hX : X < P) (hS : X + q = Y + b * P) (hT : T = Y + h * P) (hq : T < q) (hlt : q < T + P) : b = h + 1 ∧ X + q = T + P := by
  rcases Nat.lt_or_ge (X + q - T) P with z | z
  · obtain ⟨e1, e2⟩ := wm_du (h := h) (b := b) (P := P) (X := X + q - T) (Z := 0) z (by omega) (by omega)
    omega
  · have e3 : (h + 1) * P = h * P + P := by rw [Nat.add_mul, Nat.one_mul]
    obtain ⟨e1, e2⟩ := wm_du (h := h + 1) (b := b) (P := P) (X := X + q - T - P) (Z := 0) (by omega) (by omega) (by omega)
    omega
theorem wm_nw_c {X X2 P c v T Q : Nat} (hX2 : X2 < P) (hS : X2 + c * P = X + v) (hX : X + (Q + v) = T + P) (hq : T < Q + v) (k1 : Q + v < T + v) (hv : v < P) : c = 1 ∧ X2 + Q = T := by
  obtain ⟨e1, e2⟩ := wm_du (h := c) (b := 1) (P := P) (X := X2) (Z := T - Q) hX2 (by omega) (by omega)
  exact ⟨e1, by omega⟩
