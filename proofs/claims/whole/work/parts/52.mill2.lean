theorem sp_big {A p : Nat} {E : Nat} (h1 : 2 ^ 65472 ≤ E) (h2 : E ≤ A) : sp_L ≤ A * 18446744073709551616 + p := by
  have h3 : 2 ^ 65472 * 18446744073709551616 ≤ A * 18446744073709551616 := Nat.mul_le_mul_right _ (Nat.le_trans h1 h2)
  have e1 : (2 : Nat) ^ 65536 = 2 ^ (65472 + 64) := congrArg (fun n => 2 ^ n) (by decide)
  have e : sp_L = 2 ^ 65472 * 18446744073709551616 := by
    unfold sp_L
    rw [e1, Nat.pow_add]
  rw [e]
  exact Nat.le_trans h3 (Nat.le_add_right _ _)
theorem wm_prod_fit {f g : Nat → Int32} {n m A B : Nat} (h1 : wm_rep f n A) (h2 : wm_rep g m B) (h : wm_bl A + wm_bl B ≤ 65537) (l1 : n ≤ 2048) (l2 : m ≤ 2048) : n + m ≤ 2049 := by
  rcases Nat.eq_zero_or_pos n with z | z
  · omega
  · rcases Nat.eq_zero_or_pos m with y | y
    · omega
    · obtain ⟨n', rfl⟩ : ∃ k, n = k + 1 := ⟨n - 1, by omega⟩
      obtain ⟨m', rfl⟩ : ∃ k, m = k + 1 := ⟨m - 1, by omega⟩
      have a1 := wm_bl_words h1
      have a2 := wm_bl_words h2
      omega
theorem wm_prod_big {A B : Nat} (b1 : wm_bl A ≤ 65536) (b2 : wm_bl B ≤ 65536) (h : 65537 < wm_bl A + wm_bl B) : sp_L ≤ A * B := by
  have hA : 0 < A := by
    rcases Nat.eq_zero_or_pos A with z | z
    · rw [z, wm_bl_0] at h; omega
    · exact z
  have hB : 0 < B := by
    rcases Nat.eq_zero_or_pos B with z | z
    · rw [z, wm_bl_0] at h; omega
    · exact z
  have h1 := Nat.mul_le_mul (wm_bl_ge hA) (wm_bl_ge hB)
  rw [← Nat.pow_add] at h1
  have h2 : 2 ^ 65536 ≤ 2 ^ (wm_bl A - 1 + (wm_bl B - 1)) := Nat.pow_le_pow_right (by decide) (by omega)
  exact Nat.le_trans h2 h1
theorem wm_R_up2 {N Mx : Nat → Nat} {ln : Nat → Nat} {wd : Nat → Nat → Int32} {d e X Y : Nat} (h : wm_ok (va_up (va_up Mx d X) e Y) ln wd) (he : ∀ j, j < 16 → Mx j = N j) (hL : ∀ j, j < 16 → N j < sp_L) (hX : X < sp_L) (hY : Y < sp_L) : wm_R (va_up (va_up N d X) e Y) ln wd := by
  refine wm_R_up h (fun j hj => ?_) (fun j hj => ?_) hY
  · by_cases e : j = d
    · rw [e, va_up_self, va_up_self]
    · rw [va_up_ne _ _ e, va_up_ne _ _ e]; exact he j hj
  · by_cases e : j = d
    · rw [e, va_up_self]; exact hX
    · rw [va_up_ne _ _ e]; exact hL j hj
