theorem wm_shl1 {o : Nat} (ho : o < 32) : (nI 1) <<< (nI o &&& 31) = nI (2 ^ o) := by
  have h : 2 ^ o ≤ 2 ^ 31 := Nat.pow_le_pow_right (by decide) (by omega)
  rw [pk_shlN (nI o &&& 31) o (wm_s_l o ho) (by omega), Nat.one_mul]
theorem wm_mask1 {x : Int32} {o : Nat} (ho : o < 32) : x &&& nI (2 ^ o - 1) = nI (wm_u x % 2 ^ o) := by
  have h : 2 ^ o ≤ 2 ^ 31 := Nat.pow_le_pow_right (by decide) (by omega)
  exact pk_and x o (pk_tn (by omega))
