theorem lz_ge0 {z : Int} (h1 : -9223372036854775808 ≤ z) (h2 : z < 9223372036854775808) : 0 ≤ lg_cmp (lz_i z) (lN 0) ↔ 0 ≤ z := by
  rw [lg_cmp_ge, Int64.le_iff_toInt_le, lz_toInt h1 h2]
  have e : (lN 0).toInt = 0 := by decide
  rw [e]
theorem wm_v_set0 {d : Nat → Int32} {n : Nat} {x : Int32} (h : d 0 = 0) : wm_v (upd d 0 x) (n + 1) = wm_v d (n + 1) + wm_u x := by
  have e1 := wm_v_first (upd d 0 x) 0 n
  have e2 := wm_v_first d 0 n
  rw [wm_off_0] at e1 e2
  rw [e1, e2, pk_us, h, wm_u_0, wm_off_ge (by omega)]
  omega
theorem wm_v_01 (d : Nat → Int32) (n : Nat) : wm_v d (n + 2) = wm_u (d 0) + 4294967296 * (wm_u (d 1) + 4294967296 * wm_v (wm_off d 2) n) := by
  have a1 : wm_v d (n + 2) = wm_u (d 0) + 4294967296 * wm_v (wm_off d 1) (n + 1) := by
    have := wm_v_first d 0 (n + 1)
    rw [wm_off_0] at this
    exact this
  have a2 : wm_v (wm_off d 1) (n + 1) = wm_u (d 1) + 4294967296 * wm_v (wm_off d 2) n := wm_v_first d 1 n
  rw [a1, a2]
theorem wm_v_set01 {d : Nat → Int32} {n : Nat} {x y : Int32} (h : d 0 = 0) : wm_v (upd (upd d 0 x) 1 y) (n + 2) + wm_u (d 1) * 4294967296 = wm_v d (n + 2) + wm_u x + wm_u y * 4294967296 := by
  have e : wm_v (wm_off (upd (upd d 0 x) 1 y) 2) n = wm_v (wm_off d 2) n := by rw [wm_off_ge (by omega), wm_off_ge (by omega)]
  rw [wm_v_01, wm_v_01 d, e, pk_us, pk_un (by decide), pk_us, h, wm_u_0]
  omega
theorem wm_even0 {d : Nat → Int32} {n x : Nat} (h : wm_v d (n + 2) = 2 * (x * 4294967296)) : d 0 = 0 ∧ wm_u (d 1) % 2 = 0 := by
  have h0 := wm_dig (f := d) (k := 0) (n := n + 2) (by omega)
  have h1 := wm_dig (f := d) (k := 1) (n := n + 2) (by omega)
  rw [h, Nat.pow_zero, Nat.div_one] at h0
  rw [h, Nat.pow_one] at h1
  exact ⟨wm_u_z.mp (by omega), by omega⟩
/-- what is left, with a sign, is below 0 as it should be -/
theorem wm_sg {tp : Int} {P X T Q : Nat} (hI : tp * (P : Int) + (X : Int) = (T : Int) - (Q : Int)) (hX : X < P) : (tp < 0 → T < Q) ∧ (0 ≤ tp → Q ≤ T) := by
  constructor
  · intro h
    have h1 : tp * (P : Int) ≤ -1 * (P : Int) := Int.mul_le_mul_of_nonneg_right (by omega) (by omega)
    omega
  · intro h
    have h1 : 0 ≤ tp * (P : Int) := Int.mul_nonneg h (by omega)
    omega
theorem wm_sg0 {tp : Int} {P X T Q : Nat} (hI : tp * (P : Int) + (X : Int) = (T : Int) - (Q : Int)) (h : 0 ≤ tp) (hT : T < Q + P) : tp = 0 ∧ X + Q = T := by
  have e : tp = 0 := by
    rcases Int.lt_or_le tp 1 with z | z
    · omega
    · have h1 : 1 * (P : Int) ≤ tp * (P : Int) := Int.mul_le_mul_of_nonneg_right z (by omega)
      omega
  refine ⟨e, ?_⟩
  rw [e, Int.zero_mul] at hI
  omega
theorem wm_sg_start {P X Y h b T Q : Nat} (hS : X + Q = Y + b * P) (hT : T = Y + h * P) : ((h : Int) - (b : Int)) * (P : Int) + (X : Int) = (T : Int) - (Q : Int) := by
  rw [Int.sub_mul]
  have e1 : ((h : Int)) * (P : Int) = ((h * P : Nat) : Int) := by simp
  have e2 : ((b : Int)) * (P : Int) = ((b * P : Nat) : Int) := by simp
  rw [e1, e2]
  omega
theorem wm_sg_step {tp : Int} {P X X2 c w D T : Nat} (hI : tp * (P : Int) + (X : Int) = (T : Int) - (((w + 1) * (D + (w + 1)) : Nat) : Int)) (hS : X2 + c * P = X + D + (2 * w + 1)) : (tp + (c : Int)) * (P : Int) + (X2 : Int) = (T : Int) - ((w * (D + w) : Nat) : Int) := by
  have e3 : (w + 1) * (D + (w + 1)) = w * (D + w) + D + 2 * w + 1 := by
    rw [Nat.add_mul, Nat.one_mul, Nat.mul_add, Nat.mul_add, Nat.mul_add, Nat.mul_one]
    omega
  rw [e3] at hI
  rw [Int.add_mul]
  have e2 : ((c : Int)) * (P : Int) = ((c * P : Nat) : Int) := by simp
  rw [e2]
  omega
theorem wm_rt_b {K s w : Nat} (hs : s < 4294967296 ^ (K + 1)) (hw : w < 4294967296) : (w + 1) * (2 * (s * 4294967296) + (w + 1)) ≤ w * (2 * (s * 4294967296) + w) + 4294967296 ^ (K + 3) := by
  have hp := wm_pp K
  have e3 : (w + 1) * (2 * (s * 4294967296) + (w + 1)) = w * (2 * (s * 4294967296) + w) + 2 * (s * 4294967296) + 2 * w + 1 := by
    rw [Nat.add_mul, Nat.one_mul, Nat.mul_add, Nat.mul_add, Nat.mul_add, Nat.mul_one]
    omega
  have ep1 : 4294967296 ^ (K + 1) = 4294967296 * 4294967296 ^ K := by rw [Nat.pow_succ, Nat.mul_comm]
  have ep3 : 4294967296 ^ (K + 3) = 4294967296 * 4294967296 * 4294967296 * 4294967296 ^ K := by rw [Nat.pow_add, Nat.mul_comm]
  rw [e3, ep3]
  rw [ep1] at hs
  omega
