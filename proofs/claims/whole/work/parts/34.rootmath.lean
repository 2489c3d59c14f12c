/-! ===== halves of rows of words ===== -/
def wm_hv (a b : Nat) : Nat := a % 2 * 2147483648 + b / 2
theorem wm_hv_lt {a b : Nat} (hb : b < 4294967296) : wm_hv a b < 4294967296 := by
  unfold wm_hv
  omega
theorem wm_or (x y : Int32) : wm_u (x ||| y) = wm_u x ||| wm_u y := by
  show (x ||| y).toBitVec.toNat = _
  rw [Int32.toBitVec_or, BitVec.toNat_or]
  rfl
theorem wm_halv (x y : Int32) : x <<< (nI 31 &&& 31) ||| nI (wm_u y / 2 ^ 1) = nI (wm_hv (wm_u x) (wm_u y)) := by
  apply wm_u_inj
  have h1 := wm_u_lt x
  have h2 := wm_u_lt y
  have e1 : wm_u (x <<< (nI 31 &&& 31)) = wm_u x % 2 * 2 ^ 31 := by
    have e : wm_u (x <<< (nI 31 &&& 31)) = wm_u x * 2 ^ 31 % 2 ^ 32 := pk_shl x (nI 31 &&& 31) 31 (by decide)
    rw [e]
    omega
  have e2 : wm_u x % 2 * 2 ^ 31 ||| wm_u y / 2 ^ 1 = wm_u x % 2 * 2 ^ 31 + wm_u y / 2 ^ 1 := by
    rw [← Nat.shiftLeft_eq, Nat.shiftLeft_add_eq_or_of_lt (by omega)]
  rw [wm_or, e1, wm_un' (by omega), wm_un' (wm_hv_lt h2), e2]
  rfl
/-- a word whose lowest bit is 0, and a bit -/
theorem wm_orbit {x : Int32} {b : Nat} (hx : wm_u x % 2 = 0) (hb : b < 2) : x ||| nI b = nI (wm_u x + b) := by
  apply wm_u_inj
  have h1 := wm_u_lt x
  have e2 : wm_u x ||| b = wm_u x + b := by
    have e : wm_u x = (wm_u x / 2) <<< 1 := by rw [Nat.shiftLeft_eq]; omega
    rw [e, Nat.shiftLeft_add_eq_or_of_lt (by omega)]
  rw [wm_or, wm_un' (by omega), wm_un' (by omega), e2]
/-- half of three words, where the highest is 0 or 1 -/
theorem wm_hv2 {a b c : Nat} (ha : a ≤ 1) (hb : b < 4294967296) (hc : c < 4294967296) : wm_hv a b * 4294967296 + wm_hv b c = ((a * 4294967296 + b) * 4294967296 + c) / 2 := by
  unfold wm_hv
  omega
theorem wm_hv3 {a b c d : Nat} (ha : a ≤ 1) (hb : b < 4294967296) (hc : c < 4294967296) (hd : d < 4294967296) : (wm_hv a b * 2 ^ 32 + wm_hv b c) * 4294967296 + wm_hv c d = (((a * 4294967296 + b) * 4294967296 + c) * 4294967296 + d) / 2 := by
  unfold wm_hv
  omega
theorem wm_v_4 (g : Nat → Int32) (c : Nat) : wm_v g (c + 4) = (((wm_u (g (c + 3)) * 4294967296 + wm_u (g (c + 2))) * 4294967296 + wm_u (g (c + 1))) * 4294967296 + wm_u (g c)) * 4294967296 ^ c + wm_v g c := by
  have e : wm_v g (c + 4) = wm_v g (c + 3) + wm_u (g (c + 3)) * 4294967296 ^ (c + 3) := rfl
  have e2 : 4294967296 ^ (c + 3) = 4294967296 * 4294967296 * 4294967296 * 4294967296 ^ c := by rw [Nat.pow_add, Nat.mul_comm]
  have e3 : ((wm_u (g (c + 3)) * 4294967296 + wm_u (g (c + 2))) * 4294967296 + wm_u (g (c + 1))) * 4294967296 + wm_u (g c) = wm_u (g (c + 3)) * (4294967296 * 4294967296 * 4294967296) + ((wm_u (g (c + 2)) * 4294967296 + wm_u (g (c + 1))) * 4294967296 + wm_u (g c)) := by omega
  rw [e, wm_v_3, e2, e3, Nat.add_mul (wm_u (g (c + 3)) * (4294967296 * 4294967296 * 4294967296)), Nat.mul_assoc (wm_u (g (c + 3)))]
  omega
/-- half of a row, and the highest words of it -/
theorem wm_half_top {T U S r : Nat} (h : T = U * S + r) (hr : r < S) : ∃ r', T / 2 = U / 2 * S + r' ∧ r' < S := by
  rcases Nat.mod_two_eq_zero_or_one U with z | z
  · obtain ⟨k, rfl⟩ : ∃ k, U = 2 * k := ⟨U / 2, by omega⟩
    refine ⟨r / 2, ?_, by omega⟩
    rw [h, show 2 * k / 2 = k by omega, Nat.mul_assoc]
    omega
  · obtain ⟨k, rfl⟩ : ∃ k, U = 2 * k + 1 := ⟨U / 2, by omega⟩
    refine ⟨(S + r) / 2, ?_, by omega⟩
    rw [h, show (2 * k + 1) / 2 = k by omega, Nat.add_mul, Nat.one_mul, Nat.mul_assoc]
    omega
theorem wm_top1 {f : Nat → Int32} {n : Nat} (h : wm_v f (n + 1) < 2 * 4294967296 ^ n) : wm_u (f n) ≤ 1 := by
  rw [wm_v_s] at h
  rcases Nat.lt_or_ge (wm_u (f n)) 2 with z | z
  · omega
  · have : 2 * 4294967296 ^ n ≤ wm_u (f n) * 4294967296 ^ n := Nat.mul_le_mul_right _ z
    omega
set_option maxRecDepth 100000 in
/-- the guess for a word of a root: e the doubled root (with a word 0 below it), T what is left -/
theorem wm_rg {t d : Nat → Int32} {K s g : Nat} (hD : wm_v d (K + 3) = 2 * (s * 4294967296)) (hs1 : 4294967296 ^ (K + 1) ≤ 2 * s) (hs2 : s < 4294967296 ^ (K + 1)) (hT : wm_v t (K + 4) < (2 * s + 1) * (4294967296 * 4294967296)) :
    2147483648 ≤ wm_hv (wm_u (d (K + 2))) (wm_u (d (K + 1))) ∧ wm_hv (wm_u (t (K + 3))) (wm_u (t (K + 2))) ≤ wm_hv (wm_u (d (K + 2))) (wm_u (d (K + 1))) ∧
    (g = wm_gs ((wm_hv (wm_u (t (K + 3))) (wm_u (t (K + 2))) * 2 ^ 32 + wm_hv (wm_u (t (K + 2))) (wm_u (t (K + 1)))) * 4294967296 + wm_hv (wm_u (t (K + 1))) (wm_u (t K))) (wm_hv (wm_u (d (K + 2))) (wm_u (d (K + 1))) * 4294967296 + wm_hv (wm_u (d (K + 1))) (wm_u (d K))) →
      g * (s * 4294967296) < wm_v t (K + 4) / 2 + s * 4294967296 ∧ wm_v t (K + 4) < (g + 1) * (2 * (s * 4294967296) + (g + 1))) := by
  have hp := wm_pp K
  have ep1 : 4294967296 ^ (K + 1) = 4294967296 * 4294967296 ^ K := by rw [Nat.pow_succ, Nat.mul_comm]
  have ep2 : 4294967296 ^ (K + 2) = 4294967296 * 4294967296 * 4294967296 ^ K := by rw [Nat.pow_add, Nat.mul_comm]
  have ep3 : 4294967296 ^ (K + 3) = 4294967296 * 4294967296 * 4294967296 * 4294967296 ^ K := by rw [Nat.pow_add, Nat.mul_comm]
  have hd1 : wm_u (d (K + 2)) ≤ 1 := wm_top1 (by rw [hD, ep2]; omega)
  have ht1 : wm_u (t (K + 3)) ≤ 1 := wm_top1 (n := K + 3) (by
    have : (2 * s + 1) * (4294967296 * 4294967296) ≤ 2 * 4294967296 ^ (K + 3) := by rw [ep3]; omega
    exact Nat.lt_of_lt_of_le hT this)
  have eT := wm_v_4 t K
  have eD := wm_v_3 d K
  have u0 := wm_u_lt (t K)
  have u1 := wm_u_lt (t (K + 1))
  have u2 := wm_u_lt (t (K + 2))
  have v0 := wm_u_lt (d K)
  have v1 := wm_u_lt (d (K + 1))
  have rT := wm_v_lt t K
  have rD := wm_v_lt d K
  obtain ⟨x, hx, hx2⟩ := wm_half_top eT rT
  obtain ⟨y, hy, hy2⟩ := wm_half_top eD rD
  rw [← wm_hv3 ht1 u2 u1 u0] at hx
  rw [← wm_hv2 hd1 v1 v0, hD, show 2 * (s * 4294967296) / 2 = s * 4294967296 by omega] at hy
  have hh0 : wm_hv (wm_u (t (K + 2))) (wm_u (t (K + 1))) < 4294967296 := wm_hv_lt u1
  have hh1 : wm_hv (wm_u (t (K + 1))) (wm_u (t K)) < 4294967296 := wm_hv_lt u0
  have hh2 : wm_hv (wm_u (d (K + 1))) (wm_u (d K)) < 4294967296 := wm_hv_lt v0
  generalize wm_hv (wm_u (t (K + 3))) (wm_u (t (K + 2))) = a1 at *
  generalize wm_hv (wm_u (t (K + 2))) (wm_u (t (K + 1))) = a2 at *
  generalize wm_hv (wm_u (t (K + 1))) (wm_u (t K)) = a3 at *
  generalize wm_hv (wm_u (d (K + 2))) (wm_u (d (K + 1))) = b1 at *
  generalize wm_hv (wm_u (d (K + 1))) (wm_u (d K)) = b2 at *
  generalize wm_v t (K + 4) = T at *
  generalize 4294967296 ^ K = S at *
  have hb1 : 2147483648 ≤ b1 := by
    rcases Nat.lt_or_ge b1 2147483648 with z | z
    · have h1 : (b1 * 4294967296 + b2) * S ≤ (2147483648 * 4294967296 - 1) * S := Nat.mul_le_mul_right _ (by omega)
      have h2 : (2147483648 * 4294967296 - 1) * S = 2147483648 * 4294967296 * S - S := by
        rw [Nat.sub_mul, Nat.one_mul]
      omega
    · exact z
  have hab : a1 ≤ b1 := by
    rcases Nat.lt_or_ge b1 a1 with z | z
    · obtain ⟨Y, hY⟩ : ∃ z, z = (b1 + 1) * S := ⟨_, rfl⟩
      have h1 : Y * (4294967296 * 4294967296) ≤ ((a1 * 2 ^ 32 + a2) * 4294967296 + a3) * S := by
        rw [hY, Nat.mul_right_comm]
        exact Nat.mul_le_mul_right _ (by omega)
      have h2 : (b1 * 4294967296 + b2) * S + S ≤ Y * 4294967296 := by
        have h0 : b1 * 4294967296 + b2 + 1 ≤ (b1 + 1) * 4294967296 := by
          rw [Nat.add_mul, Nat.one_mul, Nat.add_assoc]
          exact Nat.add_le_add_left hh2 _
        have h3 := Nat.mul_le_mul_right S h0
        rw [Nat.add_mul, Nat.one_mul, Nat.mul_right_comm] at h3
        rw [hY]
        exact h3
      omega
    · exact z
  refine ⟨hb1, hab, fun hg => ?_⟩
  have hV : 4294967296 ≤ b1 * 4294967296 + b2 := by omega
  have hq1 : g < 4294967296 := by rw [hg]; exact wm_gs_lt _ _
  have hq2 : g * (b1 * 4294967296 + b2) ≤ (a1 * 2 ^ 32 + a2) * 4294967296 + a3 := by rw [hg]; exact wm_gs_mul
  have hq3 := wm_gs_hi (U := (a1 * 2 ^ 32 + a2) * 4294967296 + a3) (V := b1 * 4294967296 + b2) (by omega)
  rw [← hg] at hq3
  refine ⟨wm_knuth1 hx hy hy2 hV hq1 hq2, ?_⟩
  have e9 : (g + 1) * (2 * (s * 4294967296) + (g + 1)) = 2 * ((g + 1) * (s * 4294967296)) + (g + 1) * (g + 1) := by
    rw [Nat.mul_add, Nat.mul_left_comm]
  rw [e9]
  rcases hq3 with h3 | h3
  · have h4 := wm_knuth2 hx hx2 hy h3
    omega
  · rw [h3]
    omega
