theorem wm_dbl {w : Nat} (hw : w < 4294967296) : (0 + w / 2 ^ 31) % 4294967296 * 4294967296 + w * 2 ^ 1 % 4294967296 = 2 * w := by omega
/-- the first word of a root, out of the highest pair -/
theorem wm_J_first {A c w : Nat} {fl fd : Nat → Int32} {n : Nat} (hr : wm_rep fl n A) (hA : A < 4294967296 ^ (2 * (c + 1))) (hA2 : 4294967296 ^ (2 * (c + 1)) ≤ 4 * A) (hz : ∀ k, k < 2050 → fd k = 0) (hc : 2 * c + 1 < 2050)
    (h1 : w * w ≤ wm_u (fl (2 * c + 1)) * 4294967296 + wm_u (fl (2 * c))) (h2 : wm_u (fl (2 * c + 1)) * 4294967296 + wm_u (fl (2 * c)) < (w + 1) * (w + 1)) (hw : w < 4294967296) :
    wm_J A (c + 1) c w (upd (upd fl (2 * c) (nI (wm_u (fl (2 * c + 1)) * 4294967296 + wm_u (fl (2 * c)) - w * w))) (2 * c + 1) (nI ((wm_u (fl (2 * c + 1)) * 4294967296 + wm_u (fl (2 * c)) - w * w) / 4294967296))) (upd (upd fd c (nI (w * 2 ^ 1))) (c + 1) (nI (wm_u (fd (c + 1)) + w / 2 ^ 31))) := by
  have hn : n ≤ 2 * (c + 1) := wm_rep_le hr hA
  have e0 : wm_v fl (2 * c + 2) = A := wm_rep_v hr (by omega) (by omega)
  rw [wm_v_2] at e0
  have hlow := wm_v_lt fl (2 * c)
  have hp := wm_pp (2 * c)
  have u1 := wm_u_lt (fl (2 * c + 1))
  have u0 := wm_u_lt (fl (2 * c))
  generalize hpr : wm_u (fl (2 * c + 1)) * 4294967296 + wm_u (fl (2 * c)) = pr at *
  have e9 : (w + 1) * (w + 1) = w * w + 2 * w + 1 := by rw [Nat.add_mul, Nat.one_mul, Nat.mul_add, Nat.mul_one]; omega
  rw [e9] at h2
  have hov : pr - w * w ≤ 2 * w := by omega
  obtain ⟨ov, hovd⟩ : ∃ z, z = pr - w * w := ⟨_, rfl⟩
  rw [← hovd] at hov ⊢
  have hzero : ∀ k, 2 * c + 2 ≤ k → k < 2050 → fl k = 0 := fun k k1 k2 => hr.2.1 k (by omega) k2
  have f1 : wm_v (upd (upd fl (2 * c) (nI ov)) (2 * c + 1) (nI (ov / 4294967296))) 2050 = ov * 4294967296 ^ (2 * c) + wm_v fl (2 * c) := by
    rw [wm_v_z' (m := 2 * c + 2) (by omega) (fun k k1 k2 => by rw [pk_un (by omega), pk_un (by omega)]; exact hzero k k1 k2), wm_v_2, pk_us, pk_un (by omega), pk_us, wm_v_upd (by omega), wm_v_upd (by omega)]
    rw [Nat.add_comm (wm_u (nI (ov / 4294967296)) * 4294967296), wm_c64 (p := ov) (by omega)]
  have z1 : fd (c + 1) = 0 := hz (c + 1) (by omega)
  have f2 : wm_v (upd (upd fd c (nI (w * 2 ^ 1))) (c + 1) (nI (wm_u (fd (c + 1)) + w / 2 ^ 31))) 2050 = 2 * w * 4294967296 ^ c := by
    rw [wm_v_z' (m := c + 2) (by omega) (fun k k1 k2 => by rw [pk_un (by omega), pk_un (by omega)]; exact hz k k2), wm_v_2, pk_us, pk_un (by omega), pk_us, wm_v_upd (by omega), wm_v_upd (by omega), z1, wm_u_0, wm_un, wm_un]
    have e : wm_v fd c = 0 := by
      have := wm_v_z (f := fd) (m := 0) c (fun k _ k2 => hz k (by omega))
      rw [Nat.zero_add] at this
      exact this
    have e8 : (0 + w / 2 ^ 31) % 4294967296 * 4294967296 + w * 2 ^ 1 % 4294967296 = 2 * w := wm_dbl hw
    rw [e, Nat.add_zero, e8]
  refine ⟨?_, ?_, f2, ?_, ?_⟩
  · rw [f1, ← Nat.add_assoc, ← Nat.add_mul, show w * w + ov = pr by omega]
    exact e0
  · have e6 : (ov + 1) * 4294967296 ^ (2 * c) ≤ (2 * w + 1) * 4294967296 ^ (2 * c) := Nat.mul_le_mul_right _ (by omega)
    rw [Nat.add_mul, Nat.one_mul] at e6
    rw [f1]
    omega
  · rw [show c + 1 - c = 1 by omega, Nat.pow_one]
    have e7 : 4294967296 ^ (2 * (c + 1)) = 4294967296 * 4294967296 * 4294967296 ^ (2 * c) := by rw [show 2 * (c + 1) = 2 * c + 2 by omega, Nat.pow_add, Nat.mul_comm]
    rw [e7, ← e0] at hA2
    have hpr4 : 4294967296 * 4294967296 ≤ 4 * pr + 3 := by
      rcases Nat.lt_or_ge (4 * pr + 3) (4294967296 * 4294967296) with z | z
      · have h8 : (4 * pr + 4) * 4294967296 ^ (2 * c) ≤ 4294967296 * 4294967296 * 4294967296 ^ (2 * c) := Nat.mul_le_mul_right _ (by omega)
        rw [Nat.add_mul, Nat.mul_assoc 4] at h8
        omega
      · exact z
    rcases Nat.lt_or_ge (2 * w) 4294967296 with z | z
    · have h9 : w * w ≤ 2147483647 * w := Nat.mul_le_mul_right _ (by omega)
      omega
    · exact z
  · rw [show c + 1 - c = 1 by omega, Nat.pow_one]
    exact hw
theorem nv_sub2 {c : Nat} : nI (c + 1) - nI 2 = nI c + (-1) := by
  rw [← nI_1, Int32.sub_eq_add_neg, Int32.add_assoc]
  congr 1
theorem wm_low1 {d : Nat → Int32} {S : Nat} (h : wm_v d 2050 = 2 * S) : wm_hv (wm_u (d 1)) (wm_u (d 0)) = S % 4294967296 := by
  have h0 := wm_dig (f := d) (k := 0) (n := 2050) (by omega)
  have h1 := wm_dig (f := d) (k := 1) (n := 2050) (by omega)
  rw [h, Nat.pow_zero, Nat.div_one] at h0
  rw [h, Nat.pow_one] at h1
  unfold wm_hv
  omega
