theorem nv_max0' {a b : Nat} (ha : a < 2 ^ 29) (hb : b < 2 ^ 29) : (if nI 0 < nI a - nI b + nI 1 then nI a - nI b + nI 1 else nI 0) = nI (a + 1 - b) := by
  have e : nI a - nI b + nI 1 = nI (a + 1) - nI b := by
    rw [← nI_add, Int32.sub_eq_add_neg, Int32.sub_eq_add_neg, Int32.add_assoc, Int32.add_comm (-nI b), Int32.add_assoc]
  rw [e]
  exact nv_max0 (by omega) (by omega)
theorem wm_comm {α : Type} (f : Nat → α) {i j : Nat} (h : i ≠ j) (v w : α) : va_up (va_up f i v) j w = va_up (va_up f j w) i v := by
  funext k
  by_cases e1 : k = i
  · subst e1
    rw [va_up_ne _ _ h, va_up_self, va_up_self]
  · by_cases e2 : k = j
    · subst e2
      rw [va_up_self, va_up_ne _ _ e1, va_up_self]
    · rw [va_up_ne _ _ e2, va_up_ne _ _ e1, va_up_ne _ _ e1, va_up_ne _ _ e2]
theorem wm_v_zero {f : Nat → Int32} {n : Nat} (h : wm_v f n = 0) : ∀ k, k < n → f k = 0 := by
  intro k hk
  have h1 := wm_dig (f := f) hk
  rw [h, Nat.zero_div] at h1
  exact wm_u_z.mp h1.symm
theorem wm_small {f : Nat → Int32} {n m : Nat} (h : wm_v f n < 4294967296 ^ m) (hm : m ≤ n) : wm_v f n = wm_v f m ∧ ∀ k, m ≤ k → k < n → f k = 0 := by
  obtain ⟨d, rfl⟩ : ∃ d, n = m + d := ⟨n - m, by omega⟩
  have e := wm_v_off f m d
  have h2 : wm_v (wm_off f m) d = 0 := by
    rcases Nat.eq_zero_or_pos (wm_v (wm_off f m) d) with z | z
    · exact z
    · have h3 : 4294967296 ^ m * 1 ≤ 4294967296 ^ m * wm_v (wm_off f m) d := Nat.mul_le_mul_left _ z
      omega
  rw [h2, Nat.mul_zero, Nat.add_zero] at e
  refine ⟨e, fun k h3 h4 => ?_⟩
  have h5 := wm_v_zero h2 (k - m) (by omega)
  have h6 : wm_off f m (k - m) = f k := by
    show f (m + (k - m)) = f k
    rw [Nat.add_sub_cancel' h3]
  rw [← h6, h5]
theorem wm_v_first (f : Nat → Int32) (y n : Nat) : wm_v (wm_off f y) (n + 1) = wm_u (f y) + 4294967296 * wm_v (wm_off f (y + 1)) n := by
  have e := wm_v_off (wm_off f y) 1 n
  rw [show n + 1 = 1 + n by omega, e, wm_v_s, wm_v_0, Nat.pow_zero, Nat.mul_one, Nat.zero_add, Nat.pow_one]
  have e2 : wm_off (wm_off f y) 1 = wm_off f (y + 1) := by
    funext k
    show f (y + (1 + k)) = f (y + 1 + k)
    rw [Nat.add_assoc]
  rw [e2]
  rfl
theorem wm_off_ge {f : Nat → Int32} {y z n : Nat} {x : Int32} (h : z < y) : wm_v (wm_off (upd f z x) y) n = wm_v (wm_off f y) n := wm_v_congr (fun k hk => by
  show upd f z x (y + k) = f (y + k)
  rw [pk_un (by omega)])
/-- the divisor shifted so that its highest bit is that of a word -/
theorem wm_norm {f : Nat → Int32} {n N : Nat} (h : wm_rep f (n + 1) N) : N * 2 ^ (32 * (n + 1) - wm_bl N) < 4294967296 ^ (n + 1) ∧ 2147483648 * 4294967296 ^ n ≤ N * 2 ^ (32 * (n + 1) - wm_bl N) ∧ 4294967296 ^ n * 2 ^ (32 * (n + 1) - wm_bl N) ≤ N * 2 ^ (32 * (n + 1) - wm_bl N) ∧ 32 * (n + 1) - wm_bl N < 32 := by
  have hN : 4294967296 ^ n ≤ N := wm_rep_ge h
  have hp := wm_pp n
  have hlt : N < 4294967296 ^ (n + 1) := wm_rep_lt h
  have hb1 : wm_bl N ≤ 32 * (n + 1) := wm_bl_le.mpr (by rw [← wm_p32]; exact hlt)
  have hb2 : 32 * n < wm_bl N := by
    rcases Nat.lt_or_ge (32 * n) (wm_bl N) with z | z
    · exact z
    · have := wm_bl_le.mp z
      rw [← wm_p32] at this
      omega
  obtain ⟨d, hd⟩ : ∃ d, 32 * (n + 1) = wm_bl N + d := ⟨32 * (n + 1) - wm_bl N, by omega⟩
  rw [hd, Nat.add_sub_cancel_left]
  have h1 := wm_bl_lt N
  have h2 := wm_bl_ge (show 0 < N by omega)
  refine ⟨?_, ?_, Nat.mul_le_mul_right _ hN, by omega⟩
  · rw [wm_p32, hd, Nat.pow_add]
    exact Nat.mul_lt_mul_of_pos_right h1 (Nat.pow_pos (by decide))
  · have e : 2147483648 * 4294967296 ^ n = 2 ^ (wm_bl N - 1) * 2 ^ d := by
      rw [wm_p32, show (2147483648 : Nat) = 2 ^ 31 by decide, ← Nat.pow_add, ← Nat.pow_add]
      congr 1
      omega
    rw [e]
    exact Nat.mul_le_mul_right _ h2
theorem wm_topword {f : Nat → Int32} {k n v : Nat} (h : wm_rep f k v) (h1 : v < 4294967296 ^ (n + 1)) (h2 : 2147483648 * 4294967296 ^ n ≤ v) (hn : n < 2050) : 2147483648 ≤ wm_u (f n) := by
  rw [wm_rep_dig h hn, Nat.mod_eq_of_lt (by rw [Nat.div_lt_iff_lt_mul (wm_pp n), Nat.mul_comm, ← Nat.pow_succ]; exact h1), Nat.le_div_iff_mul_le (wm_pp n)]
  exact h2
/-- a step of the long division, over the whole row -/
theorem wm_fd_step {fl f fq : Nat → Int32} {y cnt v q pl A : Nat} (hv : v < 4294967296 ^ cnt) (hfit : y + cnt < 2050)
    (hA : wm_v (wm_off fq (y + 1)) (pl - (y + 1)) * v * 4294967296 ^ (y + 1) + wm_v fl 2050 = A) (hlt : wm_v fl 2050 < v * 4294967296 ^ (y + 1))
    (h1 : wm_v (wm_off f y) (cnt + 1) + q * v = wm_v (wm_off fl y) (cnt + 1)) (h2 : wm_v (wm_off fl y) (cnt + 1) < (q + 1) * v) (hf : ∀ k, (k < y ∨ y + cnt < k) → f k = fl k) (hq : q < 4294967296) (hy : y < pl) :
    wm_v (wm_off (upd fq y (nI q)) y) (pl - y) * v * 4294967296 ^ y + wm_v f 2050 = A ∧ wm_v f 2050 < v * 4294967296 ^ y := by
  have hp := wm_pp y
  have b1 : wm_v fl 2050 < 4294967296 ^ (y + (cnt + 1)) := by
    have : v * 4294967296 ^ (y + 1) ≤ 4294967296 ^ cnt * 4294967296 ^ (y + 1) := Nat.mul_le_mul_right _ (Nat.le_of_lt hv)
    rw [← Nat.pow_add, show cnt + (y + 1) = y + (cnt + 1) by omega] at this
    omega
  obtain ⟨e1, z1⟩ := wm_small b1 (by omega)
  have e2 : wm_v f 2050 = wm_v f (y + (cnt + 1)) := wm_v_z' (by omega) (fun k h3 h4 => by rw [hf k (Or.inr (by omega))]; exact z1 k h3 h4)
  have e3 : wm_v f y = wm_v fl y := wm_v_congr (fun k hk => hf k (Or.inl hk))
  rw [wm_v_off] at e1 e2
  obtain ⟨s1, s2⟩ := wm_dv_step (L := wm_v (wm_off fl y) (cnt + 1)) (T := wm_v fl 2050) (v := v) (P := 4294967296 ^ y) (q := q) (r := wm_v fl y) (by rw [e1, Nat.mul_comm, Nat.add_comm]) (wm_v_lt fl y) (by omega) h2
  have e4 : wm_v f 2050 = (wm_v (wm_off fl y) (cnt + 1) - q * v) * 4294967296 ^ y + wm_v fl y := by
    rw [e2, e3, ← h1, Nat.add_sub_cancel, Nat.mul_comm, Nat.add_comm]
  rw [← e4] at s1 s2
  refine ⟨?_, s2⟩
  obtain ⟨d, hd⟩ : ∃ d, pl - y = d + 1 := ⟨pl - y - 1, by omega⟩
  rw [show pl - (y + 1) = d by omega] at hA
  rw [hd, wm_v_first, pk_us, wm_un' hq, wm_off_ge (by omega), Nat.add_mul, Nat.add_mul, ← hA, s1, Nat.pow_succ]
  have e5 : 4294967296 * wm_v (wm_off fq (y + 1)) d * v * 4294967296 ^ y = wm_v (wm_off fq (y + 1)) d * v * (4294967296 ^ y * 4294967296) := by
    rw [Nat.mul_comm (4294967296 ^ y), ← Nat.mul_assoc, Nat.mul_comm 4294967296, Nat.mul_right_comm (wm_v (wm_off fq (y + 1)) d)]
  rw [e5]
  omega
theorem wm_fd_pre {fl : Nat → Int32} {y cnt v : Nat} (hv : v < 4294967296 ^ cnt) (hfit : y + cnt < 2050) (hlt : wm_v fl 2050 < v * 4294967296 ^ (y + 1)) : wm_v (wm_off fl y) (cnt + 1) < v * 4294967296 := by
  have hp := wm_pp y
  have e := wm_v_off fl y (2050 - y)
  rw [show y + (2050 - y) = 2050 by omega] at e
  have h2 : wm_v (wm_off fl y) (cnt + 1) ≤ wm_v (wm_off fl y) (2050 - y) := wm_v_mono _ (by omega)
  have h3 : 4294967296 ^ y * wm_v (wm_off fl y) (cnt + 1) ≤ 4294967296 ^ y * wm_v (wm_off fl y) (2050 - y) := Nat.mul_le_mul_left _ h2
  have h4 : 4294967296 ^ y * wm_v (wm_off fl y) (cnt + 1) < 4294967296 ^ y * (v * 4294967296) := by
    have e2 : v * 4294967296 ^ (y + 1) = 4294967296 ^ y * (v * 4294967296) := by rw [Nat.pow_succ, Nat.mul_left_comm]
    omega
  exact Nat.lt_of_mul_lt_mul_left h4
theorem wm_fd_fin {A B p Q L : Nat} (hp : 0 < p) (h : Q * (B * p) + L = A * p) (hl : L < B * p) : Q = A / B ∧ L / p = A % B := by
  rw [← Nat.mul_assoc] at h
  have h1 : Q * B ≤ A := Nat.le_of_mul_le_mul_right (c := p) (by omega) hp
  obtain ⟨r, rfl⟩ : ∃ r, A = Q * B + r := ⟨A - Q * B, by omega⟩
  rw [Nat.add_mul] at h
  have e : L = r * p := by omega
  have hr : r < B := by
    rw [e] at hl
    exact Nat.lt_of_mul_lt_mul_right hl
  have hB : 0 < B := by omega
  refine ⟨?_, ?_⟩
  · rw [Nat.mul_comm Q B, Nat.add_comm, Nat.add_mul_div_left _ _ hB, Nat.div_eq_of_lt hr, Nat.zero_add]
  · rw [e, Nat.mul_div_cancel _ hp, Nat.mul_comm Q B, Nat.add_comm, Nat.add_mul_mod_self_left, Nat.mod_eq_of_lt hr]
theorem wm_ok_get {N : Nat → Nat} {ln : Nat → Nat} {wd : Nat → Nat → Int32} {i j X : Nat} (h : wm_ok (va_up N i X) ln wd) (hj : j < 19) (e : j ≠ i) : wm_rep (wd j) (ln j) (N j) := by
  have := h j hj
  rw [va_up_ne _ _ e] at this
  exact this
theorem wm_ok_self {N : Nat → Nat} {ln : Nat → Nat} {wd : Nat → Nat → Int32} {i X : Nat} (h : wm_ok (va_up N i X) ln wd) (hi : i < 19) : wm_rep (wd i) (ln i) X := by
  have := h i hi
  rw [va_up_self] at this
  exact this
theorem wm_ok_congr {N M : Nat → Nat} {ln : Nat → Nat} {wd : Nat → Nat → Int32} (h : wm_ok N ln wd) (e : ∀ j, j < 19 → N j = M j) : wm_ok M ln wd := fun j hj => by rw [← e j hj]; exact h j hj
/-- row i is written anew, the others hold what they held -/
theorem wm_ok_row {N : Nat → Nat} {ln : Nat → Nat} {wd : Nat → Nat → Int32} {i n X : Nat} {g : Nat → Int32} (h : ∀ j, j < 19 → j ≠ i → wm_rep (wd j) (ln j) (N j)) (hr : wm_rep g n X) : wm_ok (va_up N i X) (va_up ln i n) (va_up wd i g) := by
  intro j hj
  by_cases e : j = i
  · subst e
    rw [va_up_self, va_up_self, va_up_self]
    exact hr
  · rw [va_up_ne _ _ e, va_up_ne _ _ e, va_up_ne _ _ e]
    exact h j hj e
theorem wm_fd_0 {A n k p v pl : Nat} (hA : A < 4294967296 ^ n) (hv : 4294967296 ^ k * p ≤ v) (h : n ≤ k + pl) : A * p < v * 4294967296 ^ pl ∨ p = 0 := by
  rcases Nat.eq_zero_or_pos p with z | z
  · exact Or.inr z
  · refine Or.inl ?_
    have h1 : A * p < 4294967296 ^ n * p := Nat.mul_lt_mul_of_pos_right hA z
    have h2 : 4294967296 ^ n ≤ 4294967296 ^ (k + pl) := Nat.pow_le_pow_right (by decide) h
    have h3 : 4294967296 ^ n * p ≤ 4294967296 ^ (k + pl) * p := Nat.mul_le_mul_right _ h2
    have h4 : 4294967296 ^ k * p * 4294967296 ^ pl ≤ v * 4294967296 ^ pl := Nat.mul_le_mul_right _ hv
    rw [Nat.mul_right_comm, ← Nat.pow_add] at h4
    omega
