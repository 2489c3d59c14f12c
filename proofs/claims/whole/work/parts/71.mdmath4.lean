theorem md_16 (k : Nat) : 2 ^ (16 * k) = 65536 ^ k := by rw [Nat.pow_mul]
/-! push -/
theorem mv_push {f x : Nat → Nat} {p n X cap : Nat} (hp : p < 2 ^ 64) (h : mr_r cap x n X) (h4 : ∀ q, q < 4 → f q = p / 2 ^ (16 * q) % 65536) (hx : ∀ q, q < n → f (q + 4) = x q) : mv_v f (n + 4) = X * 18446744073709551616 + p := by
  have e1 : mv_v f 4 = p := by
    rw [mv_of_dig (M := p) (fun k hk => by rw [h4 k hk, md_16])]
    exact Nat.mod_eq_of_lt hp
  have e2 : mv_v (mv_off f 4) n = X := by
    rw [← h.2.2.2.2]
    exact mv_congr (fun k hk => by show f (4 + k) = x k; rw [Nat.add_comm]; exact hx k hk)
  rw [Nat.add_comm n 4, mv_app, e1, e2, show (65536 : Nat) ^ 4 = 18446744073709551616 by decide]
  omega
/-! spread -/
theorem mv_spread {f : Nat → Nat} {p : Nat} (hp : p < 2 ^ 64) : ∀ n, (∀ q, q < 4 * n → f q = p / 2 ^ (16 * (q % 4)) % 65536) → mv_v f (4 * n) = wm_pr p n := by
  intro n
  induction n with
  | zero => intro _; rfl
  | succ n ih =>
    intro h
    have e1 : mv_v (mv_off f (4 * n)) 4 = p := by
      rw [mv_of_dig (M := p) (fun k hk => by
        show f (4 * n + k) = _
        rw [h _ (by omega), md_16, show (4 * n + k) % 4 = k by omega])]
      exact Nat.mod_eq_of_lt hp
    rw [Nat.mul_add, Nat.mul_one, mv_app, e1, ih (fun q hq => h q (by omega)), wm_pr_s, Nat.mul_comm p, show (4294967296 : Nat) ^ (2 * n) = 65536 ^ (4 * n) by rw [Nat.pow_mul, Nat.pow_mul]]
/-! times -/
theorem mv_mulstep {i k cy S y : Nat} {f z0 yr : Nat → Nat} (hS : mv_v f (i + k) + cy * 65536 ^ (i + k) = mv_v z0 (i + k) + S * 65536 ^ i * mv_v yr k) (hy : y = yr k) : mv_v (va_up f (i + k) ((S * y + z0 (i + k) + cy) % 65536)) (i + (k + 1)) + (S * y + z0 (i + k) + cy) / 65536 * 65536 ^ (i + (k + 1)) = mv_v z0 (i + (k + 1)) + S * 65536 ^ i * mv_v yr (k + 1) := by
  have h := mv_chain (d := S * y + z0 (i + k)) hS
  rw [Nat.add_comm cy] at h
  have e : i + (k + 1) = i + k + 1 := by omega
  rw [e, h, mv_s, mv_s, hy, Nat.add_mul, Nat.mul_add, Nat.pow_add]
  have e2 : S * 65536 ^ i * (yr k * 65536 ^ k) = S * yr k * (65536 ^ i * 65536 ^ k) := by
    rw [Nat.mul_assoc, Nat.mul_assoc, Nat.mul_left_comm (65536 ^ i)]
  rw [e2]
  omega
theorem mv_mulend {i m A' B V cy Z : Nat} (hS : V + cy * 65536 ^ (i + (m + 1)) = Z) (hZ : Z = A' * B) (hA : A' < 65536 ^ (i + 1)) (hB : B < 65536 ^ m) : V = Z := by
  have h1 : A' * B < 65536 ^ (i + (m + 1)) := by
    rw [show i + (m + 1) = (i + 1) + m by omega, Nat.pow_add]
    exact Nat.mul_lt_mul'' hA hB
  rw [hZ] at hS ⊢
  rcases Nat.eq_zero_or_pos cy with z | z
  · rw [z, Nat.zero_mul] at hS; omega
  · have : 1 * 65536 ^ (i + (m + 1)) ≤ cy * 65536 ^ (i + (m + 1)) := Nat.mul_le_mul_right _ z
    omega
theorem md_sum {x y z c : Nat} (hx : x < 65536) (hy : y < 65536) (hz : z < 65536) (hc : c < 65536) : x * y + z + c < 4294967296 := by
  have : x * y ≤ 65535 * 65535 := Nat.mul_le_mul (by omega) (by omega)
  omega
/-! one digit of a row -/
theorem mv_set {f : Nat → Nat} {k n v : Nat} (hk : k < n) : mv_v (va_up f k v) n + f k * 65536 ^ k = mv_v f n + v * 65536 ^ k := by
  obtain ⟨d, rfl⟩ : ∃ d, n = (k + 1) + d := ⟨n - (k + 1), by omega⟩
  have e : mv_v (mv_off (va_up f k v) (k + 1)) d = mv_v (mv_off f (k + 1)) d := mv_congr (fun j hj => va_up_ne _ _ (by omega))
  rw [mv_app, mv_app f, e, mv_ups, mv_s]
  omega
theorem md_2p (q : Nat) : 2 ^ q = 65536 ^ (q / 16) * 2 ^ (q % 16) := by
  rw [show (65536 : Nat) = 2 ^ 16 from rfl, ← Nat.pow_mul, ← Nat.pow_add, Nat.div_add_mod]
/-- a row whose number is below 2 ^ q has little at the digit of q -/
theorem mv_top_lt {f : Nat → Nat} {n q : Nat} (hd : mv_d f n) (hq : q / 16 < n) (h : mv_v f n < 2 ^ q) : f (q / 16) < 2 ^ (q % 16) := by
  rw [← mv_dig hd hq]
  refine Nat.lt_of_le_of_lt (Nat.mod_le _ _) ?_
  rw [Nat.div_lt_iff_lt_mul (mv_pp _), Nat.mul_comm, ← md_2p]
  exact h
theorem mv_setbit {f : Nat → Nat} {n q b : Nat} (hd : mv_d f n) (hq : q / 16 < n) (h : mv_v f n < 2 ^ q) : mv_v (va_up f (q / 16) (f (q / 16) + b * 2 ^ (q % 16))) n = mv_v f n + b * 2 ^ q := by
  have h2 := mv_set (f := f) (v := f (q / 16) + b * 2 ^ (q % 16)) hq
  rw [md_2p q, Nat.mul_comm (65536 ^ (q / 16)), ← Nat.mul_assoc]
  rw [Nat.add_mul] at h2
  omega
theorem md_bit16 {d b s : Nat} (hd : d < 2 ^ s) (hs : s < 16) (hb : b < 2) : d + b * 2 ^ s < 65536 := by
  have h1 : b * 2 ^ s ≤ 1 * 2 ^ s := Nat.mul_le_mul_right _ (by omega)
  have h2 : 2 ^ (s + 1) ≤ 2 ^ 16 := Nat.pow_le_pow_right (by decide) (by omega)
  rw [Nat.pow_succ] at h2
  omega
theorem mv_mvstep {A f0 i up : Nat} (h : f0 ≤ i) : A / 2 ^ f0 % 2 ^ (i - f0) * 2 ^ up + A / 2 ^ i % 2 * 2 ^ (i - f0 + up) = A / 2 ^ f0 % 2 ^ (i + 1 - f0) * 2 ^ up := by
  obtain ⟨j, rfl⟩ : ∃ j, i = f0 + j := ⟨i - f0, by omega⟩
  rw [show f0 + j - f0 = j by omega, show f0 + j + 1 - f0 = j + 1 by omega, Nat.mod_pow_succ, Nat.pow_add 2 j up, Nat.pow_add 2 f0 j, ← Nat.div_div_eq_div_mul, Nat.add_mul, Nat.mul_comm (2 ^ j) (A / 2 ^ f0 / 2 ^ j % 2), Nat.mul_assoc]
theorem mv_mvlt {A f0 i up : Nat} : A / 2 ^ f0 % 2 ^ (i - f0) * 2 ^ up < 2 ^ (i - f0 + up) := by
  rw [Nat.pow_add]
  exact Nat.mul_lt_mul_of_pos_right (Nat.mod_lt _ (Nat.two_pow_pos _)) (Nat.two_pow_pos _)
theorem mv_mvend {A f0 n all i : Nat} (hA : A < 2 ^ all) (h : (i = f0 + n) ∨ (all ≤ i ∧ all ≤ f0 + n)) : A / 2 ^ f0 % 2 ^ (i - f0) = A / 2 ^ f0 % 2 ^ n := by
  rcases h with h | ⟨h1, h2⟩
  · rw [h, Nat.add_sub_cancel_left]
  · have key : ∀ j, all ≤ f0 + j → A / 2 ^ f0 < 2 ^ j := by
      intro j hj
      rw [Nat.div_lt_iff_lt_mul (Nat.two_pow_pos _), ← Nat.pow_add]
      exact Nat.lt_of_lt_of_le hA (Nat.pow_le_pow_right (by decide) (by omega))
    rw [Nat.mod_eq_of_lt (key _ (by omega)), Nat.mod_eq_of_lt (key _ h2)]
theorem md_neg64 {x : Int32} (h : x < 0) : -(x.toInt64) = lN (-x.toInt).toNat ∧ (-x.toInt).toNat ≤ 2147483648 ∧ 0 < (-x.toInt).toNat := by
  have h1 : x.toInt < 0 := Int32.lt_iff_toInt_lt.mp h
  have h2 := Int32.le_toInt x
  refine ⟨Int64.toInt_inj.mp ?_, by omega, by omega⟩
  rw [pk_lT (by omega), Int64.toInt_neg, Int32.toInt_toInt64]
  rw [Int.bmod_eq_of_le (by omega) (by omega)]
  omega
theorem md_k1 {r : Int32} {M : Nat → Nat} (h : r = (nI 1, M).1) : narrow .boolean (.int r) = .int r := by
  have e : r = nI 1 := h
  clear h
  subst e
  rfl
