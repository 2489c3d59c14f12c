/-! ===== rows of words as numbers ===== -/
/-- the number that the lowest n words of f are -/
def wm_v (f : Nat → Int32) : Nat → Nat
  | 0 => 0
  | n + 1 => wm_v f n + wm_u (f n) * 4294967296 ^ n
theorem wm_v_0 (f : Nat → Int32) : wm_v f 0 = 0 := rfl
theorem wm_v_s (f : Nat → Int32) (n : Nat) : wm_v f (n + 1) = wm_v f n + wm_u (f n) * 4294967296 ^ n := rfl
theorem wm_pp (n : Nat) : 0 < 4294967296 ^ n := Nat.pow_pos (by decide)
theorem wm_v_lt (f : Nat → Int32) (n : Nat) : wm_v f n < 4294967296 ^ n := by
  induction n with
  | zero => rw [wm_v_0]; exact wm_pp 0
  | succ n ih =>
    rw [wm_v_s, Nat.pow_succ]
    have h : (wm_u (f n) + 1) * 4294967296 ^ n ≤ 4294967296 * 4294967296 ^ n := Nat.mul_le_mul_right _ (wm_u_lt _)
    rw [Nat.add_mul, Nat.one_mul] at h
    omega
theorem wm_v_congr {f g : Nat → Int32} {n : Nat} (h : ∀ k, k < n → f k = g k) : wm_v f n = wm_v g n := by
  induction n with
  | zero => rfl
  | succ n ih => rw [wm_v_s, wm_v_s, ih (fun k hk => h k (by omega)), h n (by omega)]
theorem wm_v_app (f : Nat → Int32) (m n : Nat) : wm_v f (m + n) = wm_v f m + 4294967296 ^ m * wm_v (fun k => f (m + k)) n := by
  induction n with
  | zero => rw [wm_v_0, Nat.mul_zero, Nat.add_zero, Nat.add_zero]
  | succ n ih =>
    have e : wm_v f (m + (n + 1)) = wm_v f (m + n) + wm_u (f (m + n)) * 4294967296 ^ (m + n) := rfl
    rw [e, ih, wm_v_s, Nat.mul_add, Nat.pow_add, Nat.mul_left_comm (4294967296 ^ m) (wm_u (f (m + n))), Nat.add_assoc]
theorem wm_v_z {f : Nat → Int32} {m : Nat} (d : Nat) (h : ∀ k, m ≤ k → k < m + d → f k = 0) : wm_v f (m + d) = wm_v f m := by
  induction d with
  | zero => rfl
  | succ d ih =>
    have e : wm_v f (m + (d + 1)) = wm_v f (m + d) + wm_u (f (m + d)) * 4294967296 ^ (m + d) := rfl
    rw [e, ih (fun k h1 h2 => h k h1 (by omega)), h (m + d) (by omega) (by omega), wm_u_0, Nat.zero_mul, Nat.add_zero]
theorem wm_v_z' {f : Nat → Int32} {m n : Nat} (hmn : m ≤ n) (h : ∀ k, m ≤ k → k < n → f k = 0) : wm_v f n = wm_v f m := by
  obtain ⟨d, rfl⟩ : ∃ d, n = m + d := ⟨n - m, by omega⟩
  exact wm_v_z d h
theorem wm_v_upd {f : Nat → Int32} {n k : Nat} {x : Int32} (h : n ≤ k) : wm_v (upd f k x) n = wm_v f n := wm_v_congr (fun j hj => pk_un (by omega))
theorem wm_v_upds {f : Nat → Int32} {n : Nat} {x : Int32} : wm_v (upd f n x) (n + 1) = wm_v f n + wm_u x * 4294967296 ^ n := by
  rw [wm_v_s, wm_v_upd (Nat.le_refl n), pk_us]
theorem wm_v_mono (f : Nat → Int32) {m n : Nat} (h : m ≤ n) : wm_v f m ≤ wm_v f n := by
  obtain ⟨d, rfl⟩ : ∃ d, n = m + d := ⟨n - m, by omega⟩
  rw [wm_v_app]
  exact Nat.le_add_right _ _
/-- one word of a carry chain: what comes in at place P goes on as a word and a carry -/
theorem wm_step (V c d S P : Nat) (h : V + c * P = S) : (V + (c + d) % 4294967296 * P) + (c + d) / 4294967296 * (P * 4294967296) = S + d * P := by
  have e : (c + d) % 4294967296 * P + (c + d) / 4294967296 * (P * 4294967296) = (c + d) * P := by
    rw [Nat.mul_comm P, ← Nat.mul_assoc, ← Nat.add_mul, Nat.mul_comm ((c + d) / 4294967296), Nat.mod_add_div]
  rw [Nat.add_assoc, e, Nat.add_mul, ← h]
  omega
/-! ===== a number in a row ===== -/
/-- the row f holds N in n words: 0 from n on, its highest word isn't 0 -/
def wm_rep (f : Nat → Int32) (n N : Nat) : Prop := n ≤ 2050 ∧ (∀ k, n ≤ k → k < 2050 → f k = 0) ∧ (0 < n → f (n - 1) ≠ 0) ∧ wm_v f n = N
theorem wm_rep_lt {f : Nat → Int32} {n N : Nat} (h : wm_rep f n N) : N < 4294967296 ^ n := by rw [← h.2.2.2]; exact wm_v_lt f n
theorem wm_rep_ge {f : Nat → Int32} {n N : Nat} (h : wm_rep f (n + 1) N) : 4294967296 ^ n ≤ N := by
  obtain ⟨-, -, h3, h4⟩ := h
  rw [← h4, wm_v_s]
  have h5 : 1 ≤ wm_u (f n) := wm_u_nz (h3 (by omega))
  have h6 : 1 * 4294967296 ^ n ≤ wm_u (f n) * 4294967296 ^ n := Nat.mul_le_mul_right _ h5
  omega
theorem wm_rep_le {f : Nat → Int32} {n N k : Nat} (h : wm_rep f n N) (hk : N < 4294967296 ^ k) : n ≤ k := by
  rcases Nat.eq_zero_or_pos n with z | z
  · omega
  · obtain ⟨j, rfl⟩ : ∃ j, n = j + 1 := ⟨n - 1, by omega⟩
    have h1 := wm_rep_ge h
    have h2 : 4294967296 ^ j < 4294967296 ^ k := Nat.lt_of_le_of_lt h1 hk
    have h3 : j < k := (Nat.pow_lt_pow_iff_right (by decide)).mp h2
    omega
theorem wm_rep_0 {f : Nat → Int32} {n N : Nat} (h : wm_rep f n N) : n = 0 ↔ N = 0 := by
  constructor
  · intro z
    subst z
    rw [← h.2.2.2]
    rfl
  · intro z
    subst z
    have := wm_rep_le (k := 0) h (by decide)
    omega
theorem wm_rep_v {f : Nat → Int32} {n N k : Nat} (h : wm_rep f n N) (hk : n ≤ k) (h2 : k ≤ 2050) : wm_v f k = N := by
  rw [wm_v_z' hk (fun j h3 h4 => h.2.1 j h3 (by omega)), h.2.2.2]
theorem wm_rep_uniq {f g : Nat → Int32} {n m N : Nat} (h : wm_rep f n N) (h2 : wm_rep g m N) : n = m := by
  have a := wm_rep_le h (wm_rep_lt h2)
  have b := wm_rep_le h2 (wm_rep_lt h)
  omega
/-- numbers are compared by their highest words that differ -/
theorem wm_v_cmp {f g : Nat → Int32} {i n : Nat} (hi : i < n) (h : ∀ k, i < k → k < n → f k = g k) (hu : wm_u (f i) < wm_u (g i)) : wm_v f n < wm_v g n := by
  obtain ⟨d, rfl⟩ : ∃ d, n = (i + 1) + d := ⟨n - (i + 1), by omega⟩
  rw [wm_v_app f, wm_v_app g, wm_v_congr (f := fun k => f (i + 1 + k)) (g := fun k => g (i + 1 + k)) (fun k hk => h _ (by omega) (by omega)), wm_v_s, wm_v_s]
  have h1 := wm_v_lt f i
  have h2 : (wm_u (f i) + 1) * 4294967296 ^ i ≤ wm_u (g i) * 4294967296 ^ i := Nat.mul_le_mul_right _ hu
  rw [Nat.add_mul, Nat.one_mul] at h2
  omega
theorem wm_rep_cmp {f g : Nat → Int32} {n m N M : Nat} (h : wm_rep f n N) (h2 : wm_rep g m M) (hl : n < m) : N < M := by
  obtain ⟨j, rfl⟩ : ∃ j, m = j + 1 := ⟨m - 1, by omega⟩
  have h3 := wm_rep_lt h
  have h4 := wm_rep_ge h2
  have h5 : 4294967296 ^ n ≤ 4294967296 ^ j := Nat.pow_le_pow_right (by decide) (by omega)
  omega
/-! ===== words as digits ===== -/
theorem wm_dig {f : Nat → Int32} {k n : Nat} (hk : k < n) : wm_v f n / 4294967296 ^ k % 4294967296 = wm_u (f k) := by
  obtain ⟨d, rfl⟩ : ∃ d, n = (k + 1) + d := ⟨n - (k + 1), by omega⟩
  have h1 := wm_v_lt f k
  have h2 := wm_u_lt (f k)
  rw [wm_v_app f (k + 1) d, wm_v_s, Nat.pow_succ, Nat.mul_comm (wm_u (f k)), Nat.mul_assoc, Nat.add_assoc, ← Nat.mul_add, Nat.add_mul_div_left _ _ (wm_pp k), Nat.div_eq_of_lt h1, Nat.zero_add, Nat.add_mul_mod_self_left, Nat.mod_eq_of_lt h2]
theorem wm_of_dig {g : Nat → Int32} {n M : Nat} (h : ∀ k, k < n → wm_u (g k) = M / 4294967296 ^ k % 4294967296) : wm_v g n = M % 4294967296 ^ n := by
  induction n with
  | zero => rw [wm_v_0, Nat.pow_zero, Nat.mod_one]
  | succ n ih => rw [wm_v_s, ih (fun k hk => h k (by omega)), h n (by omega), Nat.mod_pow_succ, Nat.mul_comm (M / 4294967296 ^ n % 4294967296)]
theorem wm_of_dig' {g : Nat → Int32} {n M : Nat} (h : ∀ k, k < n → wm_u (g k) = M / 4294967296 ^ k % 4294967296) (hM : M < 4294967296 ^ n) : wm_v g n = M := by
  rw [wm_of_dig h, Nat.mod_eq_of_lt hM]
theorem wm_rep_dig {f : Nat → Int32} {n N : Nat} (h : wm_rep f n N) {k : Nat} (hk : k < 2050) : wm_u (f k) = N / 4294967296 ^ k % 4294967296 := by
  rw [← wm_rep_v (k := 2050) h h.1 (Nat.le_refl _), wm_dig hk]
/-! ===== settle ===== -/
def wm_clr (g : Nat → Int32) (a b : Nat) : Nat → Int32 := fun k => if a ≤ k ∧ k < b then 0 else g k
def wm_top (g : Nat → Int32) : Nat → Nat
  | 0 => 0
  | n + 1 => if g n = 0 then wm_top g n else n + 1
theorem wm_top_0 (g : Nat → Int32) : wm_top g 0 = 0 := rfl
theorem wm_top_z {g : Nat → Int32} {n : Nat} (h : g n = 0) : wm_top g (n + 1) = wm_top g n := if_pos h
theorem wm_top_n {g : Nat → Int32} {n : Nat} (h : ¬ g n = 0) : wm_top g (n + 1) = n + 1 := if_neg h
theorem wm_top_le (g : Nat → Int32) (n : Nat) : wm_top g n ≤ n := by
  induction n with
  | zero => exact Nat.le_refl _
  | succ n ih =>
    by_cases h : g n = 0
    · rw [wm_top_z h]; omega
    · rw [wm_top_n h]; omega
theorem wm_top_zero (g : Nat → Int32) (n : Nat) : ∀ k, wm_top g n ≤ k → k < n → g k = 0 := by
  induction n with
  | zero => intro k _ h; omega
  | succ n ih =>
    intro k h1 h2
    by_cases h : g n = 0
    · rw [wm_top_z h] at h1
      by_cases e : k = n
      · rw [e, h]
      · exact ih k h1 (by omega)
    · rw [wm_top_n h] at h1
      omega
theorem wm_top_nz (g : Nat → Int32) (n : Nat) : 0 < wm_top g n → g (wm_top g n - 1) ≠ 0 := by
  induction n with
  | zero => intro h; rw [wm_top_0] at h; omega
  | succ n ih =>
    by_cases h : g n = 0
    · rw [wm_top_z h]; exact ih
    · rw [wm_top_n h]; intro _; exact h
theorem wm_top_congr {f g : Nat → Int32} {n : Nat} (h : ∀ k, k < n → f k = g k) : wm_top f n = wm_top g n := by
  induction n with
  | zero => rfl
  | succ n ih =>
    have e := h n (by omega)
    by_cases z : g n = 0
    · rw [wm_top_z z, wm_top_z (e.trans z), ih (fun k hk => h k (by omega))]
    · rw [wm_top_n z, wm_top_n (by rw [e]; exact z)]
theorem wm_clr_lo {g : Nat → Int32} {a b k : Nat} (h : k < a) : wm_clr g a b k = g k := if_neg (by omega)
theorem wm_clr_hi {g : Nat → Int32} {a b k : Nat} (h : b ≤ k) : wm_clr g a b k = g k := if_neg (by omega)
theorem wm_clr_in {g : Nat → Int32} {a b k : Nat} (h : a ≤ k) (h2 : k < b) : wm_clr g a b k = 0 := if_pos ⟨h, h2⟩
theorem wm_clr_s {g : Nat → Int32} {a k : Nat} (h : a ≤ k) : upd (wm_clr g a k) k 0 = wm_clr g a (k + 1) := by
  funext j
  by_cases e : j = k
  · subst e; rw [pk_us, wm_clr_in h (by omega)]
  · rw [pk_un e]
    by_cases z : a ≤ j ∧ j < k
    · rw [wm_clr_in z.1 z.2, wm_clr_in z.1 (by omega)]
    · have z2 : ¬ (a ≤ j ∧ j < k + 1) := by omega
      show (if _ then _ else _) = (if _ then _ else _)
      rw [if_neg z, if_neg z2]
theorem wm_clr_e {g : Nat → Int32} {a b : Nat} (h : b ≤ a) : wm_clr g a b = g := by
  funext j
  exact if_neg (by omega)
theorem wm_settled {g : Nat → Int32} {c n0 : Nat} (hc : c ≤ 2050) (h : ∀ k, c ≤ k → n0 ≤ k → k < 2050 → g k = 0) : wm_rep (wm_clr g c n0) (wm_top g c) (wm_v g c) := by
  have ht := wm_top_le g c
  refine ⟨by omega, fun k h1 h2 => ?_, fun h1 => ?_, ?_⟩
  · by_cases h3 : k < c
    · rw [wm_clr_lo h3]; exact wm_top_zero g c k h1 h3
    · by_cases h4 : k < n0
      · exact wm_clr_in (by omega) h4
      · rw [wm_clr_hi (by omega)]; exact h k (by omega) (by omega) h2
  · rw [wm_clr_lo (by omega)]; exact wm_top_nz g c h1
  · rw [wm_v_z' ht (fun k h1 h2 => wm_top_zero g c k h1 h2)]
    exact wm_v_congr (fun k hk => wm_clr_lo (by omega))
/-! ===== the outcome of a call that puts one number into row i ===== -/
def wm_up (i X : Nat) (ln : Nat → Nat) (wd : Nat → Nat → Int32) (u : (Nat → Nat) × (Nat → Nat → Int32)) : Prop := ∃ (n : Nat) (g : Nat → Int32), u = (va_up ln i n, va_up wd i g) ∧ wm_rep g n X
/-- all rows hold numbers -/
def wm_ok (N : Nat → Nat) (ln : Nat → Nat) (wd : Nat → Nat → Int32) : Prop := ∀ j, j < 19 → wm_rep (wd j) (ln j) (N j)
theorem wm_ok_up {N : Nat → Nat} {ln : Nat → Nat} {wd : Nat → Nat → Int32} {i X : Nat} {u : (Nat → Nat) × (Nat → Nat → Int32)} (h : wm_ok N ln wd) (hu : wm_up i X ln wd u) : wm_ok (va_up N i X) u.1 u.2 := by
  obtain ⟨n, g, rfl, hr⟩ := hu
  intro j hj
  by_cases e : j = i
  · subst e
    show wm_rep (va_up wd j g j) (va_up ln j n j) (va_up N j X j)
    rw [va_up_self, va_up_self, va_up_self]
    exact hr
  · show wm_rep (va_up wd i g j) (va_up ln i n j) (va_up N i X j)
    rw [va_up_ne _ _ e, va_up_ne _ _ e, va_up_ne _ _ e]
    exact h j hj
theorem wm_eta {α : Type} (f : Nat → α) (i : Nat) : va_up f i (f i) = f := by
  funext j
  by_cases e : j = i
  · subst e; exact va_up_self _ _ _
  · exact va_up_ne _ _ e
theorem wm_uu {α : Type} (f : Nat → α) (k : Nat) (v w : α) : va_up (va_up f k v) k w = va_up f k w := bx_uu f k v w
theorem wm_clr_max {g : Nat → Int32} {a b : Nat} : wm_clr g a (max a b) = wm_clr g a b := by
  funext j
  by_cases h : a ≤ j ∧ j < b
  · rw [wm_clr_in h.1 h.2, wm_clr_in h.1 (by omega)]
  · show (if _ then _ else _) = (if _ then _ else _)
    rw [if_neg h, if_neg (by omega)]
/-- 0 from n on -/
def wm_ze (f : Nat → Int32) (n : Nat) : Prop := n ≤ 2050 ∧ ∀ k, n ≤ k → k < 2050 → f k = 0
theorem wm_rep_ze {f : Nat → Int32} {n N : Nat} (h : wm_rep f n N) : wm_ze f n := ⟨h.1, h.2.1⟩
/-- the outcome of settle -/
theorem wm_up_of {i X n0 c : Nat} {ln : Nat → Nat} {wd : Nat → Nat → Int32} {g : Nat → Int32} {u : (Nat → Nat) × (Nat → Nat → Int32)} (hu : u = (va_up ln i (wm_top g c), va_up wd i (wm_clr g c n0))) (hc : c ≤ 2050) (hz : ∀ k, c ≤ k → n0 ≤ k → k < 2050 → g k = 0) (hX : wm_v g c = X) : wm_up i X ln wd u :=
  ⟨_, _, hu, by rw [← hX]; exact wm_settled hc hz⟩
