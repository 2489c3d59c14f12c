/-! ===== what each call answers and puts, over the numbers N j of the registers ===== -/
def sp_L : Nat := 2 ^ 65536
theorem sp_L32 : sp_L = 4294967296 ^ 2048 := by rw [wm_p32]; rfl
theorem sp_bl {X : Nat} : wm_bl X ≤ 65536 ↔ X < sp_L := wm_bl_le
def sp_ix (x : Int32) : Option Nat := if 0 ≤ x ∧ x < nI 16 then some x.toNatClampNeg else none
theorem sp_ix_ok {j : Nat} (h : j < 16) : sp_ix (nI j) = some j := by
  unfold sp_ix
  rw [if_pos ⟨nI_pos' (by omega), nI_lt h (by decide)⟩, nI_clamp (by omega)]
theorem sp_ix_no {x : Int32} (h : x < 0 ∨ nI 16 ≤ x) : sp_ix x = none := by
  unfold sp_ix
  refine if_neg (fun z => ?_)
  rcases h with h | h
  · exact absurd z.1 (Int32.not_le.mpr h)
  · exact absurd z.2 (Int32.not_lt.mpr h)
def sp_putv (N : Nat → Nat) (d X : Nat) : Int32 × (Nat → Nat) := if X < sp_L then (nI 1, va_up N d X) else (nI 0, N)
def sp_no (N : Nat → Nat) : Int32 × (Nat → Nat) := (nI 0, N)
def sp_push (N : Nat → Nat) (x : Int32) (p0 : Nat) : Int32 × (Nat → Nat) := match sp_ix x with
  | none => sp_no N
  | some d => sp_putv N d (N d * 18446744073709551616 + p0)
def sp_spread (N : Nat → Nat) (x : Int32) (p0 : Nat) (n : Int32) : Int32 × (Nat → Nat) := match sp_ix x with
  | none => sp_no N
  | some d => if n < 0 ∨ nI 1024 < n then sp_no N else sp_putv N d (wm_pr p0 n.toNatClampNeg)
def sp_copy (N : Nat → Nat) (x y : Int32) : Int32 × (Nat → Nat) := match sp_ix x with
  | none => sp_no N
  | some d => match sp_ix y with
    | none => sp_no N
    | some a => (nI 1, va_up N d (N a))
def sp_3 (N : Nat → Nat) (x y z : Int32) (f : Nat → Nat → Nat → Int32 × (Nat → Nat)) : Int32 × (Nat → Nat) := match sp_ix x with
  | none => sp_no N
  | some d => match sp_ix y with
    | none => sp_no N
    | some a => match sp_ix z with
      | none => sp_no N
      | some b => f d a b
def sp_add (N : Nat → Nat) (x y z : Int32) : Int32 × (Nat → Nat) := sp_3 N x y z (fun d a b => sp_putv N d (N a + N b))
def sp_take (N : Nat → Nat) (x y z : Int32) : Int32 × (Nat → Nat) := sp_3 N x y z (fun d a b => if N a < N b then sp_no N else (nI 1, va_up N d (N a - N b)))
def sp_times (N : Nat → Nat) (x y z : Int32) : Int32 × (Nat → Nat) := sp_3 N x y z (fun d a b => sp_putv N d (N a * N b))
def sp_divide (N : Nat → Nat) (x y z w : Int32) : Int32 × (Nat → Nat) := sp_3 N x y z (fun q r a => match sp_ix w with
  | none => sp_no N
  | some b => if q = r ∨ N b = 0 then sp_no N else (nI 1, va_up (va_up N q (N a / N b)) r (N a % N b)))
noncomputable def sp_sq (A : Nat) : Nat := Classical.epsilon (fun s : Nat => s * s ≤ A ∧ A < (s + 1) * (s + 1))
theorem sp_sq_of {A s : Nat} (h1 : s * s ≤ A) (h2 : A < (s + 1) * (s + 1)) : sp_sq A = s := by
  have h : sp_sq A * sp_sq A ≤ A ∧ A < (sp_sq A + 1) * (sp_sq A + 1) := Classical.epsilon_spec (p := fun s : Nat => s * s ≤ A ∧ A < (s + 1) * (s + 1)) ⟨s, h1, h2⟩
  generalize sp_sq A = r at h
  rcases Nat.lt_trichotomy r s with z | z | z
  · have : (r + 1) * (r + 1) ≤ s * s := Nat.mul_le_mul z z
    omega
  · exact z
  · have : (s + 1) * (s + 1) ≤ r * r := Nat.mul_le_mul z z
    omega
noncomputable def sp_root (N : Nat → Nat) (x y z : Int32) : Int32 × (Nat → Nat) := sp_3 N x y z (fun s r a => if s = r then sp_no N else (nI 1, va_up (va_up N s (sp_sq (N a))) r (N a - sp_sq (N a) * sp_sq (N a))))
def sp_shift (N : Nat → Nat) (x y n : Int32) : Int32 × (Nat → Nat) := match sp_ix x with
  | none => sp_no N
  | some d => match sp_ix y with
    | none => sp_no N
    | some a => if n < 0 then (nI 1, va_up N d (N a / 2 ^ (-n.toInt).toNat)) else sp_putv N d (N a * 2 ^ n.toNatClampNeg)
def sp_part (N : Nat → Nat) (x y f n : Int32) : Int32 × (Nat → Nat) := match sp_ix x with
  | none => sp_no N
  | some d => match sp_ix y with
    | none => sp_no N
    | some a => if f < 0 ∨ n < 0 then sp_no N else (nI 1, va_up N d (N a / 2 ^ f.toNatClampNeg % 2 ^ n.toNatClampNeg))
def sp_compare (N : Nat → Nat) (x y : Int32) : Int32 := match sp_ix x with
  | none => -2
  | some a => match sp_ix y with
    | none => -2
    | some b => wm_ord (N a) (N b)
def sp_bits (N : Nat → Nat) (x : Int32) : Int32 := match sp_ix x with
  | none => -1
  | some a => nI (wm_bl (N a))
def sp_word (N : Nat → Nat) (x k : Int32) : Int32 := match sp_ix x with
  | none => 0
  | some a => if k < 0 then 0 else nI (N a / 4294967296 ^ k.toNatClampNeg % 4294967296)
def sp_ones (N : Nat → Nat) (x : Int32) : Int32 := match sp_ix x with
  | none => -1
  | some a => nI (wm_on (N a) 65600)
noncomputable def sp_ct (A : Nat) : Nat := Classical.epsilon (fun t : Nat => A % 2 ^ t = 0 ∧ A / 2 ^ t % 2 = 1)
theorem sp_ct_of {A t : Nat} (h1 : A % 2 ^ t = 0) (h2 : A / 2 ^ t % 2 = 1) : sp_ct A = t := by
  have h : A % 2 ^ sp_ct A = 0 ∧ A / 2 ^ sp_ct A % 2 = 1 := Classical.epsilon_spec (p := fun t : Nat => A % 2 ^ t = 0 ∧ A / 2 ^ t % 2 = 1) ⟨t, h1, h2⟩
  generalize sp_ct A = r at h
  have key : ∀ a b : Nat, a < b → A / 2 ^ a % 2 = 1 → A % 2 ^ b = 0 → False := by
    intro a b hab ha hb
    obtain ⟨d, rfl⟩ : ∃ d, b = a + 1 + d := ⟨b - a - 1, by omega⟩
    obtain ⟨q, hq⟩ := Nat.dvd_of_mod_eq_zero hb
    rw [hq, show 2 ^ (a + 1 + d) * q = 2 ^ a * (2 * (2 ^ d * q)) by rw [Nat.pow_add, Nat.pow_succ, Nat.mul_assoc, Nat.mul_assoc], Nat.mul_div_cancel_left _ (Nat.pow_pos (by decide))] at ha
    omega
  rcases Nat.lt_trichotomy r t with z | z | z
  · exact (key r t z h.2 h1).elim
  · exact z
  · exact (key t r z h2 h.1).elim
noncomputable def sp_lowest (N : Nat → Nat) (x : Int32) : Int32 := match sp_ix x with
  | none => -1
  | some a => if N a = 0 then -1 else nI (sp_ct (N a))
def sp_rest (N : Nat → Nat) (x m : Int32) : Int32 := match sp_ix x with
  | none => -1
  | some a => if m < nI 1 then -1 else nI (N a % m.toNatClampNeg)
/-! ===== the mill holds the numbers N ===== -/
def wm_R (N : Nat → Nat) (ln : Nat → Nat) (wd : Nat → Nat → Int32) : Prop := (∃ Mx : Nat → Nat, wm_ok Mx ln wd ∧ ∀ j, j < 16 → Mx j = N j) ∧ ∀ j, j < 16 → N j < sp_L
theorem wm_len16 {f : Nat → Int32} {n X : Nat} (h : wm_rep f n X) (hX : X < sp_L) : n ≤ 2048 := wm_rep_le h (by rw [← sp_L32]; exact hX)
theorem wm_R_of {N Mx : Nat → Nat} {ln : Nat → Nat} {wd : Nat → Nat → Int32} (h : wm_ok Mx ln wd) (he : ∀ j, j < 16 → Mx j = N j) (hL : ∀ j, j < 16 → N j < sp_L) : wm_R N ln wd := ⟨⟨Mx, h, he⟩, hL⟩
theorem wm_R_up {N Mx : Nat → Nat} {ln : Nat → Nat} {wd : Nat → Nat → Int32} {d X : Nat} (h : wm_ok (va_up Mx d X) ln wd) (he : ∀ j, j < 16 → Mx j = N j) (hL : ∀ j, j < 16 → N j < sp_L) (hX : X < sp_L) : wm_R (va_up N d X) ln wd := by
  refine ⟨⟨_, h, fun j hj => ?_⟩, fun j hj => ?_⟩
  · by_cases e : j = d
    · rw [e, va_up_self, va_up_self]
    · rw [va_up_ne _ _ e, va_up_ne _ _ e]; exact he j hj
  · by_cases e : j = d
    · rw [e, va_up_self]; exact hX
    · rw [va_up_ne _ _ e]; exact hL j hj
/-- behind keepResult -/
def wm_kept (Mx : Nat → Nat) (d : Nat) (ln : Nat → Nat) (wd : Nat → Nat → Int32) (r : Int32) (u : wm_St) : Prop := (Mx 16 < sp_L ∧ r = nI 1 ∧ wm_ok (va_up Mx d (Mx 16)) u.1 u.2) ∨ (sp_L ≤ Mx 16 ∧ r = nI 0 ∧ u = (ln, wd))
theorem wm_fin {N Mx : Nat → Nat} {ln : Nat → Nat} {wd : Nat → Nat → Int32} {d X : Nat} {r : Int32} {u : wm_St} (hk : wm_kept Mx d ln wd r u) (hok : wm_ok Mx ln wd) (he : ∀ j, j < 16 → Mx j = N j) (hL : ∀ j, j < 16 → N j < sp_L) (hX : Mx 16 = X) : r = (sp_putv N d X).1 ∧ wm_R (sp_putv N d X).2 u.1 u.2 := by
  unfold sp_putv
  rcases hk with ⟨h1, rfl, h3⟩ | ⟨h1, rfl, rfl⟩
  · rw [hX] at h1 h3
    rw [if_pos h1]
    exact ⟨rfl, wm_R_up h3 he hL h1⟩
  · rw [hX] at h1
    rw [if_neg (Nat.not_lt.mpr h1)]
    exact ⟨rfl, wm_R_of hok he hL⟩
theorem wm_fin1 {N Mx : Nat → Nat} {ln : Nat → Nat} {wd : Nat → Nat → Int32} {d X : Nat} {r : Int32} {u : wm_St} (hk : wm_kept Mx d ln wd r u) (hok : wm_ok Mx ln wd) (he : ∀ j, j < 16 → Mx j = N j) (hL : ∀ j, j < 16 → N j < sp_L) (hX : Mx 16 = X) (hXL : X < sp_L) : r = nI 1 ∧ wm_R (va_up N d X) u.1 u.2 := by
  have h := wm_fin hk hok he hL hX
  unfold sp_putv at h
  rw [if_pos hXL] at h
  exact h
theorem wm_kept_n {Mx : Nat → Nat} {d : Nat} {ln : Nat → Nat} {wd : Nat → Nat → Int32} {r : Int32} {u : wm_St} (hk : wm_kept Mx d ln wd r u) : narrow .boolean (.int r) = .int r := by
  rcases hk with ⟨-, rfl, -⟩ | ⟨-, rfl, -⟩ <;> rfl
