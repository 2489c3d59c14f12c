/-! ===== the world of the model: 0 digits, 1 sizes, 2 x, 3 y, 4 z (rows of numbers), 5 the model with xs, ys, zs ===== -/
def md_n (k : Nat) : Nat := if k = 0 then 65536 else if k = 1 then 16 else 8200
def md_e (ad : Nat → Nat) (cA : ClassId) (ln : Nat → Nat) (wd : Nat → Nat → Nat) (k : Nat) : va_E :=
  if k < 5 then .inl (cA, md_n k, .inl (fun i => nI (wd k i)))
  else .inr (2, [.ref (ad 0), .ref (ad 1), .ref (ad 2), .ref (ad 3), .ref (ad 4), .int (nI (ln 0)), .int (nI (ln 1)), .int (nI (ln 2))])
def md_w (ad : Nat → Nat) (cA : ClassId) (ln : Nat → Nat) (wd : Nat → Nat → Nat) : va_W := (List.range 6).map (fun k => (ad k, md_e ad cA ln wd k))
theorem md_w_len (ad : Nat → Nat) (cA : ClassId) (ln : Nat → Nat) (wd : Nat → Nat → Nat) : (md_w ad cA ln wd).length = 6 := by simp [md_w]
theorem md_w_at {ad : Nat → Nat} {cA : ClassId} {ln : Nat → Nat} {wd : Nat → Nat → Nat} {k : Nat} (hk : k < 6) : (md_w ad cA ln wd)[k]? = some (ad k, md_e ad cA ln wd k) := by
  unfold md_w
  rw [List.getElem?_map, List.getElem?_range hk]
  rfl
theorem md_w_of {ad : Nat → Nat} {cA : ClassId} {ln : Nat → Nat} {wd : Nat → Nat → Nat} {k : Nat} {q : Nat × va_E} (h : (md_w ad cA ln wd)[k]? = some q) : k < 6 ∧ q.1 = ad k := by
  have hk : k < 6 := by
    have := (List.getElem?_eq_some_iff.mp h).1
    rwa [md_w_len] at this
  rw [md_w_at hk] at h
  cases h
  exact ⟨hk, rfl⟩
theorem md_at_w {ad : Nat → Nat} {cA : ClassId} {ln : Nat → Nat} {wd : Nat → Nat → Nat} {k : Nat} (hk : k < 5) : (md_w ad cA ln wd)[k]? = some (ad k, .inl (cA, md_n k, .inl (fun i => nI (wd k i)))) := by
  rw [md_w_at (by omega), md_e, if_pos hk]
theorem md_at_m {ad : Nat → Nat} {cA : ClassId} {ln : Nat → Nat} {wd : Nat → Nat → Nat} : (md_w ad cA ln wd)[5]? = some (ad 5, .inr (2, [.ref (ad 0), .ref (ad 1), .ref (ad 2), .ref (ad 3), .ref (ad 4), .int (nI (ln 0)), .int (nI (ln 1)), .int (nI (ln 2))])) := by
  rw [md_w_at (by omega), md_e, if_neg (by omega)]
theorem md_set {ad : Nat → Nat} {cA : ClassId} {ln ln' : Nat → Nat} {wd wd' : Nat → Nat → Nat} {j : Nat} {x : va_E} (hx : md_e ad cA ln' wd' j = x) (ho : ∀ k, k < 6 → k ≠ j → md_e ad cA ln' wd' k = md_e ad cA ln wd k) : (md_w ad cA ln wd).set j (ad j, x) = md_w ad cA ln' wd' := by
  apply List.ext_getElem?
  intro k
  by_cases hk : k < 6
  · rw [md_w_at (ln := ln') hk]
    by_cases e : k = j
    · subst e
      rw [List.getElem?_set_self (by rw [md_w_len]; exact hk), hx]
    · rw [List.getElem?_set_ne (Ne.symm e), md_w_at hk, ho k hk e]
  · rw [List.getElem?_eq_none (by rw [List.length_set, md_w_len]; omega), List.getElem?_eq_none (by rw [md_w_len]; omega)]
theorem md_upd (f : Nat → Nat) (k v : Nat) : upd (fun i => nI (f i)) k (nI v) = fun i => nI (va_up f k v i) := by
  funext i
  by_cases e : i = k
  · rw [e, pk_us, va_up_self]
  · rw [pk_un e, va_up_ne _ _ e]
theorem md_set_w {ad : Nat → Nat} {cA : ClassId} {ln : Nat → Nat} {wd : Nat → Nat → Nat} {j k v : Nat} (hj : j < 5) : (md_w ad cA ln wd).set j (ad j, .inl (cA, md_n j, .inl (upd (fun i => nI (wd j i)) k (nI v)))) = md_w ad cA ln (va_up wd j (va_up (wd j) k v)) := by
  refine md_set (by rw [md_e, if_pos hj, va_up_self, md_upd]) (fun k hk e => ?_)
  unfold md_e
  by_cases h1 : k < 5
  · rw [if_pos h1, if_pos h1, va_up_ne _ _ e]
  · rw [if_neg h1, if_neg h1]
theorem md_set_m {ad : Nat → Nat} {cA : ClassId} {ln ln' : Nat → Nat} {wd : Nat → Nat → Nat} (h : ∃ i v, ln' = va_up ln i v) : (md_w ad cA ln wd).set 5 (ad 5, .inr (2, [.ref (ad 0), .ref (ad 1), .ref (ad 2), .ref (ad 3), .ref (ad 4), .int (nI (ln' 0)), .int (nI (ln' 1)), .int (nI (ln' 2))])) = md_w ad cA ln' wd := by
  refine md_set (by rw [md_e, if_neg (by omega)]) (fun k hk e => ?_)
  unfold md_e
  rw [if_pos (by omega), if_pos (by omega)]
def md_A (ad : Nat → Nat) (sz : Nat) : Nat → Prop := fun q => (∃ k, k < 6 ∧ q = ad k) ∨ sz ≤ q
abbrev md_ty (cA : ClassId) : List (ClassId × FieldType) := [(cA, .int)]
abbrev md_St : Type := (Nat → Nat) × (Nat → Nat → Nat)
/-- the world now, in a method that began at s: what the cells hold, that they are apart, what has been written -/
def md_M (D : va_G) (ad : Nat → Nat) (cA : ClassId) (s : State) (ln : Nat → Nat) (wd : Nat → Nat → Nat) (H : Heap) (locs : List Loc) : Prop :=
  va_P D classes (md_w ad cA ln wd) H ∧ va_D (md_A ad s.heap.size) (md_w ad cA ln wd) ∧ va_S (md_A ad s.heap.size) s.heap H locs
/-- a contract's start over the world -/
def md_B (D : va_G) (ad : Nat → Nat) (cA : ClassId) (sz : Nat) (ln : Nat → Nat) (wd : Nat → Nat → Nat) : State → Prop := fun U =>
  U.heap.size = sz ∧ va_P D classes (md_w ad cA ln wd) U.heap ∧ va_K D classes (md_ty cA) U ∧ va_D (fun _ => True) (md_w ad cA ln wd)
/-- its end: u the lengths and rows then -/
def md_E (D : va_G) (ad : Nat → Nat) (cA : ClassId) (sz : Nat) : md_St → State → Prop := fun u t =>
  va_P D classes (md_w ad cA u.1 u.2) t.heap ∧ va_K D classes (md_ty cA) t ∧ va_D (md_A ad sz) (md_w ad cA u.1 u.2)
theorem md_blind (D : va_G) (ad : Nat → Nat) (cA : ClassId) (sz : Nat) (ln : Nat → Nat) (wd : Nat → Nat → Nat) (As : List Value) : FrameBlind (va_Pc As (md_B D ad cA sz ln wd)) :=
  fun a U g mk q => by obtain ⟨q0, q1, qP, qK, qD⟩ := q; exact ⟨q0, q1, qP, va_K.moved (u := U) (U := U.calling g mk a) (Vm.Alike.refl U.vm) qK, qD⟩
theorem md_A_mono {ad : Nat → Nat} {a b q : Nat} (h : a ≤ b) (hq : md_A ad b q) : md_A ad a q := by
  rcases hq with h1 | h1
  · exact Or.inl h1
  · exact Or.inr (Nat.le_trans h h1)
