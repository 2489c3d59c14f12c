/-! ===== the world of a mill: nineteen Wholes (0 .. 15 the registers, 16 result, 17 left, 18 helper), their rows, the mill, its array ===== -/
/-- cells 0 .. 18 the Wholes, 19 .. 37 their rows, 38 the mill, 39 the array of registers; ad: their addresses -/
def wm_e (ad : Nat → Nat) (cA cR : ClassId) (ln : Nat → Nat) (wd : Nat → Nat → Int32) (k : Nat) : va_E :=
  if k < 19 then .inr (1, [.ref (ad (19 + k)), .int (nI (ln k))])
  else if k < 38 then .inl (cA, 2050, .inl (wd (k - 19)))
  else if k < 39 then .inr (0, [.ref (ad 39), .ref (ad 16), .ref (ad 17), .ref (ad 18)])
  else .inl (cR, 16, .inr (.inr (.inr (.inr (fun i => some (ad i))))))
def wm_w (ad : Nat → Nat) (cA cR : ClassId) (ln : Nat → Nat) (wd : Nat → Nat → Int32) : va_W := (List.range 40).map (fun k => (ad k, wm_e ad cA cR ln wd k))
theorem wm_w_len (ad : Nat → Nat) (cA cR : ClassId) (ln : Nat → Nat) (wd : Nat → Nat → Int32) : (wm_w ad cA cR ln wd).length = 40 := by simp [wm_w]
theorem wm_w_at {ad : Nat → Nat} {cA cR : ClassId} {ln : Nat → Nat} {wd : Nat → Nat → Int32} {k : Nat} (hk : k < 40) : (wm_w ad cA cR ln wd)[k]? = some (ad k, wm_e ad cA cR ln wd k) := by
  unfold wm_w
  rw [List.getElem?_map, List.getElem?_range hk]
  rfl
theorem wm_w_of {ad : Nat → Nat} {cA cR : ClassId} {ln : Nat → Nat} {wd : Nat → Nat → Int32} {k : Nat} {q : Nat × va_E} (h : (wm_w ad cA cR ln wd)[k]? = some q) : k < 40 ∧ q.1 = ad k := by
  have hk : k < 40 := by
    have := (List.getElem?_eq_some_iff.mp h).1
    rwa [wm_w_len] at this
  rw [wm_w_at hk] at h
  cases h
  exact ⟨hk, rfl⟩
theorem wm_at_o {ad : Nat → Nat} {cA cR : ClassId} {ln : Nat → Nat} {wd : Nat → Nat → Int32} {j : Nat} (hj : j < 19) : (wm_w ad cA cR ln wd)[j]? = some (ad j, .inr (1, [.ref (ad (19 + j)), .int (nI (ln j))])) := by
  rw [wm_w_at (by omega), wm_e, if_pos hj]
theorem wm_at_w {ad : Nat → Nat} {cA cR : ClassId} {ln : Nat → Nat} {wd : Nat → Nat → Int32} {j : Nat} (hj : j < 19) : (wm_w ad cA cR ln wd)[19 + j]? = some (ad (19 + j), .inl (cA, 2050, .inl (wd j))) := by
  rw [wm_w_at (by omega), wm_e, if_neg (by omega), if_pos (by omega), Nat.add_sub_cancel_left]
theorem wm_at_m {ad : Nat → Nat} {cA cR : ClassId} {ln : Nat → Nat} {wd : Nat → Nat → Int32} : (wm_w ad cA cR ln wd)[38]? = some (ad 38, .inr (0, [.ref (ad 39), .ref (ad 16), .ref (ad 17), .ref (ad 18)])) := by
  rw [wm_w_at (by omega), wm_e, if_neg (by omega), if_neg (by omega), if_pos (by omega)]
theorem wm_at_r {ad : Nat → Nat} {cA cR : ClassId} {ln : Nat → Nat} {wd : Nat → Nat → Int32} : (wm_w ad cA cR ln wd)[39]? = some (ad 39, .inl (cR, 16, .inr (.inr (.inr (.inr (fun i => some (ad i))))))) := by
  rw [wm_w_at (by omega), wm_e, if_neg (by omega), if_neg (by omega), if_neg (by omega)]
theorem wm_set {ad : Nat → Nat} {cA cR : ClassId} {ln ln' : Nat → Nat} {wd wd' : Nat → Nat → Int32} {j : Nat} {x : va_E} (hx : wm_e ad cA cR ln' wd' j = x) (ho : ∀ k, k < 40 → k ≠ j → wm_e ad cA cR ln' wd' k = wm_e ad cA cR ln wd k) : (wm_w ad cA cR ln wd).set j (ad j, x) = wm_w ad cA cR ln' wd' := by
  apply List.ext_getElem?
  intro k
  by_cases hk : k < 40
  · rw [wm_w_at (ln := ln') hk]
    by_cases e : k = j
    · subst e
      rw [List.getElem?_set_self (by rw [wm_w_len]; exact hk), hx]
    · rw [List.getElem?_set_ne (Ne.symm e), wm_w_at hk, ho k hk e]
  · rw [List.getElem?_eq_none (by rw [List.length_set, wm_w_len]; omega), List.getElem?_eq_none (by rw [wm_w_len]; omega)]
theorem wm_set_o {ad : Nat → Nat} {cA cR : ClassId} {ln : Nat → Nat} {wd : Nat → Nat → Int32} {j n : Nat} (hj : j < 19) : (wm_w ad cA cR ln wd).set j (ad j, .inr (1, [.ref (ad (19 + j)), .int (nI n)])) = wm_w ad cA cR (va_up ln j n) wd := by
  refine wm_set (by rw [wm_e, if_pos hj, va_up_self]) (fun k hk e => ?_)
  unfold wm_e
  rw [va_up_ne _ _ e]
theorem wm_set_w {ad : Nat → Nat} {cA cR : ClassId} {ln : Nat → Nat} {wd : Nat → Nat → Int32} {j : Nat} {g : Nat → Int32} (hj : j < 19) : (wm_w ad cA cR ln wd).set (19 + j) (ad (19 + j), .inl (cA, 2050, .inl g)) = wm_w ad cA cR ln (va_up wd j g) := by
  refine wm_set (by rw [wm_e, if_neg (by omega), if_pos (by omega), Nat.add_sub_cancel_left, va_up_self]) (fun k hk e => ?_)
  unfold wm_e
  by_cases h1 : k < 19
  · rw [if_pos h1, if_pos h1]
  · rw [if_neg h1, if_neg h1]
    by_cases h2 : k < 38
    · rw [if_pos h2, if_pos h2, va_up_ne _ _ (by omega)]
    · rw [if_neg h2, if_neg h2]
/-- the cells that a method of the mill may write: the mill's own, and new ones -/
def wm_A (ad : Nat → Nat) (sz : Nat) : Nat → Prop := fun q => (∃ k, k < 40 ∧ q = ad k) ∨ sz ≤ q
/-- the array classes of the world -/
abbrev wm_ty (cA cR : ClassId) : List (ClassId × FieldType) := [(cA, .int), (cR, .object "WholeMill$Whole")]
/-- the world now, in a method that began at s: what the cells hold, that they are apart, what has been written -/
def wm_M (D : va_G) (ad : Nat → Nat) (cA cR : ClassId) (s : State) (ln : Nat → Nat) (wd : Nat → Nat → Int32) (H : Heap) (locs : List Loc) : Prop :=
  va_P D classes (wm_w ad cA cR ln wd) H ∧ va_D (wm_A ad s.heap.size) (wm_w ad cA cR ln wd) ∧ va_S (wm_A ad s.heap.size) s.heap H locs
/-- a contract's start over the world -/
def wm_B (D : va_G) (ad : Nat → Nat) (cA cR : ClassId) (sz : Nat) (ln : Nat → Nat) (wd : Nat → Nat → Int32) : State → Prop := fun U =>
  U.heap.size = sz ∧ va_P D classes (wm_w ad cA cR ln wd) U.heap ∧ va_K D classes (wm_ty cA cR) U ∧ va_D (fun _ => True) (wm_w ad cA cR ln wd)
abbrev wm_St : Type := (Nat → Nat) × (Nat → Nat → Int32)
/-- its end: u the lengths and rows then -/
def wm_E (D : va_G) (ad : Nat → Nat) (cA cR : ClassId) (sz : Nat) : wm_St → State → Prop := fun u t =>
  va_P D classes (wm_w ad cA cR u.1 u.2) t.heap ∧ va_K D classes (wm_ty cA cR) t ∧ va_D (wm_A ad sz) (wm_w ad cA cR u.1 u.2)
theorem wm_blind (D : va_G) (ad : Nat → Nat) (cA cR : ClassId) (sz : Nat) (ln : Nat → Nat) (wd : Nat → Nat → Int32) (As : List Value) : FrameBlind (va_Pc As (wm_B D ad cA cR sz ln wd)) :=
  fun a U g mk q => by obtain ⟨q0, q1, qP, qK, qD⟩ := q; exact ⟨q0, q1, qP, va_K.moved (u := U) (U := U.calling g mk a) (Vm.Alike.refl U.vm) qK, qD⟩
theorem wm_A_mono {ad : Nat → Nat} {a b q : Nat} (h : a ≤ b) (hq : wm_A ad b q) : wm_A ad a q := by
  rcases hq with h1 | h1
  · exact Or.inl h1
  · exact Or.inr (Nat.le_trans h h1)
theorem wm_good {w : Cond} (h : w ∈ lw_T) : GoodIn lw_T (w :: lw_T) := by
  intro v hv
  rcases List.mem_cons.mp hv with rfl | h2
  · exact ⟨h, good_of_word (List.mem_filter.mp h).2⟩
  · exact ⟨h2, good_of_word (List.mem_filter.mp h2).2⟩
