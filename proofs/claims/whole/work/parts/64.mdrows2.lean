/-! ===== more rows and numbers for the model ===== -/
theorem md_shrN {n k : Nat} (hn : n < 2 ^ 63) (hk : k < 64) : lN n >>> ((nI k).toInt64 &&& 63) = lN (n / 2 ^ k) := by
  apply wb_inj
  rw [wb_c k hk]
  show (lN n).toBitVec.sshiftRight' ((lN k).toBitVec.smod 64) = _
  rw [wb_tb k, wb_sm k hk, wb_tb, wb_tb, BitVec.sshiftRight_eq']
  have hk2 : (BitVec.ofNat 64 k).toNat = k := by rw [BitVec.toNat_ofNat]; exact Nat.mod_eq_of_lt (by omega)
  have hm : (BitVec.ofNat 64 n).msb = false := by
    rw [BitVec.msb_eq_false_iff_two_mul_lt, BitVec.toNat_ofNat, Nat.mod_eq_of_lt (by omega)]; omega
  rw [hk2, BitVec.sshiftRight_eq_of_msb_false hm]
  apply BitVec.eq_of_toNat_eq
  have h2 : n / 2 ^ k ≤ n := Nat.div_le_self _ _
  rw [BitVec.toNat_ushiftRight, BitVec.toNat_ofNat, BitVec.toNat_ofNat, Nat.mod_eq_of_lt (by omega), Nat.mod_eq_of_lt (by omega), Nat.shiftRight_eq_div_pow]
theorem md_dig {p k : Nat} (hp : p < 2 ^ 64) (hk : k ≤ 48) : (lN p >>> ((nI k).toInt64 &&& 63)) &&& 65535 = lN (p / 2 ^ k % 65536) := by
  apply wb_inj
  rw [wb_c k (by omega)]
  show ((lN p).toBitVec.sshiftRight' ((lN k).toBitVec.smod 64)) &&& 65535#64 = _
  rw [wb_tb k, wb_sm k (by omega), wb_tb, wb_tb, BitVec.sshiftRight_eq']
  have hk2 : (BitVec.ofNat 64 k).toNat = k := by rw [BitVec.toNat_ofNat]; exact Nat.mod_eq_of_lt (by omega)
  rw [hk2]
  have e : (BitVec.ofNat 64 p).sshiftRight k &&& 65535#64 = ((BitVec.ofNat 64 p) >>> k) &&& 65535#64 := by
    apply BitVec.eq_of_getLsbD_eq
    intro i hi
    rw [BitVec.getLsbD_and, BitVec.getLsbD_and]
    by_cases h : i < 16
    · rw [BitVec.getLsbD_sshiftRight, BitVec.getLsbD_ushiftRight, if_pos (by omega), show decide (64 ≤ i) = false from decide_eq_false (by omega)]
      rfl
    · have z : (65535#64).getLsbD i = false := by
        rw [BitVec.getLsbD_ofNat]
        have : Nat.testBit 65535 i = false := Nat.testBit_lt_two_pow (Nat.lt_of_lt_of_le (by decide : 65535 < 2 ^ 16) (Nat.pow_le_pow_right (by decide) (by omega)))
        rw [this, Bool.and_false]
      rw [z, Bool.and_false, Bool.and_false]
  rw [e]
  apply BitVec.eq_of_toNat_eq
  have h3 : p / 2 ^ k % 65536 < 65536 := Nat.mod_lt _ (by decide)
  rw [BitVec.toNat_and, BitVec.toNat_ushiftRight, BitVec.toNat_ofNat, BitVec.toNat_ofNat, BitVec.toNat_ofNat, Nat.mod_eq_of_lt hp, Nat.shiftRight_eq_div_pow, Nat.mod_eq_of_lt (show p / 2 ^ k % 65536 < 2 ^ 64 by omega)]
  exact Nat.and_two_pow_sub_one_eq_mod _ 16
theorem md_or {a b k : Nat} (ha : a < 2 ^ k) (h : a + b * 2 ^ k < 2 ^ 32) : nI a ||| nI (b * 2 ^ k) = nI (a + b * 2 ^ k) := by
  apply Int32.toBitVec_inj.mp
  apply BitVec.eq_of_toNat_eq
  show (BitVec.ofNat 32 a ||| BitVec.ofNat 32 (b * 2 ^ k)).toNat = (BitVec.ofNat 32 (a + b * 2 ^ k)).toNat
  rw [BitVec.toNat_or, BitVec.toNat_ofNat, BitVec.toNat_ofNat, BitVec.toNat_ofNat, Nat.mod_eq_of_lt (by omega), Nat.mod_eq_of_lt (by omega), Nat.mod_eq_of_lt h, Nat.or_comm, Nat.add_comm, Nat.mul_comm b]
  exact (Nat.two_pow_add_eq_or_of_lt ha b).symm
theorem md_rem {x y : Nat} (hx : x < 2 ^ 31) (h0 : 0 < y) (hy : y < 2 ^ 31) : nI x - nI x / nI y * nI y = nI (x % y) := pk_rem hx h0 hy
section MdRows2
variable {p : Program} {l : Launch} {e : Env} {R : Room} {s : State} {m : MethodId} {args : Array Value} {below : List Frame} {meth : Method} {c : Code} {H : Heap} {locs : List Loc} {cells slots : Nat} {Q : State → Prop} {cc : ByteArray} {pc : Nat} {ls : Array Slot} {rest : List Value} {own : String} {nL : Nat}
theorem nv_ishrp (hC : CallFix p m c cc nL s args lw_T own) {n k q : Nat} (hq : 2 ^ k = q) (hn : n < 2 ^ 31) (hk : k < 32) (hdg : decode cc pc = .ok (.ishr, 1)) (kk : W p l e R s m args below meth c H locs cells slots Q (F0 m (pc + 1) ls (.int (nI (n / q)) :: rest))) : W p l e R s m args below meth c H locs cells slots Q (F0 m pc ls (.int (nI k) :: .int (nI n) :: rest)) := by
  subst hq
  exact nv_ishr hC hn hk hdg kk
theorem nv_iandp (hC : CallFix p m c cc nL s args lw_T own) {n k q r : Nat} (hq : 2 ^ k = q) (hr : 2 ^ k - 1 = r) (hn : n < 2 ^ 32) (hk : k < 32) (hdg : decode cc pc = .ok (.iand, 1)) (kk : W p l e R s m args below meth c H locs cells slots Q (F0 m (pc + 1) ls (.int (nI (n % q)) :: rest))) : W p l e R s m args below meth c H locs cells slots Q (F0 m pc ls (.int (nI r) :: .int (nI n) :: rest)) := by
  subst hq
  subst hr
  exact nv_iand hC hn hk hdg kk
theorem nv_lshrp (hC : CallFix p m c cc nL s args lw_T own) {n k q : Nat} (hq : 2 ^ k = q) (hn : n < 2 ^ 63) (hk : k < 64) (hdg : decode cc pc = .ok (.lshr, 1)) (kk : W p l e R s m args below meth c H locs cells slots Q (F0 m (pc + 1) ls (.long (lN (n / q)) :: rest))) : W p l e R s m args below meth c H locs cells slots Q (F0 m pc ls (.int (nI k) :: .long (lN n) :: rest)) := by
  subst hq
  exact lv_lshr hC.1 hC.2.1 hdg (md_shrN hn hk) kk
theorem nv_land16 (hC : CallFix p m c cc nL s args lw_T own) {n : Nat} (hn : n < 2 ^ 64) (hdg : decode cc pc = .ok (.land, 1)) (kk : W p l e R s m args below meth c H locs cells slots Q (F0 m (pc + 1) ls (.long (lN (n % 65536)) :: rest))) : W p l e R s m args below meth c H locs cells slots Q (F0 m pc ls (.long (lN 65535) :: .long (lN n) :: rest)) :=
  lv_land hC.1 hC.2.1 hdg (by rw [show lN 65535 = lN (2 ^ 16 - 1) from rfl, wb_mask hn (by decide)]; exact kk)
/-- (bits >> k) & 65535 -/
theorem nv_dig (hC : CallFix p m c cc nL s args lw_T own) {index n k : Nat} (hc : Cond.constantLong own index 65535 ∈ lw_T) (hn : n < 2 ^ 64) (hk : k ≤ 48) (h1 : decode cc pc = .ok (.lshr, 1)) (h2 : decode cc (pc + 1) = .ok (.ldc2_w index, 3)) (h3 : decode cc (pc + 4) = .ok (.land, 1)) (kk : W p l e R s m args below meth c H locs cells slots Q (F0 m (pc + 5) ls (.long (lN (n / 2 ^ k % 65536)) :: rest))) : W p l e R s m args below meth c H locs cells slots Q (F0 m pc ls (.int (nI k) :: .long (lN n) :: rest)) := by
  refine lv_lshr hC.1 hC.2.1 h1 rfl ?_
  refine lv_ldc2 (v := 65535) hC.1 hC.2.1 hC.2.2.2.1 (hC.2.2.2.2 _ hc) h2 ?_
  refine lv_land hC.1 hC.2.1 h3 ?_
  rw [md_dig hn hk]
  exact kk
theorem nv_ior (hC : CallFix p m c cc nL s args lw_T own) {a b k : Nat} (ha : a < 2 ^ k) (h : a + b * 2 ^ k < 2 ^ 32) (hdg : decode cc pc = .ok (.ior, 1)) (kk : W p l e R s m args below meth c H locs cells slots Q (F0 m (pc + 1) ls (.int (nI (a + b * 2 ^ k)) :: rest))) : W p l e R s m args below meth c H locs cells slots Q (F0 m pc ls (.int (nI (b * 2 ^ k)) :: .int (nI a) :: rest)) :=
  lv_ior hC.1 hC.2.1 hdg (by rw [md_or ha h]; exact kk)
theorem nv_ishl (hC : CallFix p m c cc nL s args lw_T own) {b k : Nat} (hk : k < 32) (h : b * 2 ^ k < 2 ^ 32) (hdg : decode cc pc = .ok (.ishl, 1)) (kk : W p l e R s m args below meth c H locs cells slots Q (F0 m (pc + 1) ls (.int (nI (b * 2 ^ k)) :: rest))) : W p l e R s m args below meth c H locs cells slots Q (F0 m pc ls (.int (nI k) :: .int (nI b) :: rest)) :=
  lv_ishl hC.1 hC.2.1 hdg (by rw [pk_shlN _ k (wm_s_l k hk) h]; exact kk)
theorem nv_irem (hC : CallFix p m c cc nL s args lw_T own) {x y : Nat} (hx : x < 2 ^ 31) (h0 : 0 < y) (hy : y < 2 ^ 31) (hdg : decode cc pc = .ok (.irem, 1)) (kk : W p l e R s m args below meth c H locs cells slots Q (F0 m (pc + 1) ls (.int (nI (x % y)) :: rest))) : W p l e R s m args below meth c H locs cells slots Q (F0 m pc ls (.int (nI y) :: .int (nI x) :: rest)) :=
  lv_irem hC.1 hC.2.1 hdg (nI_ne0 h0 hy) (by rw [md_rem hx h0 hy]; exact kk)
end MdRows2
/-! ===== the model holds the numbers N ===== -/
def md_R (N : Nat → Nat) (wd : Nat → Nat → Nat) : Prop := ∀ r, r < 16 → mr_r 4096 (fun i => wd 0 (4096 * r + i)) (wd 1 r) (N r)
theorem md_R_of {N : Nat → Nat} {wd wd' : Nat → Nat → Nat} (h : md_R N wd) (h0 : wd' 0 = wd 0) (h1 : wd' 1 = wd 1) : md_R N wd' := by
  intro r hr
  rw [h0, h1]
  exact h r hr
theorem md_R_L {N : Nat → Nat} {wd : Nat → Nat → Nat} {r : Nat} (h : md_R N wd) (hr : r < 16) : N r < sp_L := by
  rw [mr_L]
  exact Nat.lt_of_lt_of_le (mr_lt (h r hr)) (Nat.pow_le_pow_right (by decide) (h r hr).1)
theorem md_R_up {N : Nat → Nat} {wd wd' : Nat → Nat → Nat} {d X : Nat} (h : md_R N wd) (hd : d < 16) (ho : ∀ q, (q < 4096 * d ∨ 4096 * d + 4096 ≤ q) → wd' 0 q = wd 0 q) (h1 : ∀ q, q ≠ d → wd' 1 q = wd 1 q) (hX : mr_r 4096 (fun i => wd' 0 (4096 * d + i)) (wd' 1 d) X) : md_R (va_up N d X) wd' := by
  intro r hr
  by_cases e : r = d
  · subst e
    rw [va_up_self]
    exact hX
  · rw [va_up_ne _ _ e, h1 r e]
    obtain ⟨a1, a2, a3, a4, a5⟩ := h r hr
    have ee : ∀ i, i < 4096 → wd' 0 (4096 * r + i) = wd 0 (4096 * r + i) := fun i hi => ho _ (by omega)
    refine ⟨a1, fun i hi => ?_, fun i h2 h3 => ?_, fun h2 => ?_, ?_⟩
    · show wd' 0 (4096 * r + i) < 65536
      rw [ee i hi]
      exact a2 i hi
    · show wd' 0 (4096 * r + i) = 0
      rw [ee i h3]
      exact a3 i h2 h3
    · show wd' 0 (4096 * r + (wd 1 r - 1)) ≠ 0
      rw [ee _ (by omega)]
      exact a4 h2
    · rw [← a5]
      exact mv_congr (fun i hi => ee i (by omega))
theorem md_fill {f g : Nat → Nat} {k v : Nat} (hf : ∀ q, q < k → f q = g q) (hv : v = g k) : ∀ q, q < k + 1 → va_up f k v q = g q := by
  intro q hq
  by_cases e : q = k
  · rw [e, va_up_self, hv]
  · rw [va_up_ne _ _ e]
    exact hf q (by omega)
theorem md_keep {w wd : Nat → Nat → Nat} {i : Nat} {f : Nat → Nat} (hw : ∀ j, j ≠ i → w j = wd j) : ∀ j, j ≠ i → va_up w i f j = wd j := fun j hj => by rw [va_up_ne _ _ hj]; exact hw j hj
theorem mr_mk {cap : Nat} {f : Nat → Nat} {n V : Nat} (hn : n ≤ cap) (hd : mv_d f cap) (hz : ∀ k, n ≤ k → k < cap → f k = 0) (hV : mv_v f n = V) (hl : n = 0 ∨ 65536 ^ (n - 1) ≤ V) : mr_r cap f n V := by
  refine ⟨hn, hd, hz, fun h0 z => ?_, hV⟩
  obtain ⟨j, rfl⟩ : ∃ j, n = j + 1 := ⟨n - 1, by omega⟩
  rw [Nat.add_sub_cancel] at z
  rcases hl with h | h
  · omega
  · rw [Nat.add_sub_cancel, ← hV, mv_s, z, Nat.zero_mul, Nat.add_zero] at h
    exact absurd (mv_lt (n := j) (fun i hi => hd i (by omega))) (Nat.not_lt.mpr h)
theorem mr_ld {g f : Nat → Nat} {n A : Nat} (h : mr_r 4096 g n A) (hf : ∀ q, q < 8200 → f q = if q < n then g q else 0) : mr_r 8200 f n A := by
  obtain ⟨h1, h2, h3, h4, h5⟩ := h
  refine ⟨by omega, fun q hq => ?_, fun q a b => by rw [hf q b, if_neg (by omega)], fun a => ?_, ?_⟩
  · rw [hf q hq]
    split
    · exact h2 q (by omega)
    · omega
  · rw [hf _ (by omega), if_pos (by omega)]
    exact h4 a
  · rw [← h5]
    exact mv_congr (fun k hk => by rw [hf k (by omega), if_pos hk])
/-- the digits that put writes -/
theorem mr_put {g f : Nat → Nat} {n t X : Nat} (h : mr_r n g t X) (ht : t ≤ 4096) (hf : ∀ q, q < 4096 → f q = if q < t then g q else 0) : mr_r 4096 f t X := by
  obtain ⟨h1, h2, h3, h4, h5⟩ := h
  refine ⟨ht, fun q hq => ?_, fun q a b => by rw [hf q b, if_neg (by omega)], fun a => ?_, ?_⟩
  · rw [hf q hq]
    split
    · exact h2 q (by omega)
    · omega
  · rw [hf _ (by omega), if_pos (by omega)]
    exact h4 a
  · rw [← h5]
    exact mv_congr (fun k hk => by rw [hf k (by omega), if_pos hk])
theorem mr_trim {g : Nat → Nat} {n : Nat} (hd : mv_d g 8200) (hn : n ≤ 8200) : mr_r n g (mv_top g n) (mv_v g n) :=
  mr_of (Nat.le_refl _) (fun i hi => hd i (by omega)) (fun k h1 h2 => absurd h2 (by omega))
theorem mr_small {g : Nat → Nat} {n t X : Nat} (h : mr_r n g t X) (ht : t ≤ 4096) : X < sp_L := by
  rw [mr_L]
  exact Nat.lt_of_lt_of_le (mr_lt h) (Nat.pow_le_pow_right (by decide) ht)
theorem mr_big {g : Nat → Nat} {n t X : Nat} (h : mr_r n g t X) (ht : 4096 < t) : ¬ X < sp_L := by
  obtain ⟨j, rfl⟩ : ∃ j, t = j + 1 := ⟨t - 1, by omega⟩
  rw [mr_L]
  exact Nat.not_lt.mpr (Nat.le_trans (Nat.pow_le_pow_right (by decide) (by omega)) (mr_ge h))
theorem md_neg {a b c : Nat} (hb : b < 65536) (hc : c ≤ 1) (h : a < b + c) : nI a - nI b - nI c < 0 ∧ nI a - nI b - nI c + nI 65536 = nI (65536 + a - b - c) := by
  have e : nI a - nI b - nI c = nI a - nI (b + c) := by rw [← nI_add, Int32.sub_sub]
  rw [e]
  refine ⟨pk_sneg (by omega) h, ?_⟩
  have e2 : nI (65536 + a - b - c) = nI (65536 + a) - nI (b + c) := by rw [pk_sub (by omega)]; exact congrArg nI (by omega)
  rw [e2, Int32.sub_eq_add_neg, Int32.sub_eq_add_neg, Int32.add_assoc, Int32.add_comm (-nI (b + c)), ← Int32.add_assoc, nI_add, Nat.add_comm a]
theorem mv_bit {f : Nat → Nat} {n q : Nat} (hd : mv_d f n) (hq : q / 16 < n) : mv_v f n / 2 ^ q % 2 = f (q / 16) / 2 ^ (q % 16) % 2 := by
  have e : 2 ^ q = 65536 ^ (q / 16) * 2 ^ (q % 16) := by
    rw [show (65536 : Nat) = 2 ^ 16 from rfl, ← Nat.pow_mul, ← Nat.pow_add, Nat.div_add_mod]
  have h2 : q % 16 < 16 := Nat.mod_lt _ (by decide)
  have e3 : 65536 = 2 ^ (q % 16) * (2 * 2 ^ (15 - q % 16)) := by
    rw [Nat.mul_comm 2, ← Nat.pow_succ, ← Nat.pow_add, show q % 16 + (15 - q % 16).succ = 16 by omega]
  rw [e, ← Nat.div_div_eq_div_mul, ← mv_dig hd hq]
  generalize mv_v f n / 65536 ^ (q / 16) = y
  conv => rhs; rw [e3]
  rw [Nat.mod_mul_right_div_self, Nat.mod_mul_right_mod]
