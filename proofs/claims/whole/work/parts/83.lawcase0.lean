set_option maxHeartbeats 4000000 in
set_option maxRecDepth 100000 in
theorem lw_case_push {p : Program} {l : Launch} {e : Env} {s : State} {m : MethodId} {below : List Frame} {meth : Method} {c : Code} {Q : State → Prop} {D : va_G} {ad ad2 : Nat → Nat} {cA cR cB : ClassId} {b L : Nat} {xs : Nat → Int32} (hC : CallFix p m c code 4 s #[Value.ref b] lw_T R_law) (hK1 : va_K D classes (wm_ty cA cR) s) (hK2 : va_K D classes (md_ty cB) s) (hX : va_X b L xs s s.heap) (hbl : b < s.heap.size) (hL : L ≤ 2560) {i : Nat} (hi : i + 5 ≤ L) (N : Nat → Nat) (ln : Nat → Nat) (wd : Nat → Nat → Int32) (ln2 : Nat → Nat) (wd2 : Nat → Nat → Nat) (hR : wm_R N ln wd) (hR2 : md_R N wd2)
    (hnext : ∀ (N : Nat → Nat) (ln : Nat → Nat) (wd : Nat → Nat → Int32) (ln2 : Nat → Nat) (wd2 : Nat → Nat → Nat) (H : Heap) (locs : List Loc) (ls : Array Slot), wm_R N ln wd → md_R N wd2 → lw_M D ad cA cR ad2 cB s ln wd ln2 wd2 H locs → lv_has ls 4 [(0, .ref (b)), (1, .ref (ad 38)), (2, .ref (ad2 5)), (3, .int (nI (i)))] → W p l e room_1 s m #[Value.ref b] below meth c H locs 600000 7302250 Q (F0 m 770 ls [])) :
    ∀ (H : Heap) (locs : List Loc) (ls : Array Slot), lw_M D ad cA cR ad2 cB s ln wd ln2 wd2 H locs → lv_has ls 4 [(0, .ref (b)), (1, .ref (ad 38)), (2, .ref (ad2 5)), (3, .int (nI (i)))] → W p l e room_1 s m #[Value.ref b] below meth c H locs 600000 7302250 Q (F0 m 112 ls []) := by
  intro H locs ls hM hl
  have hu1 := wm_u_lt (xs (i + 2))
  have hu2 := wm_u_lt (xs (i + 3))
  have hp0 : (wm_u (xs (i + 2)) * 2 ^ 32 + (wm_u (xs (i + 3)))) < 2 ^ 64 := by omega
  refine lv_aload_n hC.1 hC.2.1 d_law_112 rfl (lv_at hl 1 rfl) ?_
  refine lv_aload_n hC.1 hC.2.1 d_law_113 rfl (lv_at hl 0 rfl) ?_
  refine lv_iload_n hC.1 hC.2.1 d_law_114 rfl (lv_at hl 3 rfl) ?_
  refine lv_iconst (v := nI 1) hC.1 hC.2.1 d_law_115 (by decide) ?_
  refine nv_iadd hC d_law_116 ?_
  refine lw_ld hC hX hbl hM.2.2 (k := i + 1) (by omega) hL d_law_117 ?_
  refine lv_aload_n hC.1 hC.2.1 d_law_118 rfl (lv_at hl 0 rfl) ?_
  refine lv_iload_n hC.1 hC.2.1 d_law_119 rfl (lv_at hl 3 rfl) ?_
  refine lv_iconst (v := nI 2) hC.1 hC.2.1 d_law_120 (by decide) ?_
  refine nv_iadd hC d_law_121 ?_
  refine lw_ld hC hX hbl hM.2.2 (k := i + 2) (by omega) hL d_law_122 ?_
  refine nv_hi hC d_law_123 d_law_124 d_law_126 ?_
  refine lv_aload_n hC.1 hC.2.1 d_law_127 rfl (lv_at hl 0 rfl) ?_
  refine lv_iload_n hC.1 hC.2.1 d_law_128 rfl (lv_at hl 3 rfl) ?_
  refine lv_iconst (v := nI 3) hC.1 hC.2.1 d_law_129 (by decide) ?_
  refine nv_iadd hC d_law_130 ?_
  refine lw_ld hC hX hbl hM.2.2 (k := i + 3) (by omega) hL d_law_131 ?_
  refine nv_low hC kl_law_13 d_law_132 d_law_133 d_law_136 ?_
  refine nv_pair (k := 32) hC (by omega) (by omega) d_law_137 ?_
  refine lw_callw hC hK1 hK2 hM (As := [.int (xs (i + 1)), .long (lN (wm_u (xs (i + 2)) * 2 ^ 32 + (wm_u (xs (i + 3)))))]) (rest := []) rfl (c_Mill_push l D ad cA cR _ ln wd N hR (xs (i + 1)) (wm_u (xs (i + 2)) * 2 ^ 32 + (wm_u (xs (i + 3)))) hp0) kc_Mill_push km_law_15 ki_Mill kn_Mill_push ke_Mill_push kd_Mill_push ⟨rfl, rfl⟩ ⟨Nat.le_of_ble_eq_true rfl, Nat.le_of_ble_eq_true rfl⟩ rfl hl.1 (Nat.le_of_ble_eq_true rfl) d_law_138 (fun r1 u1 H locs hp1 hM => ?_)
  refine lv_aload_n hC.1 hC.2.1 d_law_141 rfl (lv_at hl 2 rfl) ?_
  refine lv_aload_n hC.1 hC.2.1 d_law_142 rfl (lv_at hl 0 rfl) ?_
  refine lv_iload_n hC.1 hC.2.1 d_law_143 rfl (lv_at hl 3 rfl) ?_
  refine lv_iconst (v := nI 1) hC.1 hC.2.1 d_law_144 (by decide) ?_
  refine nv_iadd hC d_law_145 ?_
  refine lw_ld hC hX hbl hM.2.2 (k := i + 1) (by omega) hL d_law_146 ?_
  refine lv_aload_n hC.1 hC.2.1 d_law_147 rfl (lv_at hl 0 rfl) ?_
  refine lv_iload_n hC.1 hC.2.1 d_law_148 rfl (lv_at hl 3 rfl) ?_
  refine lv_iconst (v := nI 2) hC.1 hC.2.1 d_law_149 (by decide) ?_
  refine nv_iadd hC d_law_150 ?_
  refine lw_ld hC hX hbl hM.2.2 (k := i + 2) (by omega) hL d_law_151 ?_
  refine nv_hi hC d_law_152 d_law_153 d_law_155 ?_
  refine lv_aload_n hC.1 hC.2.1 d_law_156 rfl (lv_at hl 0 rfl) ?_
  refine lv_iload_n hC.1 hC.2.1 d_law_157 rfl (lv_at hl 3 rfl) ?_
  refine lv_iconst (v := nI 3) hC.1 hC.2.1 d_law_158 (by decide) ?_
  refine nv_iadd hC d_law_159 ?_
  refine lw_ld hC hX hbl hM.2.2 (k := i + 3) (by omega) hL d_law_160 ?_
  refine nv_low hC kl_law_13 d_law_161 d_law_162 d_law_165 ?_
  refine nv_pair (k := 32) hC (by omega) (by omega) d_law_166 ?_
  refine lw_callm hC hK1 hK2 hM (As := [.int (xs (i + 1)), .long (lN (wm_u (xs (i + 2)) * 2 ^ 32 + (wm_u (xs (i + 3)))))]) (rest := [.int (r1)]) rfl (c_Mod_push l D ad2 cB _ ln2 wd2 N hR2 (xs (i + 1)) (wm_u (xs (i + 2)) * 2 ^ 32 + (wm_u (xs (i + 3)))) hp0) kc_Mod_push km_law_19 ki_Mod kn_Mod_push ke_Mod_push kd_Mod_push ⟨rfl, rfl⟩ ⟨Nat.le_of_ble_eq_true rfl, Nat.le_of_ble_eq_true rfl⟩ rfl hl.1 (Nat.le_of_ble_eq_true rfl) d_law_167 (fun r2 u2 H locs hp2 hM => ?_)
  refine lv_icmp_eq (tgt := 770) hC.1 hC.2.1 d_law_170 (by decide) (fun hc => ?_) (fun hc => ?_)
  · exact hnext _ u1.1 u1.2 u2.1 u2.2 H locs ls hp1.2 hp2.2 hM hl
  · exact absurd (by rw [hp1.1, hp2.1]) hc
set_option maxHeartbeats 4000000 in
set_option maxRecDepth 100000 in
theorem lw_case_spread {p : Program} {l : Launch} {e : Env} {s : State} {m : MethodId} {below : List Frame} {meth : Method} {c : Code} {Q : State → Prop} {D : va_G} {ad ad2 : Nat → Nat} {cA cR cB : ClassId} {b L : Nat} {xs : Nat → Int32} (hC : CallFix p m c code 4 s #[Value.ref b] lw_T R_law) (hK1 : va_K D classes (wm_ty cA cR) s) (hK2 : va_K D classes (md_ty cB) s) (hX : va_X b L xs s s.heap) (hbl : b < s.heap.size) (hL : L ≤ 2560) {i : Nat} (hi : i + 5 ≤ L) (N : Nat → Nat) (ln : Nat → Nat) (wd : Nat → Nat → Int32) (ln2 : Nat → Nat) (wd2 : Nat → Nat → Nat) (hR : wm_R N ln wd) (hR2 : md_R N wd2)
    (hnext : ∀ (N : Nat → Nat) (ln : Nat → Nat) (wd : Nat → Nat → Int32) (ln2 : Nat → Nat) (wd2 : Nat → Nat → Nat) (H : Heap) (locs : List Loc) (ls : Array Slot), wm_R N ln wd → md_R N wd2 → lw_M D ad cA cR ad2 cB s ln wd ln2 wd2 H locs → lv_has ls 4 [(0, .ref (b)), (1, .ref (ad 38)), (2, .ref (ad2 5)), (3, .int (nI (i)))] → W p l e room_1 s m #[Value.ref b] below meth c H locs 600000 7302250 Q (F0 m 770 ls [])) :
    ∀ (H : Heap) (locs : List Loc) (ls : Array Slot), lw_M D ad cA cR ad2 cB s ln wd ln2 wd2 H locs → lv_has ls 4 [(0, .ref (b)), (1, .ref (ad 38)), (2, .ref (ad2 5)), (3, .int (nI (i)))] → W p l e room_1 s m #[Value.ref b] below meth c H locs 600000 7302250 Q (F0 m 175 ls []) := by
  intro H locs ls hM hl
  have hu1 := wm_u_lt (xs (i + 2))
  have hu2 := wm_u_lt (xs (i + 3))
  have hp0 : (wm_u (xs (i + 2)) * 2 ^ 32 + (wm_u (xs (i + 3)))) < 2 ^ 64 := by omega
  refine lv_aload_n hC.1 hC.2.1 d_law_175 rfl (lv_at hl 1 rfl) ?_
  refine lv_aload_n hC.1 hC.2.1 d_law_176 rfl (lv_at hl 0 rfl) ?_
  refine lv_iload_n hC.1 hC.2.1 d_law_177 rfl (lv_at hl 3 rfl) ?_
  refine lv_iconst (v := nI 1) hC.1 hC.2.1 d_law_178 (by decide) ?_
  refine nv_iadd hC d_law_179 ?_
  refine lw_ld hC hX hbl hM.2.2 (k := i + 1) (by omega) hL d_law_180 ?_
  refine lv_aload_n hC.1 hC.2.1 d_law_181 rfl (lv_at hl 0 rfl) ?_
  refine lv_iload_n hC.1 hC.2.1 d_law_182 rfl (lv_at hl 3 rfl) ?_
  refine lv_iconst (v := nI 2) hC.1 hC.2.1 d_law_183 (by decide) ?_
  refine nv_iadd hC d_law_184 ?_
  refine lw_ld hC hX hbl hM.2.2 (k := i + 2) (by omega) hL d_law_185 ?_
  refine nv_hi hC d_law_186 d_law_187 d_law_189 ?_
  refine lv_aload_n hC.1 hC.2.1 d_law_190 rfl (lv_at hl 0 rfl) ?_
  refine lv_iload_n hC.1 hC.2.1 d_law_191 rfl (lv_at hl 3 rfl) ?_
  refine lv_iconst (v := nI 3) hC.1 hC.2.1 d_law_192 (by decide) ?_
  refine nv_iadd hC d_law_193 ?_
  refine lw_ld hC hX hbl hM.2.2 (k := i + 3) (by omega) hL d_law_194 ?_
  refine nv_low hC kl_law_13 d_law_195 d_law_196 d_law_199 ?_
  refine nv_pair (k := 32) hC (by omega) (by omega) d_law_200 ?_
  refine lv_aload_n hC.1 hC.2.1 d_law_201 rfl (lv_at hl 0 rfl) ?_
  refine lv_iload_n hC.1 hC.2.1 d_law_202 rfl (lv_at hl 3 rfl) ?_
  refine lv_iconst (v := nI 4) hC.1 hC.2.1 d_law_203 (by decide) ?_
  refine nv_iadd hC d_law_204 ?_
  refine lw_ld hC hX hbl hM.2.2 (k := i + 4) (by omega) hL d_law_205 ?_
  refine lw_callw hC hK1 hK2 hM (As := [.int (xs (i + 1)), .long (lN (wm_u (xs (i + 2)) * 2 ^ 32 + (wm_u (xs (i + 3))))), .int (xs (i + 4))]) (rest := []) rfl (c_Mill_spread l D ad cA cR _ ln wd N hR (xs (i + 1)) (wm_u (xs (i + 2)) * 2 ^ 32 + (wm_u (xs (i + 3)))) hp0 (xs (i + 4))) kc_Mill_spread km_law_20 ki_Mill kn_Mill_spread ke_Mill_spread kd_Mill_spread ⟨rfl, rfl⟩ ⟨Nat.le_of_ble_eq_true rfl, Nat.le_of_ble_eq_true rfl⟩ rfl hl.1 (Nat.le_of_ble_eq_true rfl) d_law_206 (fun r1 u1 H locs hp1 hM => ?_)
  refine lv_aload_n hC.1 hC.2.1 d_law_209 rfl (lv_at hl 2 rfl) ?_
  refine lv_aload_n hC.1 hC.2.1 d_law_210 rfl (lv_at hl 0 rfl) ?_
  refine lv_iload_n hC.1 hC.2.1 d_law_211 rfl (lv_at hl 3 rfl) ?_
  refine lv_iconst (v := nI 1) hC.1 hC.2.1 d_law_212 (by decide) ?_
  refine nv_iadd hC d_law_213 ?_
  refine lw_ld hC hX hbl hM.2.2 (k := i + 1) (by omega) hL d_law_214 ?_
  refine lv_aload_n hC.1 hC.2.1 d_law_215 rfl (lv_at hl 0 rfl) ?_
  refine lv_iload_n hC.1 hC.2.1 d_law_216 rfl (lv_at hl 3 rfl) ?_
  refine lv_iconst (v := nI 2) hC.1 hC.2.1 d_law_217 (by decide) ?_
  refine nv_iadd hC d_law_218 ?_
  refine lw_ld hC hX hbl hM.2.2 (k := i + 2) (by omega) hL d_law_219 ?_
  refine nv_hi hC d_law_220 d_law_221 d_law_223 ?_
  refine lv_aload_n hC.1 hC.2.1 d_law_224 rfl (lv_at hl 0 rfl) ?_
  refine lv_iload_n hC.1 hC.2.1 d_law_225 rfl (lv_at hl 3 rfl) ?_
  refine lv_iconst (v := nI 3) hC.1 hC.2.1 d_law_226 (by decide) ?_
  refine nv_iadd hC d_law_227 ?_
  refine lw_ld hC hX hbl hM.2.2 (k := i + 3) (by omega) hL d_law_228 ?_
  refine nv_low hC kl_law_13 d_law_229 d_law_230 d_law_233 ?_
  refine nv_pair (k := 32) hC (by omega) (by omega) d_law_234 ?_
  refine lv_aload_n hC.1 hC.2.1 d_law_235 rfl (lv_at hl 0 rfl) ?_
  refine lv_iload_n hC.1 hC.2.1 d_law_236 rfl (lv_at hl 3 rfl) ?_
  refine lv_iconst (v := nI 4) hC.1 hC.2.1 d_law_237 (by decide) ?_
  refine nv_iadd hC d_law_238 ?_
  refine lw_ld hC hX hbl hM.2.2 (k := i + 4) (by omega) hL d_law_239 ?_
  refine lw_callm hC hK1 hK2 hM (As := [.int (xs (i + 1)), .long (lN (wm_u (xs (i + 2)) * 2 ^ 32 + (wm_u (xs (i + 3))))), .int (xs (i + 4))]) (rest := [.int (r1)]) rfl (c_Mod_spread l D ad2 cB _ ln2 wd2 N hR2 (xs (i + 1)) (wm_u (xs (i + 2)) * 2 ^ 32 + (wm_u (xs (i + 3)))) hp0 (xs (i + 4))) kc_Mod_spread km_law_24 ki_Mod kn_Mod_spread ke_Mod_spread kd_Mod_spread ⟨rfl, rfl⟩ ⟨Nat.le_of_ble_eq_true rfl, Nat.le_of_ble_eq_true rfl⟩ rfl hl.1 (Nat.le_of_ble_eq_true rfl) d_law_240 (fun r2 u2 H locs hp2 hM => ?_)
  refine lv_icmp_eq (tgt := 770) hC.1 hC.2.1 d_law_243 (by decide) (fun hc => ?_) (fun hc => ?_)
  · exact hnext _ u1.1 u1.2 u2.1 u2.2 H locs ls hp1.2 hp2.2 hM hl
  · exact absurd (by rw [hp1.1, hp2.1]) hc
set_option maxHeartbeats 4000000 in
set_option maxRecDepth 100000 in
theorem lw_case_copy {p : Program} {l : Launch} {e : Env} {s : State} {m : MethodId} {below : List Frame} {meth : Method} {c : Code} {Q : State → Prop} {D : va_G} {ad ad2 : Nat → Nat} {cA cR cB : ClassId} {b L : Nat} {xs : Nat → Int32} (hC : CallFix p m c code 4 s #[Value.ref b] lw_T R_law) (hK1 : va_K D classes (wm_ty cA cR) s) (hK2 : va_K D classes (md_ty cB) s) (hX : va_X b L xs s s.heap) (hbl : b < s.heap.size) (hL : L ≤ 2560) {i : Nat} (hi : i + 5 ≤ L) (N : Nat → Nat) (ln : Nat → Nat) (wd : Nat → Nat → Int32) (ln2 : Nat → Nat) (wd2 : Nat → Nat → Nat) (hR : wm_R N ln wd) (hR2 : md_R N wd2)
    (hnext : ∀ (N : Nat → Nat) (ln : Nat → Nat) (wd : Nat → Nat → Int32) (ln2 : Nat → Nat) (wd2 : Nat → Nat → Nat) (H : Heap) (locs : List Loc) (ls : Array Slot), wm_R N ln wd → md_R N wd2 → lw_M D ad cA cR ad2 cB s ln wd ln2 wd2 H locs → lv_has ls 4 [(0, .ref (b)), (1, .ref (ad 38)), (2, .ref (ad2 5)), (3, .int (nI (i)))] → W p l e room_1 s m #[Value.ref b] below meth c H locs 600000 7302250 Q (F0 m 770 ls [])) :
    ∀ (H : Heap) (locs : List Loc) (ls : Array Slot), lw_M D ad cA cR ad2 cB s ln wd ln2 wd2 H locs → lv_has ls 4 [(0, .ref (b)), (1, .ref (ad 38)), (2, .ref (ad2 5)), (3, .int (nI (i)))] → W p l e room_1 s m #[Value.ref b] below meth c H locs 600000 7302250 Q (F0 m 248 ls []) := by
  intro H locs ls hM hl
  refine lv_aload_n hC.1 hC.2.1 d_law_248 rfl (lv_at hl 1 rfl) ?_
  refine lv_aload_n hC.1 hC.2.1 d_law_249 rfl (lv_at hl 0 rfl) ?_
  refine lv_iload_n hC.1 hC.2.1 d_law_250 rfl (lv_at hl 3 rfl) ?_
  refine lv_iconst (v := nI 1) hC.1 hC.2.1 d_law_251 (by decide) ?_
  refine nv_iadd hC d_law_252 ?_
  refine lw_ld hC hX hbl hM.2.2 (k := i + 1) (by omega) hL d_law_253 ?_
  refine lv_aload_n hC.1 hC.2.1 d_law_254 rfl (lv_at hl 0 rfl) ?_
  refine lv_iload_n hC.1 hC.2.1 d_law_255 rfl (lv_at hl 3 rfl) ?_
  refine lv_iconst (v := nI 2) hC.1 hC.2.1 d_law_256 (by decide) ?_
  refine nv_iadd hC d_law_257 ?_
  refine lw_ld hC hX hbl hM.2.2 (k := i + 2) (by omega) hL d_law_258 ?_
  refine lw_callw hC hK1 hK2 hM (As := [.int (xs (i + 1)), .int (xs (i + 2))]) (rest := []) rfl (c_Mill_copy l D ad cA cR _ ln wd N hR (xs (i + 1)) (xs (i + 2))) kc_Mill_copy km_law_25 ki_Mill kn_Mill_copy ke_Mill_copy kd_Mill_copy ⟨rfl, rfl⟩ ⟨Nat.le_of_ble_eq_true rfl, Nat.le_of_ble_eq_true rfl⟩ rfl hl.1 (Nat.le_of_ble_eq_true rfl) d_law_259 (fun r1 u1 H locs hp1 hM => ?_)
  refine lv_aload_n hC.1 hC.2.1 d_law_262 rfl (lv_at hl 2 rfl) ?_
  refine lv_aload_n hC.1 hC.2.1 d_law_263 rfl (lv_at hl 0 rfl) ?_
  refine lv_iload_n hC.1 hC.2.1 d_law_264 rfl (lv_at hl 3 rfl) ?_
  refine lv_iconst (v := nI 1) hC.1 hC.2.1 d_law_265 (by decide) ?_
  refine nv_iadd hC d_law_266 ?_
  refine lw_ld hC hX hbl hM.2.2 (k := i + 1) (by omega) hL d_law_267 ?_
  refine lv_aload_n hC.1 hC.2.1 d_law_268 rfl (lv_at hl 0 rfl) ?_
  refine lv_iload_n hC.1 hC.2.1 d_law_269 rfl (lv_at hl 3 rfl) ?_
  refine lv_iconst (v := nI 2) hC.1 hC.2.1 d_law_270 (by decide) ?_
  refine nv_iadd hC d_law_271 ?_
  refine lw_ld hC hX hbl hM.2.2 (k := i + 2) (by omega) hL d_law_272 ?_
  refine lw_callm hC hK1 hK2 hM (As := [.int (xs (i + 1)), .int (xs (i + 2))]) (rest := [.int (r1)]) rfl (c_Mod_copy l D ad2 cB _ ln2 wd2 N hR2 (xs (i + 1)) (xs (i + 2))) kc_Mod_copy km_law_29 ki_Mod kn_Mod_copy ke_Mod_copy kd_Mod_copy ⟨rfl, rfl⟩ ⟨Nat.le_of_ble_eq_true rfl, Nat.le_of_ble_eq_true rfl⟩ rfl hl.1 (Nat.le_of_ble_eq_true rfl) d_law_273 (fun r2 u2 H locs hp2 hM => ?_)
  refine lv_icmp_eq (tgt := 770) hC.1 hC.2.1 d_law_276 (by decide) (fun hc => ?_) (fun hc => ?_)
  · exact hnext _ u1.1 u1.2 u2.1 u2.2 H locs ls hp1.2 hp2.2 hM hl
  · exact absurd (by rw [hp1.1, hp2.1]) hc
set_option maxHeartbeats 4000000 in
set_option maxRecDepth 100000 in
theorem lw_case_add {p : Program} {l : Launch} {e : Env} {s : State} {m : MethodId} {below : List Frame} {meth : Method} {c : Code} {Q : State → Prop} {D : va_G} {ad ad2 : Nat → Nat} {cA cR cB : ClassId} {b L : Nat} {xs : Nat → Int32} (hC : CallFix p m c code 4 s #[Value.ref b] lw_T R_law) (hK1 : va_K D classes (wm_ty cA cR) s) (hK2 : va_K D classes (md_ty cB) s) (hX : va_X b L xs s s.heap) (hbl : b < s.heap.size) (hL : L ≤ 2560) {i : Nat} (hi : i + 5 ≤ L) (N : Nat → Nat) (ln : Nat → Nat) (wd : Nat → Nat → Int32) (ln2 : Nat → Nat) (wd2 : Nat → Nat → Nat) (hR : wm_R N ln wd) (hR2 : md_R N wd2)
    (hnext : ∀ (N : Nat → Nat) (ln : Nat → Nat) (wd : Nat → Nat → Int32) (ln2 : Nat → Nat) (wd2 : Nat → Nat → Nat) (H : Heap) (locs : List Loc) (ls : Array Slot), wm_R N ln wd → md_R N wd2 → lw_M D ad cA cR ad2 cB s ln wd ln2 wd2 H locs → lv_has ls 4 [(0, .ref (b)), (1, .ref (ad 38)), (2, .ref (ad2 5)), (3, .int (nI (i)))] → W p l e room_1 s m #[Value.ref b] below meth c H locs 600000 7302250 Q (F0 m 770 ls [])) :
    ∀ (H : Heap) (locs : List Loc) (ls : Array Slot), lw_M D ad cA cR ad2 cB s ln wd ln2 wd2 H locs → lv_has ls 4 [(0, .ref (b)), (1, .ref (ad 38)), (2, .ref (ad2 5)), (3, .int (nI (i)))] → W p l e room_1 s m #[Value.ref b] below meth c H locs 600000 7302250 Q (F0 m 281 ls []) := by
  intro H locs ls hM hl
  refine lv_aload_n hC.1 hC.2.1 d_law_281 rfl (lv_at hl 1 rfl) ?_
  refine lv_aload_n hC.1 hC.2.1 d_law_282 rfl (lv_at hl 0 rfl) ?_
  refine lv_iload_n hC.1 hC.2.1 d_law_283 rfl (lv_at hl 3 rfl) ?_
  refine lv_iconst (v := nI 1) hC.1 hC.2.1 d_law_284 (by decide) ?_
  refine nv_iadd hC d_law_285 ?_
  refine lw_ld hC hX hbl hM.2.2 (k := i + 1) (by omega) hL d_law_286 ?_
  refine lv_aload_n hC.1 hC.2.1 d_law_287 rfl (lv_at hl 0 rfl) ?_
  refine lv_iload_n hC.1 hC.2.1 d_law_288 rfl (lv_at hl 3 rfl) ?_
  refine lv_iconst (v := nI 2) hC.1 hC.2.1 d_law_289 (by decide) ?_
  refine nv_iadd hC d_law_290 ?_
  refine lw_ld hC hX hbl hM.2.2 (k := i + 2) (by omega) hL d_law_291 ?_
  refine lv_aload_n hC.1 hC.2.1 d_law_292 rfl (lv_at hl 0 rfl) ?_
  refine lv_iload_n hC.1 hC.2.1 d_law_293 rfl (lv_at hl 3 rfl) ?_
  refine lv_iconst (v := nI 3) hC.1 hC.2.1 d_law_294 (by decide) ?_
  refine nv_iadd hC d_law_295 ?_
  refine lw_ld hC hX hbl hM.2.2 (k := i + 3) (by omega) hL d_law_296 ?_
  refine lw_callw hC hK1 hK2 hM (As := [.int (xs (i + 1)), .int (xs (i + 2)), .int (xs (i + 3))]) (rest := []) rfl (c_Mill_add l D ad cA cR _ ln wd N hR (xs (i + 1)) (xs (i + 2)) (xs (i + 3))) kc_Mill_add km_law_30 ki_Mill kn_Mill_add ke_Mill_add kd_Mill_add ⟨rfl, rfl⟩ ⟨Nat.le_of_ble_eq_true rfl, Nat.le_of_ble_eq_true rfl⟩ rfl hl.1 (Nat.le_of_ble_eq_true rfl) d_law_297 (fun r1 u1 H locs hp1 hM => ?_)
  refine lv_aload_n hC.1 hC.2.1 d_law_300 rfl (lv_at hl 2 rfl) ?_
  refine lv_aload_n hC.1 hC.2.1 d_law_301 rfl (lv_at hl 0 rfl) ?_
  refine lv_iload_n hC.1 hC.2.1 d_law_302 rfl (lv_at hl 3 rfl) ?_
  refine lv_iconst (v := nI 1) hC.1 hC.2.1 d_law_303 (by decide) ?_
  refine nv_iadd hC d_law_304 ?_
  refine lw_ld hC hX hbl hM.2.2 (k := i + 1) (by omega) hL d_law_305 ?_
  refine lv_aload_n hC.1 hC.2.1 d_law_306 rfl (lv_at hl 0 rfl) ?_
  refine lv_iload_n hC.1 hC.2.1 d_law_307 rfl (lv_at hl 3 rfl) ?_
  refine lv_iconst (v := nI 2) hC.1 hC.2.1 d_law_308 (by decide) ?_
  refine nv_iadd hC d_law_309 ?_
  refine lw_ld hC hX hbl hM.2.2 (k := i + 2) (by omega) hL d_law_310 ?_
  refine lv_aload_n hC.1 hC.2.1 d_law_311 rfl (lv_at hl 0 rfl) ?_
  refine lv_iload_n hC.1 hC.2.1 d_law_312 rfl (lv_at hl 3 rfl) ?_
  refine lv_iconst (v := nI 3) hC.1 hC.2.1 d_law_313 (by decide) ?_
  refine nv_iadd hC d_law_314 ?_
  refine lw_ld hC hX hbl hM.2.2 (k := i + 3) (by omega) hL d_law_315 ?_
  refine lw_callm hC hK1 hK2 hM (As := [.int (xs (i + 1)), .int (xs (i + 2)), .int (xs (i + 3))]) (rest := [.int (r1)]) rfl (c_Mod_add l D ad2 cB _ ln2 wd2 N hR2 (xs (i + 1)) (xs (i + 2)) (xs (i + 3))) kc_Mod_add km_law_34 ki_Mod kn_Mod_add ke_Mod_add kd_Mod_add ⟨rfl, rfl⟩ ⟨Nat.le_of_ble_eq_true rfl, Nat.le_of_ble_eq_true rfl⟩ rfl hl.1 (Nat.le_of_ble_eq_true rfl) d_law_316 (fun r2 u2 H locs hp2 hM => ?_)
  refine lv_icmp_eq (tgt := 770) hC.1 hC.2.1 d_law_319 (by decide) (fun hc => ?_) (fun hc => ?_)
  · exact hnext _ u1.1 u1.2 u2.1 u2.2 H locs ls hp1.2 hp2.2 hM hl
  · exact absurd (by rw [hp1.1, hp2.1]) hc
