set_option maxHeartbeats 4000000 in
set_option maxRecDepth 100000 in
theorem lc_board {p : Program} {l : Launch} {e : Env} {s : State} {m : MethodId} {below : List Frame} {meth : Method} {c : Code} {b L : Nat} {xs : Nat → Int32} {t : Nat → Nat} {D : va_G} {h : Nat → Nat} {cI : ClassId} {g : Nat → Nat} {cJ cZ : ClassId} {Q : State → Prop} {H : Heap} {locs : List Loc} {A : St} {M : Nat → Int32} {ls : Array Slot} {i : Nat} (C : LwC p s m c b L xs t D h cI g cJ cZ) (S : LwS s D h cI g cJ cZ A M H locs) (hi : i + 5 ≤ L) (hl : lv_has ls 4 [(0, .ref b), (1, .ref (h 0)), (2, .ref (g 0)), (3, .int (nI i))]) (k : ∀ (A : St) (M : Nat → Int32) (H : Heap) (locs : List Loc), LwS s D h cI g cJ cZ A M H locs → W p l e room_1 s m #[Value.ref b] below meth c H locs 14 591 Q (F0 m 823 ls [])) : W p l e room_1 s m #[Value.ref b] below meth c H locs 14 591 Q (F0 m 136 ls []) := by
  obtain ⟨hx, hb, hml, hown, hts, hX, hbl, hST, hK, hK2, hap, hL⟩ := C
  obtain ⟨hI, hP, hD, hP2, hD2, hS⟩ := S
  have hbA : ¬ (fun q : Nat => s.heap.size ≤ q) b := Nat.not_le.mpr hbl
  refine lv_aload_n hx hb dL_law_136 rfl (lv_at hl 1 rfl) ?_
  refine n_arg hx hb hX hbl hbA hS 1 (lv_at hl 0 rfl) (lv_at hl 3 rfl) (by omega) (by omega) dL_law_137 dL_law_138 dL_law_139 (by decide) dL_law_140 dL_law_141 ?_
  refine n_arg hx hb hX hbl hbA hS 2 (lv_at hl 0 rfl) (lv_at hl 3 rfl) (by omega) (by omega) dL_law_142 dL_law_143 dL_law_144 (by decide) dL_law_145 dL_law_146 ?_
  refine n_arg hx hb hX hbl hbA hS 3 (lv_at hl 0 rfl) (lv_at hl 3 rfl) (by omega) (by omega) dL_law_147 dL_law_148 dL_law_149 (by decide) dL_law_150 dL_law_151 ?_
  refine mu_callV (As := [.int (xs (i + 1)), .int (xs (i + 2)), .int (xs (i + 3))]) (rest := []) ⟨hx, hb, hml, hown, hts⟩ (kX0_board l D h cI A hI (xs (i + 1)) (xs (i + 2)) (xs (i + 3))) (cwV 3 hts gL_law_X0_board rfl rfl rfl (by decide +kernel) ⟨Nat.le_of_ble_eq_true rfl, Nat.le_of_ble_eq_true rfl⟩) hP hK hD hS (va_recv hK hP (ci := 0) (q0 := 0) rfl rfl) rfl hl.1 rfl (Nat.le_of_ble_eq_true rfl) dL_law_152 ⟨Nat.le_of_ble_eq_true rfl, Nat.le_of_ble_eq_true rfl⟩ (fun H locs hQ hS hk => ?_)
  have hP2 := hP2.off (fun q h1 h2 => hap q h2 h1) hk
  have hP := hQ
  show W _ _ _ _ _ _ _ _ _ _ _ _ _ _ _ (F0 m 155 ls [.int (aBd (xs (i + 1)) (xs (i + 2)) (xs (i + 3)))])
  refine lv_aload_n hx hb dL_law_155 rfl (lv_at hl 2 rfl) ?_
  refine n_arg hx hb hX hbl hbA hS 1 (lv_at hl 0 rfl) (lv_at hl 3 rfl) (by omega) (by omega) dL_law_156 dL_law_157 dL_law_158 (by decide) dL_law_159 dL_law_160 ?_
  refine n_arg hx hb hX hbl hbA hS 2 (lv_at hl 0 rfl) (lv_at hl 3 rfl) (by omega) (by omega) dL_law_161 dL_law_162 dL_law_163 (by decide) dL_law_164 dL_law_165 ?_
  refine n_arg hx hb hX hbl hbA hS 3 (lv_at hl 0 rfl) (lv_at hl 3 rfl) (by omega) (by omega) dL_law_166 dL_law_167 dL_law_168 (by decide) dL_law_169 dL_law_170 ?_
  refine mu_callV (As := [.int (xs (i + 1)), .int (xs (i + 2)), .int (xs (i + 3))]) (rest := [.int (aBd (xs (i + 1)) (xs (i + 2)) (xs (i + 3)))]) ⟨hx, hb, hml, hown, hts⟩ (kX1_board l D g cJ cZ A M hI (xs (i + 1)) (xs (i + 2)) (xs (i + 3))) (cwV 3 hts gL_law_X1_board rfl rfl rfl (by decide +kernel) ⟨Nat.le_of_ble_eq_true rfl, Nat.le_of_ble_eq_true rfl⟩) hP2 hK2 hD2 hS (va_recv hK2 hP2 (ci := 1) (q0 := 0) rfl rfl) rfl hl.1 rfl (Nat.le_of_ble_eq_true rfl) dL_law_171 ⟨Nat.le_of_ble_eq_true rfl, Nat.le_of_ble_eq_true rfl⟩ (fun H locs hQ hS hk => ?_)
  have hP := hP.off (fun q h1 h2 => hap q h1 h2) hk
  have hP2 := hQ
  show W _ _ _ _ _ _ _ _ _ _ _ _ _ _ _ (F0 m 174 ls [.int (aBd (xs (i + 1)) (xs (i + 2)) (xs (i + 3))), .int (aBd (xs (i + 1)) (xs (i + 2)) (xs (i + 3)))])
  exact lv_icmp_eq (tgt := 823) hx hb dL_law_174 (by decide) (fun _ => k (nBd A (xs (i + 1)) (xs (i + 2)) (xs (i + 3))) M H locs ⟨iv_Bd hI _ _ _, hP, hD.to rfl, hP2, hD2.to rfl, hS⟩) (fun q => absurd rfl q)
set_option maxHeartbeats 4000000 in
set_option maxRecDepth 100000 in
theorem lc_set {p : Program} {l : Launch} {e : Env} {s : State} {m : MethodId} {below : List Frame} {meth : Method} {c : Code} {b L : Nat} {xs : Nat → Int32} {t : Nat → Nat} {D : va_G} {h : Nat → Nat} {cI : ClassId} {g : Nat → Nat} {cJ cZ : ClassId} {Q : State → Prop} {H : Heap} {locs : List Loc} {A : St} {M : Nat → Int32} {ls : Array Slot} {i : Nat} (C : LwC p s m c b L xs t D h cI g cJ cZ) (S : LwS s D h cI g cJ cZ A M H locs) (hi : i + 5 ≤ L) (hl : lv_has ls 4 [(0, .ref b), (1, .ref (h 0)), (2, .ref (g 0)), (3, .int (nI i))]) (k : ∀ (A : St) (M : Nat → Int32) (H : Heap) (locs : List Loc), LwS s D h cI g cJ cZ A M H locs → W p l e room_1 s m #[Value.ref b] below meth c H locs 14 591 Q (F0 m 823 ls [])) : W p l e room_1 s m #[Value.ref b] below meth c H locs 14 591 Q (F0 m 179 ls []) := by
  obtain ⟨hx, hb, hml, hown, hts, hX, hbl, hST, hK, hK2, hap, hL⟩ := C
  obtain ⟨hI, hP, hD, hP2, hD2, hS⟩ := S
  have hbA : ¬ (fun q : Nat => s.heap.size ≤ q) b := Nat.not_le.mpr hbl
  refine lv_aload_n hx hb dL_law_179 rfl (lv_at hl 1 rfl) ?_
  refine n_arg hx hb hX hbl hbA hS 1 (lv_at hl 0 rfl) (lv_at hl 3 rfl) (by omega) (by omega) dL_law_180 dL_law_181 dL_law_182 (by decide) dL_law_183 dL_law_184 ?_
  refine n_arg hx hb hX hbl hbA hS 2 (lv_at hl 0 rfl) (lv_at hl 3 rfl) (by omega) (by omega) dL_law_185 dL_law_186 dL_law_187 (by decide) dL_law_188 dL_law_189 ?_
  refine n_arg hx hb hX hbl hbA hS 3 (lv_at hl 0 rfl) (lv_at hl 3 rfl) (by omega) (by omega) dL_law_190 dL_law_191 dL_law_192 (by decide) dL_law_193 dL_law_194 ?_
  refine mu_callV (As := [.int (xs (i + 1)), .int (xs (i + 2)), .int (xs (i + 3))]) (rest := []) ⟨hx, hb, hml, hown, hts⟩ (kX0_set l D h cI A hI (xs (i + 1)) (xs (i + 2)) (xs (i + 3))) (cwV 3 hts gL_law_X0_set rfl rfl rfl (by decide +kernel) ⟨Nat.le_of_ble_eq_true rfl, Nat.le_of_ble_eq_true rfl⟩) hP hK hD hS (va_recv hK hP (ci := 0) (q0 := 0) rfl rfl) rfl hl.1 rfl (Nat.le_of_ble_eq_true rfl) dL_law_195 ⟨Nat.le_of_ble_eq_true rfl, Nat.le_of_ble_eq_true rfl⟩ (fun H locs hQ hS hk => ?_)
  have hP2 := hP2.off (fun q h1 h2 => hap q h2 h1) hk
  have hP := hQ
  show W _ _ _ _ _ _ _ _ _ _ _ _ _ _ _ (F0 m 198 ls [.int (aSet A (xs (i + 1)) (xs (i + 2)) (xs (i + 3)))])
  refine lv_aload_n hx hb dL_law_198 rfl (lv_at hl 2 rfl) ?_
  refine n_arg hx hb hX hbl hbA hS 1 (lv_at hl 0 rfl) (lv_at hl 3 rfl) (by omega) (by omega) dL_law_199 dL_law_200 dL_law_201 (by decide) dL_law_202 dL_law_203 ?_
  refine n_arg hx hb hX hbl hbA hS 2 (lv_at hl 0 rfl) (lv_at hl 3 rfl) (by omega) (by omega) dL_law_204 dL_law_205 dL_law_206 (by decide) dL_law_207 dL_law_208 ?_
  refine n_arg hx hb hX hbl hbA hS 3 (lv_at hl 0 rfl) (lv_at hl 3 rfl) (by omega) (by omega) dL_law_209 dL_law_210 dL_law_211 (by decide) dL_law_212 dL_law_213 ?_
  refine mu_callV (As := [.int (xs (i + 1)), .int (xs (i + 2)), .int (xs (i + 3))]) (rest := [.int (aSet A (xs (i + 1)) (xs (i + 2)) (xs (i + 3)))]) ⟨hx, hb, hml, hown, hts⟩ (kX1_set l D g cJ cZ A M hI (xs (i + 1)) (xs (i + 2)) (xs (i + 3))) (cwV 3 hts gL_law_X1_set rfl rfl rfl (by decide +kernel) ⟨Nat.le_of_ble_eq_true rfl, Nat.le_of_ble_eq_true rfl⟩) hP2 hK2 hD2 hS (va_recv hK2 hP2 (ci := 1) (q0 := 0) rfl rfl) rfl hl.1 rfl (Nat.le_of_ble_eq_true rfl) dL_law_214 ⟨Nat.le_of_ble_eq_true rfl, Nat.le_of_ble_eq_true rfl⟩ (fun H locs hQ hS hk => ?_)
  have hP := hP.off (fun q h1 h2 => hap q h1 h2) hk
  have hP2 := hQ
  show W _ _ _ _ _ _ _ _ _ _ _ _ _ _ _ (F0 m 217 ls [.int (aSet A (xs (i + 1)) (xs (i + 2)) (xs (i + 3))), .int (aSet A (xs (i + 1)) (xs (i + 2)) (xs (i + 3)))])
  exact lv_icmp_eq (tgt := 823) hx hb dL_law_217 (by decide) (fun _ => k (nSet A (xs (i + 1)) (xs (i + 2)) (xs (i + 3))) M H locs ⟨iv_Set hI _ _ _, hP, hD.to rfl, hP2, hD2.to rfl, hS⟩) (fun q => absurd rfl q)
set_option maxHeartbeats 4000000 in
set_option maxRecDepth 100000 in
theorem lc_at {p : Program} {l : Launch} {e : Env} {s : State} {m : MethodId} {below : List Frame} {meth : Method} {c : Code} {b L : Nat} {xs : Nat → Int32} {t : Nat → Nat} {D : va_G} {h : Nat → Nat} {cI : ClassId} {g : Nat → Nat} {cJ cZ : ClassId} {Q : State → Prop} {H : Heap} {locs : List Loc} {A : St} {M : Nat → Int32} {ls : Array Slot} {i : Nat} (C : LwC p s m c b L xs t D h cI g cJ cZ) (S : LwS s D h cI g cJ cZ A M H locs) (hi : i + 5 ≤ L) (hl : lv_has ls 4 [(0, .ref b), (1, .ref (h 0)), (2, .ref (g 0)), (3, .int (nI i))]) (k : ∀ (A : St) (M : Nat → Int32) (H : Heap) (locs : List Loc), LwS s D h cI g cJ cZ A M H locs → W p l e room_1 s m #[Value.ref b] below meth c H locs 14 591 Q (F0 m 823 ls [])) : W p l e room_1 s m #[Value.ref b] below meth c H locs 14 591 Q (F0 m 222 ls []) := by
  obtain ⟨hx, hb, hml, hown, hts, hX, hbl, hST, hK, hK2, hap, hL⟩ := C
  obtain ⟨hI, hP, hD, hP2, hD2, hS⟩ := S
  have hbA : ¬ (fun q : Nat => s.heap.size ≤ q) b := Nat.not_le.mpr hbl
  refine lv_aload_n hx hb dL_law_222 rfl (lv_at hl 1 rfl) ?_
  refine n_arg hx hb hX hbl hbA hS 1 (lv_at hl 0 rfl) (lv_at hl 3 rfl) (by omega) (by omega) dL_law_223 dL_law_224 dL_law_225 (by decide) dL_law_226 dL_law_227 ?_
  refine n_arg hx hb hX hbl hbA hS 2 (lv_at hl 0 rfl) (lv_at hl 3 rfl) (by omega) (by omega) dL_law_228 dL_law_229 dL_law_230 (by decide) dL_law_231 dL_law_232 ?_
  refine n_arg hx hb hX hbl hbA hS 3 (lv_at hl 0 rfl) (lv_at hl 3 rfl) (by omega) (by omega) dL_law_233 dL_law_234 dL_law_235 (by decide) dL_law_236 dL_law_237 ?_
  refine ro_callV (As := [.int (xs (i + 1)), .int (xs (i + 2)), .int (xs (i + 3))]) (rest := []) ⟨hx, hb, hml, hown, hts⟩ (kX0_at l D h cI A hI (xs (i + 1)) (xs (i + 2)) (xs (i + 3))) (cwV 3 hts gL_law_X0_at rfl rfl rfl (by decide +kernel) ⟨Nat.le_of_ble_eq_true rfl, Nat.le_of_ble_eq_true rfl⟩) vB_bl (vB_at hP hK) (va_recv hK hP (ci := 0) (q0 := 0) rfl rfl) rfl hl.1 rfl (Nat.le_of_ble_eq_true rfl) dL_law_238 ⟨Nat.le_of_ble_eq_true rfl, Nat.le_of_ble_eq_true rfl⟩ ?_
  refine lv_aload_n hx hb dL_law_241 rfl (lv_at hl 2 rfl) ?_
  refine n_arg hx hb hX hbl hbA hS 1 (lv_at hl 0 rfl) (lv_at hl 3 rfl) (by omega) (by omega) dL_law_242 dL_law_243 dL_law_244 (by decide) dL_law_245 dL_law_246 ?_
  refine n_arg hx hb hX hbl hbA hS 2 (lv_at hl 0 rfl) (lv_at hl 3 rfl) (by omega) (by omega) dL_law_247 dL_law_248 dL_law_249 (by decide) dL_law_250 dL_law_251 ?_
  refine n_arg hx hb hX hbl hbA hS 3 (lv_at hl 0 rfl) (lv_at hl 3 rfl) (by omega) (by omega) dL_law_252 dL_law_253 dL_law_254 (by decide) dL_law_255 dL_law_256 ?_
  refine mx_callV (As := [.int (xs (i + 1)), .int (xs (i + 2)), .int (xs (i + 3))]) (rest := [.int (aAt A (xs (i + 1)) (xs (i + 2)) (xs (i + 3)))]) ⟨hx, hb, hml, hown, hts⟩ (kX1_at l D g cJ cZ A M hI (xs (i + 1)) (xs (i + 2)) (xs (i + 3))) (cwV 3 hts gL_law_X1_at rfl rfl rfl (by decide +kernel) ⟨Nat.le_of_ble_eq_true rfl, Nat.le_of_ble_eq_true rfl⟩) hP2 hK2 hD2 hS (va_recv hK2 hP2 (ci := 1) (q0 := 0) rfl rfl) rfl hl.1 rfl (Nat.le_of_ble_eq_true rfl) dL_law_257 ⟨Nat.le_of_ble_eq_true rfl, Nat.le_of_ble_eq_true rfl⟩ (fun H locs M hQ hS hk => ?_)
  have hP := hP.off (fun q h1 h2 => hap q h1 h2) hk
  have hP2 := hQ
  exact lv_icmp_eq (tgt := 823) hx hb dL_law_260 (by decide) (fun _ => k A M H locs ⟨hI, hP, hD, hP2, hD2.to rfl, hS⟩) (fun q => absurd rfl q)
set_option maxHeartbeats 4000000 in
set_option maxRecDepth 100000 in
theorem lc_number {p : Program} {l : Launch} {e : Env} {s : State} {m : MethodId} {below : List Frame} {meth : Method} {c : Code} {b L : Nat} {xs : Nat → Int32} {t : Nat → Nat} {D : va_G} {h : Nat → Nat} {cI : ClassId} {g : Nat → Nat} {cJ cZ : ClassId} {Q : State → Prop} {H : Heap} {locs : List Loc} {A : St} {M : Nat → Int32} {ls : Array Slot} {i : Nat} (C : LwC p s m c b L xs t D h cI g cJ cZ) (S : LwS s D h cI g cJ cZ A M H locs) (hi : i + 5 ≤ L) (hl : lv_has ls 4 [(0, .ref b), (1, .ref (h 0)), (2, .ref (g 0)), (3, .int (nI i))]) (k : ∀ (A : St) (M : Nat → Int32) (H : Heap) (locs : List Loc), LwS s D h cI g cJ cZ A M H locs → W p l e room_1 s m #[Value.ref b] below meth c H locs 14 591 Q (F0 m 823 ls [])) : W p l e room_1 s m #[Value.ref b] below meth c H locs 14 591 Q (F0 m 265 ls []) := by
  obtain ⟨hx, hb, hml, hown, hts, hX, hbl, hST, hK, hK2, hap, hL⟩ := C
  obtain ⟨hI, hP, hD, hP2, hD2, hS⟩ := S
  have hbA : ¬ (fun q : Nat => s.heap.size ≤ q) b := Nat.not_le.mpr hbl
  refine lv_aload_n hx hb dL_law_265 rfl (lv_at hl 1 rfl) ?_
  refine n_arg hx hb hX hbl hbA hS 1 (lv_at hl 0 rfl) (lv_at hl 3 rfl) (by omega) (by omega) dL_law_266 dL_law_267 dL_law_268 (by decide) dL_law_269 dL_law_270 ?_
  refine n_arg hx hb hX hbl hbA hS 2 (lv_at hl 0 rfl) (lv_at hl 3 rfl) (by omega) (by omega) dL_law_271 dL_law_272 dL_law_273 (by decide) dL_law_274 dL_law_275 ?_
  refine n_arg hx hb hX hbl hbA hS 3 (lv_at hl 0 rfl) (lv_at hl 3 rfl) (by omega) (by omega) dL_law_276 dL_law_277 dL_law_278 (by decide) dL_law_279 dL_law_280 ?_
  refine ro_callV (As := [.int (xs (i + 1)), .int (xs (i + 2)), .int (xs (i + 3))]) (rest := []) ⟨hx, hb, hml, hown, hts⟩ (kX0_number l D h cI A hI (xs (i + 1)) (xs (i + 2)) (xs (i + 3))) (cwV 3 hts gL_law_X0_number rfl rfl rfl (by decide +kernel) ⟨Nat.le_of_ble_eq_true rfl, Nat.le_of_ble_eq_true rfl⟩) vB_bl (vB_at hP hK) (va_recv hK hP (ci := 0) (q0 := 0) rfl rfl) rfl hl.1 rfl (Nat.le_of_ble_eq_true rfl) dL_law_281 ⟨Nat.le_of_ble_eq_true rfl, Nat.le_of_ble_eq_true rfl⟩ ?_
  refine lv_aload_n hx hb dL_law_284 rfl (lv_at hl 2 rfl) ?_
  refine n_arg hx hb hX hbl hbA hS 1 (lv_at hl 0 rfl) (lv_at hl 3 rfl) (by omega) (by omega) dL_law_285 dL_law_286 dL_law_287 (by decide) dL_law_288 dL_law_289 ?_
  refine n_arg hx hb hX hbl hbA hS 2 (lv_at hl 0 rfl) (lv_at hl 3 rfl) (by omega) (by omega) dL_law_290 dL_law_291 dL_law_292 (by decide) dL_law_293 dL_law_294 ?_
  refine n_arg hx hb hX hbl hbA hS 3 (lv_at hl 0 rfl) (lv_at hl 3 rfl) (by omega) (by omega) dL_law_295 dL_law_296 dL_law_297 (by decide) dL_law_298 dL_law_299 ?_
  refine ro_callV (As := [.int (xs (i + 1)), .int (xs (i + 2)), .int (xs (i + 3))]) (rest := [.int (aNu A (xs (i + 1)) (xs (i + 2)) (xs (i + 3)))]) ⟨hx, hb, hml, hown, hts⟩ (kX1_number l D g cJ cZ A M hI (xs (i + 1)) (xs (i + 2)) (xs (i + 3))) (cwV 3 hts gL_law_X1_number rfl rfl rfl (by decide +kernel) ⟨Nat.le_of_ble_eq_true rfl, Nat.le_of_ble_eq_true rfl⟩) vB_bl (vB_at hP2 hK2) (va_recv hK2 hP2 (ci := 1) (q0 := 0) rfl rfl) rfl hl.1 rfl (Nat.le_of_ble_eq_true rfl) dL_law_300 ⟨Nat.le_of_ble_eq_true rfl, Nat.le_of_ble_eq_true rfl⟩ ?_
  exact lv_icmp_eq (tgt := 823) hx hb dL_law_303 (by decide) (fun _ => k A M H locs ⟨hI, hP, hD, hP2, hD2.to rfl, hS⟩) (fun q => absurd rfl q)
set_option maxHeartbeats 4000000 in
set_option maxRecDepth 100000 in
theorem lc_begin {p : Program} {l : Launch} {e : Env} {s : State} {m : MethodId} {below : List Frame} {meth : Method} {c : Code} {b L : Nat} {xs : Nat → Int32} {t : Nat → Nat} {D : va_G} {h : Nat → Nat} {cI : ClassId} {g : Nat → Nat} {cJ cZ : ClassId} {Q : State → Prop} {H : Heap} {locs : List Loc} {A : St} {M : Nat → Int32} {ls : Array Slot} {i : Nat} (C : LwC p s m c b L xs t D h cI g cJ cZ) (S : LwS s D h cI g cJ cZ A M H locs) (hi : i + 5 ≤ L) (hl : lv_has ls 4 [(0, .ref b), (1, .ref (h 0)), (2, .ref (g 0)), (3, .int (nI i))]) (k : ∀ (A : St) (M : Nat → Int32) (H : Heap) (locs : List Loc), LwS s D h cI g cJ cZ A M H locs → W p l e room_1 s m #[Value.ref b] below meth c H locs 14 591 Q (F0 m 823 ls [])) : W p l e room_1 s m #[Value.ref b] below meth c H locs 14 591 Q (F0 m 308 ls []) := by
  obtain ⟨hx, hb, hml, hown, hts, hX, hbl, hST, hK, hK2, hap, hL⟩ := C
  obtain ⟨hI, hP, hD, hP2, hD2, hS⟩ := S
  have hbA : ¬ (fun q : Nat => s.heap.size ≤ q) b := Nat.not_le.mpr hbl
  refine lv_aload_n hx hb dL_law_308 rfl (lv_at hl 1 rfl) ?_
  refine n_arg hx hb hX hbl hbA hS 1 (lv_at hl 0 rfl) (lv_at hl 3 rfl) (by omega) (by omega) dL_law_309 dL_law_310 dL_law_311 (by decide) dL_law_312 dL_law_313 ?_
  refine n_arg hx hb hX hbl hbA hS 2 (lv_at hl 0 rfl) (lv_at hl 3 rfl) (by omega) (by omega) dL_law_314 dL_law_315 dL_law_316 (by decide) dL_law_317 dL_law_318 ?_
  refine n_arg hx hb hX hbl hbA hS 3 (lv_at hl 0 rfl) (lv_at hl 3 rfl) (by omega) (by omega) dL_law_319 dL_law_320 dL_law_321 (by decide) dL_law_322 dL_law_323 ?_
  refine n_arg hx hb hX hbl hbA hS 4 (lv_at hl 0 rfl) (lv_at hl 3 rfl) (by omega) (by omega) dL_law_324 dL_law_325 dL_law_326 (by decide) dL_law_327 dL_law_328 ?_
  refine mu_callV (As := [.int (xs (i + 1)), .int (xs (i + 2)), .int (xs (i + 3)), .int (xs (i + 4))]) (rest := []) ⟨hx, hb, hml, hown, hts⟩ (kX0_begin l D h cI A hI (xs (i + 1)) (xs (i + 2)) (xs (i + 3)) (xs (i + 4))) (cwV 4 hts gL_law_X0_begin rfl rfl rfl (by decide +kernel) ⟨Nat.le_of_ble_eq_true rfl, Nat.le_of_ble_eq_true rfl⟩) hP hK hD hS (va_recv hK hP (ci := 0) (q0 := 0) rfl rfl) rfl hl.1 rfl (Nat.le_of_ble_eq_true rfl) dL_law_329 ⟨Nat.le_of_ble_eq_true rfl, Nat.le_of_ble_eq_true rfl⟩ (fun H locs hQ hS hk => ?_)
  have hP2 := hP2.off (fun q h1 h2 => hap q h2 h1) hk
  have hP := hQ
  show W _ _ _ _ _ _ _ _ _ _ _ _ _ _ _ (F0 m 332 ls [.int (aBeg A (xs (i + 1)) (xs (i + 2)) (xs (i + 3)) (xs (i + 4)))])
  refine lv_aload_n hx hb dL_law_332 rfl (lv_at hl 2 rfl) ?_
  refine n_arg hx hb hX hbl hbA hS 1 (lv_at hl 0 rfl) (lv_at hl 3 rfl) (by omega) (by omega) dL_law_333 dL_law_334 dL_law_335 (by decide) dL_law_336 dL_law_337 ?_
  refine n_arg hx hb hX hbl hbA hS 2 (lv_at hl 0 rfl) (lv_at hl 3 rfl) (by omega) (by omega) dL_law_338 dL_law_339 dL_law_340 (by decide) dL_law_341 dL_law_342 ?_
  refine n_arg hx hb hX hbl hbA hS 3 (lv_at hl 0 rfl) (lv_at hl 3 rfl) (by omega) (by omega) dL_law_343 dL_law_344 dL_law_345 (by decide) dL_law_346 dL_law_347 ?_
  refine n_arg hx hb hX hbl hbA hS 4 (lv_at hl 0 rfl) (lv_at hl 3 rfl) (by omega) (by omega) dL_law_348 dL_law_349 dL_law_350 (by decide) dL_law_351 dL_law_352 ?_
  refine mu_callV (As := [.int (xs (i + 1)), .int (xs (i + 2)), .int (xs (i + 3)), .int (xs (i + 4))]) (rest := [.int (aBeg A (xs (i + 1)) (xs (i + 2)) (xs (i + 3)) (xs (i + 4)))]) ⟨hx, hb, hml, hown, hts⟩ (kX1_begin l D g cJ cZ A M hI (xs (i + 1)) (xs (i + 2)) (xs (i + 3)) (xs (i + 4))) (cwV 4 hts gL_law_X1_begin rfl rfl rfl (by decide +kernel) ⟨Nat.le_of_ble_eq_true rfl, Nat.le_of_ble_eq_true rfl⟩) hP2 hK2 hD2 hS (va_recv hK2 hP2 (ci := 1) (q0 := 0) rfl rfl) rfl hl.1 rfl (Nat.le_of_ble_eq_true rfl) dL_law_353 ⟨Nat.le_of_ble_eq_true rfl, Nat.le_of_ble_eq_true rfl⟩ (fun H locs hQ hS hk => ?_)
  have hP := hP.off (fun q h1 h2 => hap q h1 h2) hk
  have hP2 := hQ
  show W _ _ _ _ _ _ _ _ _ _ _ _ _ _ _ (F0 m 356 ls [.int (aBeg A (xs (i + 1)) (xs (i + 2)) (xs (i + 3)) (xs (i + 4))), .int (aBeg A (xs (i + 1)) (xs (i + 2)) (xs (i + 3)) (xs (i + 4)))])
  exact lv_icmp_eq (tgt := 823) hx hb dL_law_356 (by decide) (fun _ => k (nBeg A (xs (i + 1)) (xs (i + 2)) (xs (i + 3)) (xs (i + 4))) M H locs ⟨iv_Beg hI _ _ _ _, hP, hD.to rfl, hP2, hD2.to rfl, hS⟩) (fun q => absurd rfl q)
set_option maxHeartbeats 4000000 in
set_option maxRecDepth 100000 in
theorem lc_bar {p : Program} {l : Launch} {e : Env} {s : State} {m : MethodId} {below : List Frame} {meth : Method} {c : Code} {b L : Nat} {xs : Nat → Int32} {t : Nat → Nat} {D : va_G} {h : Nat → Nat} {cI : ClassId} {g : Nat → Nat} {cJ cZ : ClassId} {Q : State → Prop} {H : Heap} {locs : List Loc} {A : St} {M : Nat → Int32} {ls : Array Slot} {i : Nat} (C : LwC p s m c b L xs t D h cI g cJ cZ) (S : LwS s D h cI g cJ cZ A M H locs) (hi : i + 5 ≤ L) (hl : lv_has ls 4 [(0, .ref b), (1, .ref (h 0)), (2, .ref (g 0)), (3, .int (nI i))]) (k : ∀ (A : St) (M : Nat → Int32) (H : Heap) (locs : List Loc), LwS s D h cI g cJ cZ A M H locs → W p l e room_1 s m #[Value.ref b] below meth c H locs 14 591 Q (F0 m 823 ls [])) : W p l e room_1 s m #[Value.ref b] below meth c H locs 14 591 Q (F0 m 361 ls []) := by
  obtain ⟨hx, hb, hml, hown, hts, hX, hbl, hST, hK, hK2, hap, hL⟩ := C
  obtain ⟨hI, hP, hD, hP2, hD2, hS⟩ := S
  have hbA : ¬ (fun q : Nat => s.heap.size ≤ q) b := Nat.not_le.mpr hbl
  refine lv_aload_n hx hb dL_law_361 rfl (lv_at hl 1 rfl) ?_
  refine n_arg hx hb hX hbl hbA hS 1 (lv_at hl 0 rfl) (lv_at hl 3 rfl) (by omega) (by omega) dL_law_362 dL_law_363 dL_law_364 (by decide) dL_law_365 dL_law_366 ?_
  refine n_arg hx hb hX hbl hbA hS 2 (lv_at hl 0 rfl) (lv_at hl 3 rfl) (by omega) (by omega) dL_law_367 dL_law_368 dL_law_369 (by decide) dL_law_370 dL_law_371 ?_
  refine n_arg hx hb hX hbl hbA hS 3 (lv_at hl 0 rfl) (lv_at hl 3 rfl) (by omega) (by omega) dL_law_372 dL_law_373 dL_law_374 (by decide) dL_law_375 dL_law_376 ?_
  refine mu_callV (As := [.int (xs (i + 1)), .int (xs (i + 2)), .int (xs (i + 3))]) (rest := []) ⟨hx, hb, hml, hown, hts⟩ (kX0_bar l D h cI A hI (xs (i + 1)) (xs (i + 2)) (xs (i + 3))) (cwV 3 hts gL_law_X0_bar rfl rfl rfl (by decide +kernel) ⟨Nat.le_of_ble_eq_true rfl, Nat.le_of_ble_eq_true rfl⟩) hP hK hD hS (va_recv hK hP (ci := 0) (q0 := 0) rfl rfl) rfl hl.1 rfl (Nat.le_of_ble_eq_true rfl) dL_law_377 ⟨Nat.le_of_ble_eq_true rfl, Nat.le_of_ble_eq_true rfl⟩ (fun H locs hQ hS hk => ?_)
  have hP2 := hP2.off (fun q h1 h2 => hap q h2 h1) hk
  have hP := hQ
  show W _ _ _ _ _ _ _ _ _ _ _ _ _ _ _ (F0 m 380 ls [.int (aBar A (xs (i + 1)) (xs (i + 2)) (xs (i + 3)))])
  refine lv_aload_n hx hb dL_law_380 rfl (lv_at hl 2 rfl) ?_
  refine n_arg hx hb hX hbl hbA hS 1 (lv_at hl 0 rfl) (lv_at hl 3 rfl) (by omega) (by omega) dL_law_381 dL_law_382 dL_law_383 (by decide) dL_law_384 dL_law_385 ?_
  refine n_arg hx hb hX hbl hbA hS 2 (lv_at hl 0 rfl) (lv_at hl 3 rfl) (by omega) (by omega) dL_law_386 dL_law_387 dL_law_388 (by decide) dL_law_389 dL_law_390 ?_
  refine n_arg hx hb hX hbl hbA hS 3 (lv_at hl 0 rfl) (lv_at hl 3 rfl) (by omega) (by omega) dL_law_391 dL_law_392 dL_law_393 (by decide) dL_law_394 dL_law_395 ?_
  refine mu_callV (As := [.int (xs (i + 1)), .int (xs (i + 2)), .int (xs (i + 3))]) (rest := [.int (aBar A (xs (i + 1)) (xs (i + 2)) (xs (i + 3)))]) ⟨hx, hb, hml, hown, hts⟩ (kX1_bar l D g cJ cZ A M hI (xs (i + 1)) (xs (i + 2)) (xs (i + 3))) (cwV 3 hts gL_law_X1_bar rfl rfl rfl (by decide +kernel) ⟨Nat.le_of_ble_eq_true rfl, Nat.le_of_ble_eq_true rfl⟩) hP2 hK2 hD2 hS (va_recv hK2 hP2 (ci := 1) (q0 := 0) rfl rfl) rfl hl.1 rfl (Nat.le_of_ble_eq_true rfl) dL_law_396 ⟨Nat.le_of_ble_eq_true rfl, Nat.le_of_ble_eq_true rfl⟩ (fun H locs hQ hS hk => ?_)
  have hP := hP.off (fun q h1 h2 => hap q h1 h2) hk
  have hP2 := hQ
  show W _ _ _ _ _ _ _ _ _ _ _ _ _ _ _ (F0 m 399 ls [.int (aBar A (xs (i + 1)) (xs (i + 2)) (xs (i + 3))), .int (aBar A (xs (i + 1)) (xs (i + 2)) (xs (i + 3)))])
  exact lv_icmp_eq (tgt := 823) hx hb dL_law_399 (by decide) (fun _ => k (nBar A (xs (i + 1)) (xs (i + 2)) (xs (i + 3))) M H locs ⟨iv_Bar hI _ _ _, hP, hD.to rfl, hP2, hD2.to rfl, hS⟩) (fun q => absurd rfl q)
set_option maxHeartbeats 4000000 in
set_option maxRecDepth 100000 in
theorem lc_judge {p : Program} {l : Launch} {e : Env} {s : State} {m : MethodId} {below : List Frame} {meth : Method} {c : Code} {b L : Nat} {xs : Nat → Int32} {t : Nat → Nat} {D : va_G} {h : Nat → Nat} {cI : ClassId} {g : Nat → Nat} {cJ cZ : ClassId} {Q : State → Prop} {H : Heap} {locs : List Loc} {A : St} {M : Nat → Int32} {ls : Array Slot} {i : Nat} (C : LwC p s m c b L xs t D h cI g cJ cZ) (S : LwS s D h cI g cJ cZ A M H locs) (hi : i + 5 ≤ L) (hl : lv_has ls 4 [(0, .ref b), (1, .ref (h 0)), (2, .ref (g 0)), (3, .int (nI i))]) (k : ∀ (A : St) (M : Nat → Int32) (H : Heap) (locs : List Loc), LwS s D h cI g cJ cZ A M H locs → W p l e room_1 s m #[Value.ref b] below meth c H locs 14 591 Q (F0 m 823 ls [])) : W p l e room_1 s m #[Value.ref b] below meth c H locs 14 591 Q (F0 m 404 ls []) := by
  obtain ⟨hx, hb, hml, hown, hts, hX, hbl, hST, hK, hK2, hap, hL⟩ := C
  obtain ⟨hI, hP, hD, hP2, hD2, hS⟩ := S
  have hbA : ¬ (fun q : Nat => s.heap.size ≤ q) b := Nat.not_le.mpr hbl
  refine lv_aload_n hx hb dL_law_404 rfl (lv_at hl 1 rfl) ?_
  refine n_arg hx hb hX hbl hbA hS 1 (lv_at hl 0 rfl) (lv_at hl 3 rfl) (by omega) (by omega) dL_law_405 dL_law_406 dL_law_407 (by decide) dL_law_408 dL_law_409 ?_
  refine mu_callV (As := [.int (xs (i + 1))]) (rest := []) ⟨hx, hb, hml, hown, hts⟩ (kX0_judge l D h cI A hI (xs (i + 1))) (cwV 1 hts gL_law_X0_judge rfl rfl rfl (by decide +kernel) ⟨Nat.le_of_ble_eq_true rfl, Nat.le_of_ble_eq_true rfl⟩) hP hK hD hS (va_recv hK hP (ci := 0) (q0 := 0) rfl rfl) rfl hl.1 rfl (Nat.le_of_ble_eq_true rfl) dL_law_410 ⟨Nat.le_of_ble_eq_true rfl, Nat.le_of_ble_eq_true rfl⟩ (fun H locs hQ hS hk => ?_)
  have hP2 := hP2.off (fun q h1 h2 => hap q h2 h1) hk
  have hP := hQ
  show W _ _ _ _ _ _ _ _ _ _ _ _ _ _ _ (F0 m 413 ls [.int (aJu A (xs (i + 1)))])
  refine lv_aload_n hx hb dL_law_413 rfl (lv_at hl 2 rfl) ?_
  refine n_arg hx hb hX hbl hbA hS 1 (lv_at hl 0 rfl) (lv_at hl 3 rfl) (by omega) (by omega) dL_law_414 dL_law_415 dL_law_416 (by decide) dL_law_417 dL_law_418 ?_
  refine mu_callV (As := [.int (xs (i + 1))]) (rest := [.int (aJu A (xs (i + 1)))]) ⟨hx, hb, hml, hown, hts⟩ (kX1_judge l D g cJ cZ A M hI (xs (i + 1))) (cwV 1 hts gL_law_X1_judge rfl rfl rfl (by decide +kernel) ⟨Nat.le_of_ble_eq_true rfl, Nat.le_of_ble_eq_true rfl⟩) hP2 hK2 hD2 hS (va_recv hK2 hP2 (ci := 1) (q0 := 0) rfl rfl) rfl hl.1 rfl (Nat.le_of_ble_eq_true rfl) dL_law_419 ⟨Nat.le_of_ble_eq_true rfl, Nat.le_of_ble_eq_true rfl⟩ (fun H locs hQ hS hk => ?_)
  have hP := hP.off (fun q h1 h2 => hap q h1 h2) hk
  have hP2 := hQ
  show W _ _ _ _ _ _ _ _ _ _ _ _ _ _ _ (F0 m 422 ls [.int (aJu A (xs (i + 1))), .int (aJu A (xs (i + 1)))])
  exact lv_icmp_eq (tgt := 823) hx hb dL_law_422 (by decide) (fun _ => k (nJu A (xs (i + 1))) M H locs ⟨iv_Ju hI _, hP, hD.to rfl, hP2, hD2.to rfl, hS⟩) (fun q => absurd rfl q)
set_option maxHeartbeats 4000000 in
set_option maxRecDepth 100000 in
theorem lc_cost {p : Program} {l : Launch} {e : Env} {s : State} {m : MethodId} {below : List Frame} {meth : Method} {c : Code} {b L : Nat} {xs : Nat → Int32} {t : Nat → Nat} {D : va_G} {h : Nat → Nat} {cI : ClassId} {g : Nat → Nat} {cJ cZ : ClassId} {Q : State → Prop} {H : Heap} {locs : List Loc} {A : St} {M : Nat → Int32} {ls : Array Slot} {i : Nat} (C : LwC p s m c b L xs t D h cI g cJ cZ) (S : LwS s D h cI g cJ cZ A M H locs) (hi : i + 5 ≤ L) (hl : lv_has ls 4 [(0, .ref b), (1, .ref (h 0)), (2, .ref (g 0)), (3, .int (nI i))]) (k : ∀ (A : St) (M : Nat → Int32) (H : Heap) (locs : List Loc), LwS s D h cI g cJ cZ A M H locs → W p l e room_1 s m #[Value.ref b] below meth c H locs 14 591 Q (F0 m 823 ls [])) : W p l e room_1 s m #[Value.ref b] below meth c H locs 14 591 Q (F0 m 427 ls []) := by
  obtain ⟨hx, hb, hml, hown, hts, hX, hbl, hST, hK, hK2, hap, hL⟩ := C
  obtain ⟨hI, hP, hD, hP2, hD2, hS⟩ := S
  have hbA : ¬ (fun q : Nat => s.heap.size ≤ q) b := Nat.not_le.mpr hbl
  refine lv_aload_n hx hb dL_law_427 rfl (lv_at hl 1 rfl) ?_
  refine n_arg hx hb hX hbl hbA hS 1 (lv_at hl 0 rfl) (lv_at hl 3 rfl) (by omega) (by omega) dL_law_428 dL_law_429 dL_law_430 (by decide) dL_law_431 dL_law_432 ?_
  refine n_arg hx hb hX hbl hbA hS 2 (lv_at hl 0 rfl) (lv_at hl 3 rfl) (by omega) (by omega) dL_law_433 dL_law_434 dL_law_435 (by decide) dL_law_436 dL_law_437 ?_
  refine mu_callV (As := [.int (xs (i + 1)), .int (xs (i + 2))]) (rest := []) ⟨hx, hb, hml, hown, hts⟩ (kX0_cost l D h cI A hI (xs (i + 1)) (xs (i + 2))) (cwV 2 hts gL_law_X0_cost rfl rfl rfl (by decide +kernel) ⟨Nat.le_of_ble_eq_true rfl, Nat.le_of_ble_eq_true rfl⟩) hP hK hD hS (va_recv hK hP (ci := 0) (q0 := 0) rfl rfl) rfl hl.1 rfl (Nat.le_of_ble_eq_true rfl) dL_law_438 ⟨Nat.le_of_ble_eq_true rfl, Nat.le_of_ble_eq_true rfl⟩ (fun H locs hQ hS hk => ?_)
  have hP2 := hP2.off (fun q h1 h2 => hap q h2 h1) hk
  have hP := hQ
  show W _ _ _ _ _ _ _ _ _ _ _ _ _ _ _ (F0 m 441 ls [.int (aCs (xs (i + 1)) (xs (i + 2)))])
  refine lv_aload_n hx hb dL_law_441 rfl (lv_at hl 2 rfl) ?_
  refine n_arg hx hb hX hbl hbA hS 1 (lv_at hl 0 rfl) (lv_at hl 3 rfl) (by omega) (by omega) dL_law_442 dL_law_443 dL_law_444 (by decide) dL_law_445 dL_law_446 ?_
  refine n_arg hx hb hX hbl hbA hS 2 (lv_at hl 0 rfl) (lv_at hl 3 rfl) (by omega) (by omega) dL_law_447 dL_law_448 dL_law_449 (by decide) dL_law_450 dL_law_451 ?_
  refine mu_callV (As := [.int (xs (i + 1)), .int (xs (i + 2))]) (rest := [.int (aCs (xs (i + 1)) (xs (i + 2)))]) ⟨hx, hb, hml, hown, hts⟩ (kX1_cost l D g cJ cZ A M hI (xs (i + 1)) (xs (i + 2))) (cwV 2 hts gL_law_X1_cost rfl rfl rfl (by decide +kernel) ⟨Nat.le_of_ble_eq_true rfl, Nat.le_of_ble_eq_true rfl⟩) hP2 hK2 hD2 hS (va_recv hK2 hP2 (ci := 1) (q0 := 0) rfl rfl) rfl hl.1 rfl (Nat.le_of_ble_eq_true rfl) dL_law_452 ⟨Nat.le_of_ble_eq_true rfl, Nat.le_of_ble_eq_true rfl⟩ (fun H locs hQ hS hk => ?_)
  have hP := hP.off (fun q h1 h2 => hap q h1 h2) hk
  have hP2 := hQ
  show W _ _ _ _ _ _ _ _ _ _ _ _ _ _ _ (F0 m 455 ls [.int (aCs (xs (i + 1)) (xs (i + 2))), .int (aCs (xs (i + 1)) (xs (i + 2)))])
  exact lv_icmp_eq (tgt := 823) hx hb dL_law_455 (by decide) (fun _ => k (nCs A (xs (i + 1)) (xs (i + 2))) M H locs ⟨iv_Cs hI _ _, hP, hD.to rfl, hP2, hD2.to rfl, hS⟩) (fun q => absurd rfl q)
