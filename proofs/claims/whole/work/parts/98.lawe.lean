/-! the law: a call of both, case by case -/
def kp (w w' : gx_W) : Prop := ∀ k, k < 6 → w'.1[k]? = w.1[k]? ∧ w_a w' k = w_a w k
theorem kp.tr {w w' w'' : gx_W} (h : kp w w') (h' : kp w' w'') : kp w w'' := fun k hk => ⟨(h' k hk).1.trans (h k hk).1, (h' k hk).2.trans (h k hk).2⟩
/-- the rows that are given stay as they are: a world that the heap holds has them so -/
theorem gx_C_keep {nc ns d : Nat} {M : gx_M} {as : List Value} {w : gx_W} {Q : Option Value → gx_W → Prop} (k : gx_C nc ns d M as w Q) : gx_C nc ns d M as w (fun r w' => Q r w' ∧ kp w w') := fun D l p e ha hc hk s m args below hf happ hP ht => by
  obtain ⟨n, o, h1, h2, h3, ⟨⟨r, w', q1, q2, q3⟩, q4⟩, hL⟩ := k D l p e ha hc hk s m args below hf happ hP ht
  exact ⟨n, o, h1, h2, h3, ⟨⟨r, w', q1, ⟨q2, fun j hj => ⟨(q3.2.1 j hj).1.trans (hP.2.2.2.2.1 j hj).1.symm, (q3.2.1 j hj).2.trans (hP.2.2.2.2.1 j hj).2.symm⟩⟩, q3⟩, q4⟩, hL⟩
theorem op_use {d : Nat} {M M' : gx_M} {a : List Value} {w : gx_W} {K : Int32 → gx_W → Prop} (h : OP d M M' a w) (kk : ∀ r w1, kp w w1 → w1.1[57]? = some (10, 0) → gx_C 0 0 d M' (.ref 57 :: a) w1 (Qi fun r' w2 => r' = r ∧ Rel w2 ∧ kp w w2) → K r w1) : gx_C 0 0 d M (.ref 6 :: a) w (Qi K) := by
  unfold OP at h
  refine gx_C_mono (fun o w1 q => ?_) (gx_C_keep h)
  obtain ⟨⟨v, e, h57, hc⟩, hk⟩ := q
  refine ⟨v, e, kk v w1 hk h57 (gx_C_mono (fun o2 w2 q2 => ?_) (gx_C_keep hc))⟩
  obtain ⟨⟨v2, e2, e3, R2⟩, hk2⟩ := q2
  exact ⟨v2, e2, e3, R2, hk.tr hk2⟩
theorem op_useL {d : Nat} {M M' : gx_M} {a : List Value} {w : gx_W} {K : Int64 → gx_W → Prop} (h : OPl d M M' a w) (kk : ∀ r w1, kp w w1 → w1.1[57]? = some (10, 0) → gx_C 0 0 d M' (.ref 57 :: a) w1 (Ql fun r' w2 => r' = r ∧ Rel w2 ∧ kp w w2) → K r w1) : gx_C 0 0 d M (.ref 6 :: a) w (Ql K) := by
  unfold OPl at h
  refine gx_C_mono (fun o w1 q => ?_) (gx_C_keep h)
  obtain ⟨⟨v, e, h57, hc⟩, hk⟩ := q
  refine ⟨v, e, kk v w1 hk h57 (gx_C_mono (fun o2 w2 q2 => ?_) (gx_C_keep hc))⟩
  obtain ⟨⟨v2, e2, e3, R2⟩, hk2⟩ := q2
  exact ⟨v2, e2, e3, R2, hk.tr hk2⟩
theorem op_two {d : Nat} {M' : gx_M} {a : List Value} {w w1 : gx_W} {r : Int32} {K : Int32 → gx_W → Prop} (h : gx_C 0 0 d M' a w1 (Qi fun r' w2 => r' = r ∧ Rel w2 ∧ kp w w2)) (kk : ∀ w2, Rel w2 → kp w w2 → K r w2) : gx_C 0 0 d M' a w1 (Qi K) := by
  refine gx_C_mono (fun o w2 q => ?_) h
  obtain ⟨v, e, e2, R2, k2⟩ := q
  subst e2
  exact ⟨v, e, kk w2 R2 k2⟩
theorem op_twoL {d : Nat} {M' : gx_M} {a : List Value} {w w1 : gx_W} {r : Int64} {K : Int64 → gx_W → Prop} (h : gx_C 0 0 d M' a w1 (Ql fun r' w2 => r' = r ∧ Rel w2 ∧ kp w w2)) (kk : ∀ w2, Rel w2 → kp w w2 → K r w2) : gx_C 0 0 d M' a w1 (Ql K) := by
  refine gx_C_mono (fun o w2 q => ?_) h
  obtain ⟨v, e, e2, R2, k2⟩ := q
  subst e2
  exact ⟨v, e, kk w2 R2 k2⟩
theorem Rel_6 {w : gx_W} (R0 : Rel w) : w.1[6]? = some (9, 0) := by
  obtain ⟨n, l, N, T, g, D, K, nb, M, ln, m, h1, h2, h3, h4, h5, h6, h7, h8, h9⟩ := R0
  exact h1.c.1
theorem lw_ix {i Ls k : Nat} {c : Int32} (hc : c = nI k) (h : i + k < Ls) (hL : Ls ≤ 3072) : vp_in (nI i + c) Ls := by
  rw [hc, nI_add]
  exact vp_in_nI h (by omega)
set_option maxHeartbeats 1000000 in
theorem law_c0 {nc ns d Ls i : Nat} {w : gx_W} {Q : Option Value → gx_W → Prop} (hd : 141 ≤ d) (hL : Ls ≤ 3072) (hi : i + 6 ≤ Ls) (R0 : Rel w) (hs0 : w.1[0]? = some (30, Ls)) (kk : ∀ w2, Rel w2 → kp w w2 → gx_G nc ns d mL_law Q 1578 [.ref 0, .ref 6, .ref 57, .int (nI i)] [] w2) : gx_G nc ns d mL_law Q 224 [.ref 0, .ref 6, .ref 57, .int (nI i)] [] w := by
  refine g_aload_n dL_law_224 rfl ?_
  refine g_aload_n dL_law_225 rfl ?_
  refine g_iload_n dL_law_226 rfl ?_
  refine g_iconst (v := 1) dL_law_227 rfl ?_
  refine g_iadd dL_law_228 ?_
  refine g_rald dL_law_229 (by decide) hs0 (lw_ix (k := 1) rfl (by omega) hL) ?_
  refine g_aload_n dL_law_230 rfl ?_
  refine g_iload_n dL_law_231 rfl ?_
  refine g_iconst (v := 2) dL_law_232 rfl ?_
  refine g_iadd dL_law_233 ?_
  refine g_rald dL_law_234 (by decide) hs0 (lw_ix (k := 2) rfl (by omega) hL) ?_
  refine g_cV2i dL_law_235 ml_L_13 mi_X9_road mv_X9_road (Rel_6 R0) ⟨_, rfl, rfl⟩ (Nat.le_of_ble_eq_true rfl) rfl (by omega) ?_
  refine op_use (op_road (by omega) R0) (fun r w1 k1 h57 H => ?_)
  have hs1 := (k1 0 (by decide)).1.trans hs0
  have ea := (k1 0 (by decide)).2
  refine g_aload_n dL_law_238 rfl ?_
  refine g_aload_n dL_law_239 rfl ?_
  refine g_iload_n dL_law_240 rfl ?_
  refine g_iconst (v := 1) dL_law_241 rfl ?_
  refine g_iadd dL_law_242 ?_
  refine g_rald dL_law_243 (by decide) hs1 (lw_ix (k := 1) rfl (by omega) hL) ?_
  rw [ea]
  refine g_aload_n dL_law_244 rfl ?_
  refine g_iload_n dL_law_245 rfl ?_
  refine g_iconst (v := 2) dL_law_246 rfl ?_
  refine g_iadd dL_law_247 ?_
  refine g_rald dL_law_248 (by decide) hs1 (lw_ix (k := 2) rfl (by omega) hL) ?_
  rw [ea]
  refine g_cV2i dL_law_249 ml_L_17 mi_X10_road mv_X10_road h57 ⟨_, rfl, rfl⟩ (Nat.le_of_ble_eq_true rfl) rfl (by omega) ?_
  refine op_two H (fun w2 R2 k2 => ?_)
  refine g_icmp_eq (tgt := 1578) dL_law_252 (by decide) (fun zc252 => ?_) (fun zc252 => ?_)
  · exact kk w2 R2 k2
  · exact absurd rfl zc252
set_option maxHeartbeats 1000000 in
theorem law_c1 {nc ns d Ls i : Nat} {w : gx_W} {Q : Option Value → gx_W → Prop} (hd : 141 ≤ d) (hL : Ls ≤ 3072) (hi : i + 6 ≤ Ls) (R0 : Rel w) (hs0 : w.1[0]? = some (30, Ls)) (kk : ∀ w2, Rel w2 → kp w w2 → gx_G nc ns d mL_law Q 1578 [.ref 0, .ref 6, .ref 57, .int (nI i)] [] w2) : gx_G nc ns d mL_law Q 257 [.ref 0, .ref 6, .ref 57, .int (nI i)] [] w := by
  refine g_aload_n dL_law_257 rfl ?_
  refine g_aload_n dL_law_258 rfl ?_
  refine g_iload_n dL_law_259 rfl ?_
  refine g_iconst (v := 1) dL_law_260 rfl ?_
  refine g_iadd dL_law_261 ?_
  refine g_rald dL_law_262 (by decide) hs0 (lw_ix (k := 1) rfl (by omega) hL) ?_
  refine g_aload_n dL_law_263 rfl ?_
  refine g_iload_n dL_law_264 rfl ?_
  refine g_iconst (v := 2) dL_law_265 rfl ?_
  refine g_iadd dL_law_266 ?_
  refine g_rald dL_law_267 (by decide) hs0 (lw_ix (k := 2) rfl (by omega) hL) ?_
  refine g_aload_n dL_law_268 rfl ?_
  refine g_iload_n dL_law_269 rfl ?_
  refine g_iconst (v := 3) dL_law_270 rfl ?_
  refine g_iadd dL_law_271 ?_
  refine g_rald dL_law_272 (by decide) hs0 (lw_ix (k := 3) rfl (by omega) hL) ?_
  refine g_cV3i dL_law_273 ml_L_18 mi_X9_roads mv_X9_roads (Rel_6 R0) ⟨_, rfl, rfl⟩ (Nat.le_of_ble_eq_true rfl) rfl (by omega) ?_
  refine op_use (op_roads (by omega) R0) (fun r w1 k1 h57 H => ?_)
  have hs1 := (k1 0 (by decide)).1.trans hs0
  have ea := (k1 0 (by decide)).2
  refine g_aload_n dL_law_276 rfl ?_
  refine g_aload_n dL_law_277 rfl ?_
  refine g_iload_n dL_law_278 rfl ?_
  refine g_iconst (v := 1) dL_law_279 rfl ?_
  refine g_iadd dL_law_280 ?_
  refine g_rald dL_law_281 (by decide) hs1 (lw_ix (k := 1) rfl (by omega) hL) ?_
  rw [ea]
  refine g_aload_n dL_law_282 rfl ?_
  refine g_iload_n dL_law_283 rfl ?_
  refine g_iconst (v := 2) dL_law_284 rfl ?_
  refine g_iadd dL_law_285 ?_
  refine g_rald dL_law_286 (by decide) hs1 (lw_ix (k := 2) rfl (by omega) hL) ?_
  rw [ea]
  refine g_aload_n dL_law_287 rfl ?_
  refine g_iload_n dL_law_288 rfl ?_
  refine g_iconst (v := 3) dL_law_289 rfl ?_
  refine g_iadd dL_law_290 ?_
  refine g_rald dL_law_291 (by decide) hs1 (lw_ix (k := 3) rfl (by omega) hL) ?_
  rw [ea]
  refine g_cV3i dL_law_292 ml_L_22 mi_X10_roads mv_X10_roads h57 ⟨_, rfl, rfl⟩ (Nat.le_of_ble_eq_true rfl) rfl (by omega) ?_
  refine op_two H (fun w2 R2 k2 => ?_)
  refine g_icmp_eq (tgt := 1578) dL_law_295 (by decide) (fun zc295 => ?_) (fun zc295 => ?_)
  · exact kk w2 R2 k2
  · exact absurd rfl zc295
set_option maxHeartbeats 1000000 in
theorem law_c2 {nc ns d Ls i : Nat} {w : gx_W} {Q : Option Value → gx_W → Prop} (hd : 141 ≤ d) (hL : Ls ≤ 3072) (hi : i + 6 ≤ Ls) (R0 : Rel w) (hs0 : w.1[0]? = some (30, Ls)) (kk : ∀ w2, Rel w2 → kp w w2 → gx_G nc ns d mL_law Q 1578 [.ref 0, .ref 6, .ref 57, .int (nI i)] [] w2) : gx_G nc ns d mL_law Q 300 [.ref 0, .ref 6, .ref 57, .int (nI i)] [] w := by
  refine g_aload_n dL_law_300 rfl ?_
  refine g_aload_n dL_law_301 rfl ?_
  refine g_iload_n dL_law_302 rfl ?_
  refine g_iconst (v := 1) dL_law_303 rfl ?_
  refine g_iadd dL_law_304 ?_
  refine g_rald dL_law_305 (by decide) hs0 (lw_ix (k := 1) rfl (by omega) hL) ?_
  refine g_aload_n dL_law_306 rfl ?_
  refine g_iload_n dL_law_307 rfl ?_
  refine g_iconst (v := 2) dL_law_308 rfl ?_
  refine g_iadd dL_law_309 ?_
  refine g_rald dL_law_310 (by decide) hs0 (lw_ix (k := 2) rfl (by omega) hL) ?_
  refine g_aload_n dL_law_311 rfl ?_
  refine g_iload_n dL_law_312 rfl ?_
  refine g_iconst (v := 3) dL_law_313 rfl ?_
  refine g_iadd dL_law_314 ?_
  refine g_rald dL_law_315 (by decide) hs0 (lw_ix (k := 3) rfl (by omega) hL) ?_
  refine g_cV3i dL_law_316 ml_L_23 mi_X9_mend mv_X9_mend (Rel_6 R0) ⟨_, rfl, rfl⟩ (Nat.le_of_ble_eq_true rfl) rfl (by omega) ?_
  refine op_use (op_mend (by omega) R0) (fun r w1 k1 h57 H => ?_)
  have hs1 := (k1 0 (by decide)).1.trans hs0
  have ea := (k1 0 (by decide)).2
  refine g_aload_n dL_law_319 rfl ?_
  refine g_aload_n dL_law_320 rfl ?_
  refine g_iload_n dL_law_321 rfl ?_
  refine g_iconst (v := 1) dL_law_322 rfl ?_
  refine g_iadd dL_law_323 ?_
  refine g_rald dL_law_324 (by decide) hs1 (lw_ix (k := 1) rfl (by omega) hL) ?_
  rw [ea]
  refine g_aload_n dL_law_325 rfl ?_
  refine g_iload_n dL_law_326 rfl ?_
  refine g_iconst (v := 2) dL_law_327 rfl ?_
  refine g_iadd dL_law_328 ?_
  refine g_rald dL_law_329 (by decide) hs1 (lw_ix (k := 2) rfl (by omega) hL) ?_
  rw [ea]
  refine g_aload_n dL_law_330 rfl ?_
  refine g_iload_n dL_law_331 rfl ?_
  refine g_iconst (v := 3) dL_law_332 rfl ?_
  refine g_iadd dL_law_333 ?_
  refine g_rald dL_law_334 (by decide) hs1 (lw_ix (k := 3) rfl (by omega) hL) ?_
  rw [ea]
  refine g_cV3i dL_law_335 ml_L_26 mi_X10_mend mv_X10_mend h57 ⟨_, rfl, rfl⟩ (Nat.le_of_ble_eq_true rfl) rfl (by omega) ?_
  refine op_two H (fun w2 R2 k2 => ?_)
  refine g_icmp_eq (tgt := 1578) dL_law_338 (by decide) (fun zc338 => ?_) (fun zc338 => ?_)
  · exact kk w2 R2 k2
  · exact absurd rfl zc338
set_option maxHeartbeats 1000000 in
theorem law_c3 {nc ns d Ls i : Nat} {w : gx_W} {Q : Option Value → gx_W → Prop} (hd : 141 ≤ d) (hL : Ls ≤ 3072) (hi : i + 6 ≤ Ls) (R0 : Rel w) (hs0 : w.1[0]? = some (30, Ls)) (kk : ∀ w2, Rel w2 → kp w w2 → gx_G nc ns d mL_law Q 1578 [.ref 0, .ref 6, .ref 57, .int (nI i)] [] w2) : gx_G nc ns d mL_law Q 343 [.ref 0, .ref 6, .ref 57, .int (nI i)] [] w := by
  refine g_aload_n dL_law_343 rfl ?_
  refine g_aload_n dL_law_344 rfl ?_
  refine g_iload_n dL_law_345 rfl ?_
  refine g_iconst (v := 1) dL_law_346 rfl ?_
  refine g_iadd dL_law_347 ?_
  refine g_rald dL_law_348 (by decide) hs0 (lw_ix (k := 1) rfl (by omega) hL) ?_
  refine g_aload_n dL_law_349 rfl ?_
  refine g_iload_n dL_law_350 rfl ?_
  refine g_iconst (v := 2) dL_law_351 rfl ?_
  refine g_iadd dL_law_352 ?_
  refine g_rald dL_law_353 (by decide) hs0 (lw_ix (k := 2) rfl (by omega) hL) ?_
  refine g_cV2i dL_law_354 ml_L_27 mi_X9_of mv_X9_of (Rel_6 R0) ⟨_, rfl, rfl⟩ (Nat.le_of_ble_eq_true rfl) rfl (by omega) ?_
  refine op_use (op_of (by omega) R0) (fun r w1 k1 h57 H => ?_)
  have hs1 := (k1 0 (by decide)).1.trans hs0
  have ea := (k1 0 (by decide)).2
  refine g_aload_n dL_law_357 rfl ?_
  refine g_aload_n dL_law_358 rfl ?_
  refine g_iload_n dL_law_359 rfl ?_
  refine g_iconst (v := 1) dL_law_360 rfl ?_
  refine g_iadd dL_law_361 ?_
  refine g_rald dL_law_362 (by decide) hs1 (lw_ix (k := 1) rfl (by omega) hL) ?_
  rw [ea]
  refine g_aload_n dL_law_363 rfl ?_
  refine g_iload_n dL_law_364 rfl ?_
  refine g_iconst (v := 2) dL_law_365 rfl ?_
  refine g_iadd dL_law_366 ?_
  refine g_rald dL_law_367 (by decide) hs1 (lw_ix (k := 2) rfl (by omega) hL) ?_
  rw [ea]
  refine g_cV2i dL_law_368 ml_L_30 mi_X10_of mv_X10_of h57 ⟨_, rfl, rfl⟩ (Nat.le_of_ble_eq_true rfl) rfl (by omega) ?_
  refine op_two H (fun w2 R2 k2 => ?_)
  refine g_icmp_eq (tgt := 1578) dL_law_371 (by decide) (fun zc371 => ?_) (fun zc371 => ?_)
  · exact kk w2 R2 k2
  · exact absurd rfl zc371
set_option maxHeartbeats 1000000 in
theorem law_c4 {nc ns d Ls i : Nat} {w : gx_W} {Q : Option Value → gx_W → Prop} (hd : 141 ≤ d) (hL : Ls ≤ 3072) (hi : i + 6 ≤ Ls) (R0 : Rel w) (hs0 : w.1[0]? = some (30, Ls)) (kk : ∀ w2, Rel w2 → kp w w2 → gx_G nc ns d mL_law Q 1578 [.ref 0, .ref 6, .ref 57, .int (nI i)] [] w2) : gx_G nc ns d mL_law Q 376 [.ref 0, .ref 6, .ref 57, .int (nI i)] [] w := by
  refine g_aload_n dL_law_376 rfl ?_
  refine g_aload_n dL_law_377 rfl ?_
  refine g_iload_n dL_law_378 rfl ?_
  refine g_iconst (v := 1) dL_law_379 rfl ?_
  refine g_iadd dL_law_380 ?_
  refine g_rald dL_law_381 (by decide) hs0 (lw_ix (k := 1) rfl (by omega) hL) ?_
  refine g_cV1i dL_law_382 ml_L_31 mi_X9_feed mv_X9_feed (Rel_6 R0) ⟨_, rfl, rfl⟩ (Nat.le_of_ble_eq_true rfl) rfl (by omega) ?_
  refine op_use (op_feed (by omega) R0) (fun r w1 k1 h57 H => ?_)
  have hs1 := (k1 0 (by decide)).1.trans hs0
  have ea := (k1 0 (by decide)).2
  refine g_aload_n dL_law_385 rfl ?_
  refine g_aload_n dL_law_386 rfl ?_
  refine g_iload_n dL_law_387 rfl ?_
  refine g_iconst (v := 1) dL_law_388 rfl ?_
  refine g_iadd dL_law_389 ?_
  refine g_rald dL_law_390 (by decide) hs1 (lw_ix (k := 1) rfl (by omega) hL) ?_
  rw [ea]
  refine g_cV1i dL_law_391 ml_L_35 mi_X10_feed mv_X10_feed h57 ⟨_, rfl, rfl⟩ (Nat.le_of_ble_eq_true rfl) rfl (by omega) ?_
  refine op_two H (fun w2 R2 k2 => ?_)
  refine g_icmp_eq (tgt := 1578) dL_law_394 (by decide) (fun zc394 => ?_) (fun zc394 => ?_)
  · exact kk w2 R2 k2
  · exact absurd rfl zc394
set_option maxHeartbeats 1000000 in
theorem law_c5 {nc ns d Ls i : Nat} {w : gx_W} {Q : Option Value → gx_W → Prop} (hd : 141 ≤ d) (hL : Ls ≤ 3072) (hi : i + 6 ≤ Ls) (R0 : Rel w) (hs0 : w.1[0]? = some (30, Ls)) (kk : ∀ w2, Rel w2 → kp w w2 → gx_G nc ns d mL_law Q 1578 [.ref 0, .ref 6, .ref 57, .int (nI i)] [] w2) : gx_G nc ns d mL_law Q 399 [.ref 0, .ref 6, .ref 57, .int (nI i)] [] w := by
  refine g_aload_n dL_law_399 rfl ?_
  refine g_cV0i dL_law_400 ml_L_36 mi_X9_law mv_X9_law (Rel_6 R0) ⟨_, rfl, rfl⟩ (Nat.le_of_ble_eq_true rfl) rfl (by omega) ?_
  refine op_use (op_law (by omega) R0) (fun r w1 k1 h57 H => ?_)
  have hs1 := (k1 0 (by decide)).1.trans hs0
  have ea := (k1 0 (by decide)).2
  refine g_aload_n dL_law_403 rfl ?_
  refine g_cV0i dL_law_404 ml_L_40 mi_X10_law mv_X10_law h57 ⟨_, rfl, rfl⟩ (Nat.le_of_ble_eq_true rfl) rfl (by omega) ?_
  refine op_two H (fun w2 R2 k2 => ?_)
  refine g_icmp_eq (tgt := 1578) dL_law_407 (by decide) (fun zc407 => ?_) (fun zc407 => ?_)
  · exact kk w2 R2 k2
  · exact absurd rfl zc407
set_option maxHeartbeats 1000000 in
theorem law_c6 {nc ns d Ls i : Nat} {w : gx_W} {Q : Option Value → gx_W → Prop} (hd : 141 ≤ d) (hL : Ls ≤ 3072) (hi : i + 6 ≤ Ls) (R0 : Rel w) (hs0 : w.1[0]? = some (30, Ls)) (kk : ∀ w2, Rel w2 → kp w w2 → gx_G nc ns d mL_law Q 1578 [.ref 0, .ref 6, .ref 57, .int (nI i)] [] w2) : gx_G nc ns d mL_law Q 412 [.ref 0, .ref 6, .ref 57, .int (nI i)] [] w := by
  refine g_aload_n dL_law_412 rfl ?_
  refine g_aload_n dL_law_413 rfl ?_
  refine g_iload_n dL_law_414 rfl ?_
  refine g_iconst (v := 1) dL_law_415 rfl ?_
  refine g_iadd dL_law_416 ?_
  refine g_rald dL_law_417 (by decide) hs0 (lw_ix (k := 1) rfl (by omega) hL) ?_
  refine g_aload_n dL_law_418 rfl ?_
  refine g_iload_n dL_law_419 rfl ?_
  refine g_iconst (v := 2) dL_law_420 rfl ?_
  refine g_iadd dL_law_421 ?_
  refine g_rald dL_law_422 (by decide) hs0 (lw_ix (k := 2) rfl (by omega) hL) ?_
  refine g_cV2i dL_law_423 ml_L_41 mi_X9_pull mv_X9_pull (Rel_6 R0) ⟨_, rfl, rfl⟩ (Nat.le_of_ble_eq_true rfl) rfl (by omega) ?_
  refine op_use (op_pull (by omega) R0) (fun r w1 k1 h57 H => ?_)
  have hs1 := (k1 0 (by decide)).1.trans hs0
  have ea := (k1 0 (by decide)).2
  refine g_aload_n dL_law_426 rfl ?_
  refine g_aload_n dL_law_427 rfl ?_
  refine g_iload_n dL_law_428 rfl ?_
  refine g_iconst (v := 1) dL_law_429 rfl ?_
  refine g_iadd dL_law_430 ?_
  refine g_rald dL_law_431 (by decide) hs1 (lw_ix (k := 1) rfl (by omega) hL) ?_
  rw [ea]
  refine g_aload_n dL_law_432 rfl ?_
  refine g_iload_n dL_law_433 rfl ?_
  refine g_iconst (v := 2) dL_law_434 rfl ?_
  refine g_iadd dL_law_435 ?_
  refine g_rald dL_law_436 (by decide) hs1 (lw_ix (k := 2) rfl (by omega) hL) ?_
  rw [ea]
  refine g_cV2i dL_law_437 ml_L_44 mi_X10_pull mv_X10_pull h57 ⟨_, rfl, rfl⟩ (Nat.le_of_ble_eq_true rfl) rfl (by omega) ?_
  refine op_two H (fun w2 R2 k2 => ?_)
  refine g_icmp_eq (tgt := 1578) dL_law_440 (by decide) (fun zc440 => ?_) (fun zc440 => ?_)
  · exact kk w2 R2 k2
  · exact absurd rfl zc440
set_option maxHeartbeats 1000000 in
theorem law_c7 {nc ns d Ls i : Nat} {w : gx_W} {Q : Option Value → gx_W → Prop} (hd : 141 ≤ d) (hL : Ls ≤ 3072) (hi : i + 6 ≤ Ls) (R0 : Rel w) (hs0 : w.1[0]? = some (30, Ls)) (kk : ∀ w2, Rel w2 → kp w w2 → gx_G nc ns d mL_law Q 1578 [.ref 0, .ref 6, .ref 57, .int (nI i)] [] w2) : gx_G nc ns d mL_law Q 445 [.ref 0, .ref 6, .ref 57, .int (nI i)] [] w := by
  refine g_aload_n dL_law_445 rfl ?_
  refine g_aload_n dL_law_446 rfl ?_
  refine g_iload_n dL_law_447 rfl ?_
  refine g_iconst (v := 1) dL_law_448 rfl ?_
  refine g_iadd dL_law_449 ?_
  refine g_rald dL_law_450 (by decide) hs0 (lw_ix (k := 1) rfl (by omega) hL) ?_
  refine g_cV1i dL_law_451 ml_L_45 mi_X9_has mv_X9_has (Rel_6 R0) ⟨_, rfl, rfl⟩ (Nat.le_of_ble_eq_true rfl) rfl (by omega) ?_
  refine op_use (op_has (by omega) R0) (fun r w1 k1 h57 H => ?_)
  have hs1 := (k1 0 (by decide)).1.trans hs0
  have ea := (k1 0 (by decide)).2
  refine g_aload_n dL_law_454 rfl ?_
  refine g_aload_n dL_law_455 rfl ?_
  refine g_iload_n dL_law_456 rfl ?_
  refine g_iconst (v := 1) dL_law_457 rfl ?_
  refine g_iadd dL_law_458 ?_
  refine g_rald dL_law_459 (by decide) hs1 (lw_ix (k := 1) rfl (by omega) hL) ?_
  rw [ea]
  refine g_cV1i dL_law_460 ml_L_48 mi_X10_has mv_X10_has h57 ⟨_, rfl, rfl⟩ (Nat.le_of_ble_eq_true rfl) rfl (by omega) ?_
  refine op_two H (fun w2 R2 k2 => ?_)
  refine g_icmp_eq (tgt := 1578) dL_law_463 (by decide) (fun zc463 => ?_) (fun zc463 => ?_)
  · exact kk w2 R2 k2
  · exact absurd rfl zc463
set_option maxHeartbeats 1000000 in
theorem law_c8 {nc ns d Ls i : Nat} {w : gx_W} {Q : Option Value → gx_W → Prop} (hd : 141 ≤ d) (hL : Ls ≤ 3072) (hi : i + 6 ≤ Ls) (R0 : Rel w) (hs0 : w.1[0]? = some (30, Ls)) (kk : ∀ w2, Rel w2 → kp w w2 → gx_G nc ns d mL_law Q 1578 [.ref 0, .ref 6, .ref 57, .int (nI i)] [] w2) : gx_G nc ns d mL_law Q 468 [.ref 0, .ref 6, .ref 57, .int (nI i)] [] w := by
  refine g_aload_n dL_law_468 rfl ?_
  refine g_aload_n dL_law_469 rfl ?_
  refine g_iload_n dL_law_470 rfl ?_
  refine g_iconst (v := 1) dL_law_471 rfl ?_
  refine g_iadd dL_law_472 ?_
  refine g_rald dL_law_473 (by decide) hs0 (lw_ix (k := 1) rfl (by omega) hL) ?_
  refine g_aload_n dL_law_474 rfl ?_
  refine g_iload_n dL_law_475 rfl ?_
  refine g_iconst (v := 2) dL_law_476 rfl ?_
  refine g_iadd dL_law_477 ?_
  refine g_rald dL_law_478 (by decide) hs0 (lw_ix (k := 2) rfl (by omega) hL) ?_
  refine g_cV2i dL_law_479 ml_L_49 mi_X9_last mv_X9_last (Rel_6 R0) ⟨_, rfl, rfl⟩ (Nat.le_of_ble_eq_true rfl) rfl (by omega) ?_
  refine op_use (op_last (by omega) R0) (fun r w1 k1 h57 H => ?_)
  have hs1 := (k1 0 (by decide)).1.trans hs0
  have ea := (k1 0 (by decide)).2
  refine g_aload_n dL_law_482 rfl ?_
  refine g_aload_n dL_law_483 rfl ?_
  refine g_iload_n dL_law_484 rfl ?_
  refine g_iconst (v := 1) dL_law_485 rfl ?_
  refine g_iadd dL_law_486 ?_
  refine g_rald dL_law_487 (by decide) hs1 (lw_ix (k := 1) rfl (by omega) hL) ?_
  rw [ea]
  refine g_aload_n dL_law_488 rfl ?_
  refine g_iload_n dL_law_489 rfl ?_
  refine g_iconst (v := 2) dL_law_490 rfl ?_
  refine g_iadd dL_law_491 ?_
  refine g_rald dL_law_492 (by decide) hs1 (lw_ix (k := 2) rfl (by omega) hL) ?_
  rw [ea]
  refine g_cV2i dL_law_493 ml_L_52 mi_X10_last mv_X10_last h57 ⟨_, rfl, rfl⟩ (Nat.le_of_ble_eq_true rfl) rfl (by omega) ?_
  refine op_two H (fun w2 R2 k2 => ?_)
  refine g_icmp_eq (tgt := 1578) dL_law_496 (by decide) (fun zc496 => ?_) (fun zc496 => ?_)
  · exact kk w2 R2 k2
  · exact absurd rfl zc496
set_option maxHeartbeats 1000000 in
theorem law_c9 {nc ns d Ls i : Nat} {w : gx_W} {Q : Option Value → gx_W → Prop} (hd : 141 ≤ d) (hL : Ls ≤ 3072) (hi : i + 6 ≤ Ls) (R0 : Rel w) (hs0 : w.1[0]? = some (30, Ls)) (kk : ∀ w2, Rel w2 → kp w w2 → gx_G nc ns d mL_law Q 1578 [.ref 0, .ref 6, .ref 57, .int (nI i)] [] w2) : gx_G nc ns d mL_law Q 501 [.ref 0, .ref 6, .ref 57, .int (nI i)] [] w := by
  refine g_aload_n dL_law_501 rfl ?_
  refine g_aload_n dL_law_502 rfl ?_
  refine g_iload_n dL_law_503 rfl ?_
  refine g_iconst (v := 1) dL_law_504 rfl ?_
  refine g_iadd dL_law_505 ?_
  refine g_rald dL_law_506 (by decide) hs0 (lw_ix (k := 1) rfl (by omega) hL) ?_
  refine g_aload_n dL_law_507 rfl ?_
  refine g_iload_n dL_law_508 rfl ?_
  refine g_iconst (v := 2) dL_law_509 rfl ?_
  refine g_iadd dL_law_510 ?_
  refine g_rald dL_law_511 (by decide) hs0 (lw_ix (k := 2) rfl (by omega) hL) ?_
  refine g_aload_n dL_law_512 rfl ?_
  refine g_iload_n dL_law_513 rfl ?_
  refine g_iconst (v := 3) dL_law_514 rfl ?_
  refine g_iadd dL_law_515 ?_
  refine g_rald dL_law_516 (by decide) hs0 (lw_ix (k := 3) rfl (by omega) hL) ?_
  refine g_aload_n dL_law_517 rfl ?_
  refine g_iload_n dL_law_518 rfl ?_
  refine g_iconst (v := 4) dL_law_519 rfl ?_
  refine g_iadd dL_law_520 ?_
  refine g_rald dL_law_521 (by decide) hs0 (lw_ix (k := 4) rfl (by omega) hL) ?_
  refine g_cV4i dL_law_522 ml_L_53 mi_X9_day mv_X9_day (Rel_6 R0) ⟨_, rfl, rfl⟩ (Nat.le_of_ble_eq_true rfl) rfl (by omega) ?_
  refine op_use (op_day (by omega) R0) (fun r w1 k1 h57 H => ?_)
  have hs1 := (k1 0 (by decide)).1.trans hs0
  have ea := (k1 0 (by decide)).2
  refine g_aload_n dL_law_525 rfl ?_
  refine g_aload_n dL_law_526 rfl ?_
  refine g_iload_n dL_law_527 rfl ?_
  refine g_iconst (v := 1) dL_law_528 rfl ?_
  refine g_iadd dL_law_529 ?_
  refine g_rald dL_law_530 (by decide) hs1 (lw_ix (k := 1) rfl (by omega) hL) ?_
  rw [ea]
  refine g_aload_n dL_law_531 rfl ?_
  refine g_iload_n dL_law_532 rfl ?_
  refine g_iconst (v := 2) dL_law_533 rfl ?_
  refine g_iadd dL_law_534 ?_
  refine g_rald dL_law_535 (by decide) hs1 (lw_ix (k := 2) rfl (by omega) hL) ?_
  rw [ea]
  refine g_aload_n dL_law_536 rfl ?_
  refine g_iload_n dL_law_537 rfl ?_
  refine g_iconst (v := 3) dL_law_538 rfl ?_
  refine g_iadd dL_law_539 ?_
  refine g_rald dL_law_540 (by decide) hs1 (lw_ix (k := 3) rfl (by omega) hL) ?_
  rw [ea]
  refine g_aload_n dL_law_541 rfl ?_
  refine g_iload_n dL_law_542 rfl ?_
  refine g_iconst (v := 4) dL_law_543 rfl ?_
  refine g_iadd dL_law_544 ?_
  refine g_rald dL_law_545 (by decide) hs1 (lw_ix (k := 4) rfl (by omega) hL) ?_
  rw [ea]
  refine g_cV4i dL_law_546 ml_L_57 mi_X10_day mv_X10_day h57 ⟨_, rfl, rfl⟩ (Nat.le_of_ble_eq_true rfl) rfl (by omega) ?_
  refine op_two H (fun w2 R2 k2 => ?_)
  refine g_icmp_eq (tgt := 1578) dL_law_549 (by decide) (fun zc549 => ?_) (fun zc549 => ?_)
  · exact kk w2 R2 k2
  · exact absurd rfl zc549
set_option maxHeartbeats 1000000 in
theorem law_c10 {nc ns d Ls i : Nat} {w : gx_W} {Q : Option Value → gx_W → Prop} (hd : 141 ≤ d) (hL : Ls ≤ 3072) (hi : i + 6 ≤ Ls) (R0 : Rel w) (hs0 : w.1[0]? = some (30, Ls)) (kk : ∀ w2, Rel w2 → kp w w2 → gx_G nc ns d mL_law Q 1578 [.ref 0, .ref 6, .ref 57, .int (nI i)] [] w2) : gx_G nc ns d mL_law Q 554 [.ref 0, .ref 6, .ref 57, .int (nI i)] [] w := by
  refine g_aload_n dL_law_554 rfl ?_
  refine g_aload_n dL_law_555 rfl ?_
  refine g_iload_n dL_law_556 rfl ?_
  refine g_iconst (v := 1) dL_law_557 rfl ?_
  refine g_iadd dL_law_558 ?_
  refine g_rald dL_law_559 (by decide) hs0 (lw_ix (k := 1) rfl (by omega) hL) ?_
  refine g_aload_n dL_law_560 rfl ?_
  refine g_iload_n dL_law_561 rfl ?_
  refine g_iconst (v := 2) dL_law_562 rfl ?_
  refine g_iadd dL_law_563 ?_
  refine g_rald dL_law_564 (by decide) hs0 (lw_ix (k := 2) rfl (by omega) hL) ?_
  refine g_cV2i dL_law_565 ml_L_58 mi_X9_unlike mv_X9_unlike (Rel_6 R0) ⟨_, rfl, rfl⟩ (Nat.le_of_ble_eq_true rfl) rfl (by omega) ?_
  refine op_use (op_unlike (by omega) R0) (fun r w1 k1 h57 H => ?_)
  have hs1 := (k1 0 (by decide)).1.trans hs0
  have ea := (k1 0 (by decide)).2
  refine g_aload_n dL_law_568 rfl ?_
  refine g_aload_n dL_law_569 rfl ?_
  refine g_iload_n dL_law_570 rfl ?_
  refine g_iconst (v := 1) dL_law_571 rfl ?_
  refine g_iadd dL_law_572 ?_
  refine g_rald dL_law_573 (by decide) hs1 (lw_ix (k := 1) rfl (by omega) hL) ?_
  rw [ea]
  refine g_aload_n dL_law_574 rfl ?_
  refine g_iload_n dL_law_575 rfl ?_
  refine g_iconst (v := 2) dL_law_576 rfl ?_
  refine g_iadd dL_law_577 ?_
  refine g_rald dL_law_578 (by decide) hs1 (lw_ix (k := 2) rfl (by omega) hL) ?_
  rw [ea]
  refine g_cV2i dL_law_579 ml_L_61 mi_X10_unlike mv_X10_unlike h57 ⟨_, rfl, rfl⟩ (Nat.le_of_ble_eq_true rfl) rfl (by omega) ?_
  refine op_two H (fun w2 R2 k2 => ?_)
  refine g_icmp_eq (tgt := 1578) dL_law_582 (by decide) (fun zc582 => ?_) (fun zc582 => ?_)
  · exact kk w2 R2 k2
  · exact absurd rfl zc582
set_option maxHeartbeats 1000000 in
theorem law_c11 {nc ns d Ls i : Nat} {w : gx_W} {Q : Option Value → gx_W → Prop} (hd : 141 ≤ d) (hL : Ls ≤ 3072) (hi : i + 6 ≤ Ls) (R0 : Rel w) (hs0 : w.1[0]? = some (30, Ls)) (kk : ∀ w2, Rel w2 → kp w w2 → gx_G nc ns d mL_law Q 1578 [.ref 0, .ref 6, .ref 57, .int (nI i)] [] w2) : gx_G nc ns d mL_law Q 587 [.ref 0, .ref 6, .ref 57, .int (nI i)] [] w := by
  refine g_aload_n dL_law_587 rfl ?_
  refine g_aload_n dL_law_588 rfl ?_
  refine g_iload_n dL_law_589 rfl ?_
  refine g_iconst (v := 1) dL_law_590 rfl ?_
  refine g_iadd dL_law_591 ?_
  refine g_rald dL_law_592 (by decide) hs0 (lw_ix (k := 1) rfl (by omega) hL) ?_
  refine g_aload_n dL_law_593 rfl ?_
  refine g_iload_n dL_law_594 rfl ?_
  refine g_iconst (v := 2) dL_law_595 rfl ?_
  refine g_iadd dL_law_596 ?_
  refine g_rald dL_law_597 (by decide) hs0 (lw_ix (k := 2) rfl (by omega) hL) ?_
  refine g_cV2i dL_law_598 ml_L_62 mi_X9_how mv_X9_how (Rel_6 R0) ⟨_, rfl, rfl⟩ (Nat.le_of_ble_eq_true rfl) rfl (by omega) ?_
  refine op_use (op_how (by omega) R0) (fun r w1 k1 h57 H => ?_)
  have hs1 := (k1 0 (by decide)).1.trans hs0
  have ea := (k1 0 (by decide)).2
  refine g_aload_n dL_law_601 rfl ?_
  refine g_aload_n dL_law_602 rfl ?_
  refine g_iload_n dL_law_603 rfl ?_
  refine g_iconst (v := 1) dL_law_604 rfl ?_
  refine g_iadd dL_law_605 ?_
  refine g_rald dL_law_606 (by decide) hs1 (lw_ix (k := 1) rfl (by omega) hL) ?_
  rw [ea]
  refine g_aload_n dL_law_607 rfl ?_
  refine g_iload_n dL_law_608 rfl ?_
  refine g_iconst (v := 2) dL_law_609 rfl ?_
  refine g_iadd dL_law_610 ?_
  refine g_rald dL_law_611 (by decide) hs1 (lw_ix (k := 2) rfl (by omega) hL) ?_
  rw [ea]
  refine g_cV2i dL_law_612 ml_L_65 mi_X10_how mv_X10_how h57 ⟨_, rfl, rfl⟩ (Nat.le_of_ble_eq_true rfl) rfl (by omega) ?_
  refine op_two H (fun w2 R2 k2 => ?_)
  refine g_icmp_eq (tgt := 1578) dL_law_615 (by decide) (fun zc615 => ?_) (fun zc615 => ?_)
  · exact kk w2 R2 k2
  · exact absurd rfl zc615
set_option maxHeartbeats 1000000 in
theorem law_c12 {nc ns d Ls i : Nat} {w : gx_W} {Q : Option Value → gx_W → Prop} (hd : 141 ≤ d) (hL : Ls ≤ 3072) (hi : i + 6 ≤ Ls) (R0 : Rel w) (hs0 : w.1[0]? = some (30, Ls)) (kk : ∀ w2, Rel w2 → kp w w2 → gx_G nc ns d mL_law Q 1578 [.ref 0, .ref 6, .ref 57, .int (nI i)] [] w2) : gx_G nc ns d mL_law Q 620 [.ref 0, .ref 6, .ref 57, .int (nI i)] [] w := by
  refine g_aload_n dL_law_620 rfl ?_
  refine g_aload_n dL_law_621 rfl ?_
  refine g_iload_n dL_law_622 rfl ?_
  refine g_iconst (v := 1) dL_law_623 rfl ?_
  refine g_iadd dL_law_624 ?_
  refine g_rald dL_law_625 (by decide) hs0 (lw_ix (k := 1) rfl (by omega) hL) ?_
  refine g_aload_n dL_law_626 rfl ?_
  refine g_iload_n dL_law_627 rfl ?_
  refine g_iconst (v := 2) dL_law_628 rfl ?_
  refine g_iadd dL_law_629 ?_
  refine g_rald dL_law_630 (by decide) hs0 (lw_ix (k := 2) rfl (by omega) hL) ?_
  refine g_cV2i dL_law_631 ml_L_66 mi_X9_ahead mv_X9_ahead (Rel_6 R0) ⟨_, rfl, rfl⟩ (Nat.le_of_ble_eq_true rfl) rfl (by omega) ?_
  refine op_use (op_ahead (by omega) R0) (fun r w1 k1 h57 H => ?_)
  have hs1 := (k1 0 (by decide)).1.trans hs0
  have ea := (k1 0 (by decide)).2
  refine g_aload_n dL_law_634 rfl ?_
  refine g_aload_n dL_law_635 rfl ?_
  refine g_iload_n dL_law_636 rfl ?_
  refine g_iconst (v := 1) dL_law_637 rfl ?_
  refine g_iadd dL_law_638 ?_
  refine g_rald dL_law_639 (by decide) hs1 (lw_ix (k := 1) rfl (by omega) hL) ?_
  rw [ea]
  refine g_aload_n dL_law_640 rfl ?_
  refine g_iload_n dL_law_641 rfl ?_
  refine g_iconst (v := 2) dL_law_642 rfl ?_
  refine g_iadd dL_law_643 ?_
  refine g_rald dL_law_644 (by decide) hs1 (lw_ix (k := 2) rfl (by omega) hL) ?_
  rw [ea]
  refine g_cV2i dL_law_645 ml_L_69 mi_X10_ahead mv_X10_ahead h57 ⟨_, rfl, rfl⟩ (Nat.le_of_ble_eq_true rfl) rfl (by omega) ?_
  refine op_two H (fun w2 R2 k2 => ?_)
  refine g_icmp_eq (tgt := 1578) dL_law_648 (by decide) (fun zc648 => ?_) (fun zc648 => ?_)
  · exact kk w2 R2 k2
  · exact absurd rfl zc648
set_option maxHeartbeats 1000000 in
theorem law_c13 {nc ns d Ls i : Nat} {w : gx_W} {Q : Option Value → gx_W → Prop} (hd : 141 ≤ d) (hL : Ls ≤ 3072) (hi : i + 6 ≤ Ls) (R0 : Rel w) (hs0 : w.1[0]? = some (30, Ls)) (kk : ∀ w2, Rel w2 → kp w w2 → gx_G nc ns d mL_law Q 1578 [.ref 0, .ref 6, .ref 57, .int (nI i)] [] w2) : gx_G nc ns d mL_law Q 653 [.ref 0, .ref 6, .ref 57, .int (nI i)] [] w := by
  refine g_aload_n dL_law_653 rfl ?_
  refine g_aload_n dL_law_654 rfl ?_
  refine g_iload_n dL_law_655 rfl ?_
  refine g_iconst (v := 1) dL_law_656 rfl ?_
  refine g_iadd dL_law_657 ?_
  refine g_rald dL_law_658 (by decide) hs0 (lw_ix (k := 1) rfl (by omega) hL) ?_
  refine g_cV1i dL_law_659 ml_L_70 mi_X9_again mv_X9_again (Rel_6 R0) ⟨_, rfl, rfl⟩ (Nat.le_of_ble_eq_true rfl) rfl (by omega) ?_
  refine op_use (op_again (by omega) R0) (fun r w1 k1 h57 H => ?_)
  have hs1 := (k1 0 (by decide)).1.trans hs0
  have ea := (k1 0 (by decide)).2
  refine g_aload_n dL_law_662 rfl ?_
  refine g_aload_n dL_law_663 rfl ?_
  refine g_iload_n dL_law_664 rfl ?_
  refine g_iconst (v := 1) dL_law_665 rfl ?_
  refine g_iadd dL_law_666 ?_
  refine g_rald dL_law_667 (by decide) hs1 (lw_ix (k := 1) rfl (by omega) hL) ?_
  rw [ea]
  refine g_cV1i dL_law_668 ml_L_73 mi_X10_again mv_X10_again h57 ⟨_, rfl, rfl⟩ (Nat.le_of_ble_eq_true rfl) rfl (by omega) ?_
  refine op_two H (fun w2 R2 k2 => ?_)
  refine g_icmp_eq (tgt := 1578) dL_law_671 (by decide) (fun zc671 => ?_) (fun zc671 => ?_)
  · exact kk w2 R2 k2
  · exact absurd rfl zc671
set_option maxHeartbeats 1000000 in
theorem law_c14 {nc ns d Ls i : Nat} {w : gx_W} {Q : Option Value → gx_W → Prop} (hd : 141 ≤ d) (hL : Ls ≤ 3072) (hi : i + 6 ≤ Ls) (R0 : Rel w) (hs0 : w.1[0]? = some (30, Ls)) (kk : ∀ w2, Rel w2 → kp w w2 → gx_G nc ns d mL_law Q 1578 [.ref 0, .ref 6, .ref 57, .int (nI i)] [] w2) : gx_G nc ns d mL_law Q 676 [.ref 0, .ref 6, .ref 57, .int (nI i)] [] w := by
  refine g_aload_n dL_law_676 rfl ?_
  refine g_cV0i dL_law_677 ml_L_74 mi_X9_green mv_X9_green (Rel_6 R0) ⟨_, rfl, rfl⟩ (Nat.le_of_ble_eq_true rfl) rfl (by omega) ?_
  refine op_use (op_green (by omega) R0) (fun r w1 k1 h57 H => ?_)
  have hs1 := (k1 0 (by decide)).1.trans hs0
  have ea := (k1 0 (by decide)).2
  refine g_aload_n dL_law_680 rfl ?_
  refine g_cV0i dL_law_681 ml_L_77 mi_X10_green mv_X10_green h57 ⟨_, rfl, rfl⟩ (Nat.le_of_ble_eq_true rfl) rfl (by omega) ?_
  refine op_two H (fun w2 R2 k2 => ?_)
  refine g_icmp_eq (tgt := 1578) dL_law_684 (by decide) (fun zc684 => ?_) (fun zc684 => ?_)
  · exact kk w2 R2 k2
  · exact absurd rfl zc684
set_option maxHeartbeats 1000000 in
theorem law_c15 {nc ns d Ls i : Nat} {w : gx_W} {Q : Option Value → gx_W → Prop} (hd : 141 ≤ d) (hL : Ls ≤ 3072) (hi : i + 6 ≤ Ls) (R0 : Rel w) (hs0 : w.1[0]? = some (30, Ls)) (kk : ∀ w2, Rel w2 → kp w w2 → gx_G nc ns d mL_law Q 1578 [.ref 0, .ref 6, .ref 57, .int (nI i)] [] w2) : gx_G nc ns d mL_law Q 689 [.ref 0, .ref 6, .ref 57, .int (nI i)] [] w := by
  refine g_aload_n dL_law_689 rfl ?_
  refine g_aload_n dL_law_690 rfl ?_
  refine g_iload_n dL_law_691 rfl ?_
  refine g_iconst (v := 1) dL_law_692 rfl ?_
  refine g_iadd dL_law_693 ?_
  refine g_rald dL_law_694 (by decide) hs0 (lw_ix (k := 1) rfl (by omega) hL) ?_
  refine g_aload_n dL_law_695 rfl ?_
  refine g_iload_n dL_law_696 rfl ?_
  refine g_iconst (v := 2) dL_law_697 rfl ?_
  refine g_iadd dL_law_698 ?_
  refine g_rald dL_law_699 (by decide) hs0 (lw_ix (k := 2) rfl (by omega) hL) ?_
  refine g_cV2i dL_law_700 ml_L_78 mi_X9_second mv_X9_second (Rel_6 R0) ⟨_, rfl, rfl⟩ (Nat.le_of_ble_eq_true rfl) rfl (by omega) ?_
  refine op_use (op_second (by omega) R0) (fun r w1 k1 h57 H => ?_)
  have hs1 := (k1 0 (by decide)).1.trans hs0
  have ea := (k1 0 (by decide)).2
  refine g_aload_n dL_law_703 rfl ?_
  refine g_aload_n dL_law_704 rfl ?_
  refine g_iload_n dL_law_705 rfl ?_
  refine g_iconst (v := 1) dL_law_706 rfl ?_
  refine g_iadd dL_law_707 ?_
  refine g_rald dL_law_708 (by decide) hs1 (lw_ix (k := 1) rfl (by omega) hL) ?_
  rw [ea]
  refine g_aload_n dL_law_709 rfl ?_
  refine g_iload_n dL_law_710 rfl ?_
  refine g_iconst (v := 2) dL_law_711 rfl ?_
  refine g_iadd dL_law_712 ?_
  refine g_rald dL_law_713 (by decide) hs1 (lw_ix (k := 2) rfl (by omega) hL) ?_
  rw [ea]
  refine g_cV2i dL_law_714 ml_L_81 mi_X10_second mv_X10_second h57 ⟨_, rfl, rfl⟩ (Nat.le_of_ble_eq_true rfl) rfl (by omega) ?_
  refine op_two H (fun w2 R2 k2 => ?_)
  refine g_icmp_eq (tgt := 1578) dL_law_717 (by decide) (fun zc717 => ?_) (fun zc717 => ?_)
  · exact kk w2 R2 k2
  · exact absurd rfl zc717
set_option maxHeartbeats 1000000 in
theorem law_c16 {nc ns d Ls i : Nat} {w : gx_W} {Q : Option Value → gx_W → Prop} (hd : 141 ≤ d) (hL : Ls ≤ 3072) (hi : i + 6 ≤ Ls) (R0 : Rel w) (hs0 : w.1[0]? = some (30, Ls)) (kk : ∀ w2, Rel w2 → kp w w2 → gx_G nc ns d mL_law Q 1578 [.ref 0, .ref 6, .ref 57, .int (nI i)] [] w2) : gx_G nc ns d mL_law Q 722 [.ref 0, .ref 6, .ref 57, .int (nI i)] [] w := by
  refine g_aload_n dL_law_722 rfl ?_
  refine g_aload_n dL_law_723 rfl ?_
  refine g_iload_n dL_law_724 rfl ?_
  refine g_iconst (v := 1) dL_law_725 rfl ?_
  refine g_iadd dL_law_726 ?_
  refine g_rald dL_law_727 (by decide) hs0 (lw_ix (k := 1) rfl (by omega) hL) ?_
  refine g_aload_n dL_law_728 rfl ?_
  refine g_iload_n dL_law_729 rfl ?_
  refine g_iconst (v := 2) dL_law_730 rfl ?_
  refine g_iadd dL_law_731 ?_
  refine g_rald dL_law_732 (by decide) hs0 (lw_ix (k := 2) rfl (by omega) hL) ?_
  refine g_cV2i dL_law_733 ml_L_82 mi_X9_sit mv_X9_sit (Rel_6 R0) ⟨_, rfl, rfl⟩ (Nat.le_of_ble_eq_true rfl) rfl (by omega) ?_
  refine op_use (op_sit (by omega) R0) (fun r w1 k1 h57 H => ?_)
  have hs1 := (k1 0 (by decide)).1.trans hs0
  have ea := (k1 0 (by decide)).2
  refine g_aload_n dL_law_736 rfl ?_
  refine g_aload_n dL_law_737 rfl ?_
  refine g_iload_n dL_law_738 rfl ?_
  refine g_iconst (v := 1) dL_law_739 rfl ?_
  refine g_iadd dL_law_740 ?_
  refine g_rald dL_law_741 (by decide) hs1 (lw_ix (k := 1) rfl (by omega) hL) ?_
  rw [ea]
  refine g_aload_n dL_law_742 rfl ?_
  refine g_iload_n dL_law_743 rfl ?_
  refine g_iconst (v := 2) dL_law_744 rfl ?_
  refine g_iadd dL_law_745 ?_
  refine g_rald dL_law_746 (by decide) hs1 (lw_ix (k := 2) rfl (by omega) hL) ?_
  rw [ea]
  refine g_cV2i dL_law_747 ml_L_85 mi_X10_sit mv_X10_sit h57 ⟨_, rfl, rfl⟩ (Nat.le_of_ble_eq_true rfl) rfl (by omega) ?_
  refine op_two H (fun w2 R2 k2 => ?_)
  refine g_icmp_eq (tgt := 1578) dL_law_750 (by decide) (fun zc750 => ?_) (fun zc750 => ?_)
  · exact kk w2 R2 k2
  · exact absurd rfl zc750
set_option maxHeartbeats 1000000 in
theorem law_c17 {nc ns d Ls i : Nat} {w : gx_W} {Q : Option Value → gx_W → Prop} (hd : 141 ≤ d) (hL : Ls ≤ 3072) (hi : i + 6 ≤ Ls) (R0 : Rel w) (hs0 : w.1[0]? = some (30, Ls)) (kk : ∀ w2, Rel w2 → kp w w2 → gx_G nc ns d mL_law Q 1578 [.ref 0, .ref 6, .ref 57, .int (nI i)] [] w2) : gx_G nc ns d mL_law Q 755 [.ref 0, .ref 6, .ref 57, .int (nI i)] [] w := by
  refine g_aload_n dL_law_755 rfl ?_
  refine g_aload_n dL_law_756 rfl ?_
  refine g_iload_n dL_law_757 rfl ?_
  refine g_iconst (v := 1) dL_law_758 rfl ?_
  refine g_iadd dL_law_759 ?_
  refine g_rald dL_law_760 (by decide) hs0 (lw_ix (k := 1) rfl (by omega) hL) ?_
  refine g_aload_n dL_law_761 rfl ?_
  refine g_iload_n dL_law_762 rfl ?_
  refine g_iconst (v := 2) dL_law_763 rfl ?_
  refine g_iadd dL_law_764 ?_
  refine g_rald dL_law_765 (by decide) hs0 (lw_ix (k := 2) rfl (by omega) hL) ?_
  refine g_cV2l dL_law_766 ml_L_86 mi_X9_power mv_X9_power (Rel_6 R0) ⟨_, rfl, rfl⟩ (Nat.le_of_ble_eq_true rfl) rfl (by omega) ?_
  refine op_useL (op_power (by omega) R0) (fun r w1 k1 h57 H => ?_)
  have hs1 := (k1 0 (by decide)).1.trans hs0
  have ea := (k1 0 (by decide)).2
  refine g_aload_n dL_law_769 rfl ?_
  refine g_aload_n dL_law_770 rfl ?_
  refine g_iload_n dL_law_771 rfl ?_
  refine g_iconst (v := 1) dL_law_772 rfl ?_
  refine g_iadd dL_law_773 ?_
  refine g_rald dL_law_774 (by decide) hs1 (lw_ix (k := 1) rfl (by omega) hL) ?_
  rw [ea]
  refine g_aload_n dL_law_775 rfl ?_
  refine g_iload_n dL_law_776 rfl ?_
  refine g_iconst (v := 2) dL_law_777 rfl ?_
  refine g_iadd dL_law_778 ?_
  refine g_rald dL_law_779 (by decide) hs1 (lw_ix (k := 2) rfl (by omega) hL) ?_
  rw [ea]
  refine g_cV2l dL_law_780 ml_L_90 mi_X10_power mv_X10_power h57 ⟨_, rfl, rfl⟩ (Nat.le_of_ble_eq_true rfl) rfl (by omega) ?_
  refine op_twoL H (fun w2 R2 k2 => ?_)
  refine g_lcmp dL_law_783 ?_
  refine g_if_eq (tgt := 1578) dL_law_784 (by decide) (fun zc784 => ?_) (fun zc784 => ?_)
  · exact kk w2 R2 k2
  · exact absurd ((lg_cmp_eq _ _).mpr rfl) zc784
set_option maxHeartbeats 1000000 in
theorem law_c18 {nc ns d Ls i : Nat} {w : gx_W} {Q : Option Value → gx_W → Prop} (hd : 141 ≤ d) (hL : Ls ≤ 3072) (hi : i + 6 ≤ Ls) (R0 : Rel w) (hs0 : w.1[0]? = some (30, Ls)) (kk : ∀ w2, Rel w2 → kp w w2 → gx_G nc ns d mL_law Q 1578 [.ref 0, .ref 6, .ref 57, .int (nI i)] [] w2) : gx_G nc ns d mL_law Q 789 [.ref 0, .ref 6, .ref 57, .int (nI i)] [] w := by
  refine g_aload_n dL_law_789 rfl ?_
  refine g_aload_n dL_law_790 rfl ?_
  refine g_iload_n dL_law_791 rfl ?_
  refine g_iconst (v := 1) dL_law_792 rfl ?_
  refine g_iadd dL_law_793 ?_
  refine g_rald dL_law_794 (by decide) hs0 (lw_ix (k := 1) rfl (by omega) hL) ?_
  refine g_cV1i dL_law_795 ml_L_91 mi_X9_winning mv_X9_winning (Rel_6 R0) ⟨_, rfl, rfl⟩ (Nat.le_of_ble_eq_true rfl) rfl (by omega) ?_
  refine op_use (op_winning (by omega) R0) (fun r w1 k1 h57 H => ?_)
  have hs1 := (k1 0 (by decide)).1.trans hs0
  have ea := (k1 0 (by decide)).2
  refine g_aload_n dL_law_798 rfl ?_
  refine g_aload_n dL_law_799 rfl ?_
  refine g_iload_n dL_law_800 rfl ?_
  refine g_iconst (v := 1) dL_law_801 rfl ?_
  refine g_iadd dL_law_802 ?_
  refine g_rald dL_law_803 (by decide) hs1 (lw_ix (k := 1) rfl (by omega) hL) ?_
  rw [ea]
  refine g_cV1i dL_law_804 ml_L_94 mi_X10_winning mv_X10_winning h57 ⟨_, rfl, rfl⟩ (Nat.le_of_ble_eq_true rfl) rfl (by omega) ?_
  refine op_two H (fun w2 R2 k2 => ?_)
  refine g_icmp_eq (tgt := 1578) dL_law_807 (by decide) (fun zc807 => ?_) (fun zc807 => ?_)
  · exact kk w2 R2 k2
  · exact absurd rfl zc807
set_option maxHeartbeats 1000000 in
theorem law_c19 {nc ns d Ls i : Nat} {w : gx_W} {Q : Option Value → gx_W → Prop} (hd : 141 ≤ d) (hL : Ls ≤ 3072) (hi : i + 6 ≤ Ls) (R0 : Rel w) (hs0 : w.1[0]? = some (30, Ls)) (kk : ∀ w2, Rel w2 → kp w w2 → gx_G nc ns d mL_law Q 1578 [.ref 0, .ref 6, .ref 57, .int (nI i)] [] w2) : gx_G nc ns d mL_law Q 812 [.ref 0, .ref 6, .ref 57, .int (nI i)] [] w := by
  refine g_aload_n dL_law_812 rfl ?_
  refine g_aload_n dL_law_813 rfl ?_
  refine g_iload_n dL_law_814 rfl ?_
  refine g_iconst (v := 1) dL_law_815 rfl ?_
  refine g_iadd dL_law_816 ?_
  refine g_rald dL_law_817 (by decide) hs0 (lw_ix (k := 1) rfl (by omega) hL) ?_
  refine g_cV1i dL_law_818 ml_L_95 mi_X9_more mv_X9_more (Rel_6 R0) ⟨_, rfl, rfl⟩ (Nat.le_of_ble_eq_true rfl) rfl (by omega) ?_
  refine op_use (op_more (by omega) R0) (fun r w1 k1 h57 H => ?_)
  have hs1 := (k1 0 (by decide)).1.trans hs0
  have ea := (k1 0 (by decide)).2
  refine g_aload_n dL_law_821 rfl ?_
  refine g_aload_n dL_law_822 rfl ?_
  refine g_iload_n dL_law_823 rfl ?_
  refine g_iconst (v := 1) dL_law_824 rfl ?_
  refine g_iadd dL_law_825 ?_
  refine g_rald dL_law_826 (by decide) hs1 (lw_ix (k := 1) rfl (by omega) hL) ?_
  rw [ea]
  refine g_cV1i dL_law_827 ml_L_98 mi_X10_more mv_X10_more h57 ⟨_, rfl, rfl⟩ (Nat.le_of_ble_eq_true rfl) rfl (by omega) ?_
  refine op_two H (fun w2 R2 k2 => ?_)
  refine g_icmp_eq (tgt := 1578) dL_law_830 (by decide) (fun zc830 => ?_) (fun zc830 => ?_)
  · exact kk w2 R2 k2
  · exact absurd rfl zc830
set_option maxHeartbeats 1000000 in
theorem law_c20 {nc ns d Ls i : Nat} {w : gx_W} {Q : Option Value → gx_W → Prop} (hd : 141 ≤ d) (hL : Ls ≤ 3072) (hi : i + 6 ≤ Ls) (R0 : Rel w) (hs0 : w.1[0]? = some (30, Ls)) (kk : ∀ w2, Rel w2 → kp w w2 → gx_G nc ns d mL_law Q 1578 [.ref 0, .ref 6, .ref 57, .int (nI i)] [] w2) : gx_G nc ns d mL_law Q 835 [.ref 0, .ref 6, .ref 57, .int (nI i)] [] w := by
  refine g_aload_n dL_law_835 rfl ?_
  refine g_aload_n dL_law_836 rfl ?_
  refine g_iload_n dL_law_837 rfl ?_
  refine g_iconst (v := 1) dL_law_838 rfl ?_
  refine g_iadd dL_law_839 ?_
  refine g_rald dL_law_840 (by decide) hs0 (lw_ix (k := 1) rfl (by omega) hL) ?_
  refine g_aload_n dL_law_841 rfl ?_
  refine g_iload_n dL_law_842 rfl ?_
  refine g_iconst (v := 2) dL_law_843 rfl ?_
  refine g_iadd dL_law_844 ?_
  refine g_rald dL_law_845 (by decide) hs0 (lw_ix (k := 2) rfl (by omega) hL) ?_
  refine g_cV2i dL_law_846 ml_L_99 mi_X9_whatever mv_X9_whatever (Rel_6 R0) ⟨_, rfl, rfl⟩ (Nat.le_of_ble_eq_true rfl) rfl (by omega) ?_
  refine op_use (op_whatever (by omega) R0) (fun r w1 k1 h57 H => ?_)
  have hs1 := (k1 0 (by decide)).1.trans hs0
  have ea := (k1 0 (by decide)).2
  refine g_aload_n dL_law_849 rfl ?_
  refine g_aload_n dL_law_850 rfl ?_
  refine g_iload_n dL_law_851 rfl ?_
  refine g_iconst (v := 1) dL_law_852 rfl ?_
  refine g_iadd dL_law_853 ?_
  refine g_rald dL_law_854 (by decide) hs1 (lw_ix (k := 1) rfl (by omega) hL) ?_
  rw [ea]
  refine g_aload_n dL_law_855 rfl ?_
  refine g_iload_n dL_law_856 rfl ?_
  refine g_iconst (v := 2) dL_law_857 rfl ?_
  refine g_iadd dL_law_858 ?_
  refine g_rald dL_law_859 (by decide) hs1 (lw_ix (k := 2) rfl (by omega) hL) ?_
  rw [ea]
  refine g_cV2i dL_law_860 ml_L_102 mi_X10_whatever mv_X10_whatever h57 ⟨_, rfl, rfl⟩ (Nat.le_of_ble_eq_true rfl) rfl (by omega) ?_
  refine op_two H (fun w2 R2 k2 => ?_)
  refine g_icmp_eq (tgt := 1578) dL_law_863 (by decide) (fun zc863 => ?_) (fun zc863 => ?_)
  · exact kk w2 R2 k2
  · exact absurd rfl zc863
set_option maxHeartbeats 1000000 in
theorem law_c21 {nc ns d Ls i : Nat} {w : gx_W} {Q : Option Value → gx_W → Prop} (hd : 141 ≤ d) (hL : Ls ≤ 3072) (hi : i + 6 ≤ Ls) (R0 : Rel w) (hs0 : w.1[0]? = some (30, Ls)) (kk : ∀ w2, Rel w2 → kp w w2 → gx_G nc ns d mL_law Q 1578 [.ref 0, .ref 6, .ref 57, .int (nI i)] [] w2) : gx_G nc ns d mL_law Q 868 [.ref 0, .ref 6, .ref 57, .int (nI i)] [] w := by
  refine g_aload_n dL_law_868 rfl ?_
  refine g_cV0i dL_law_869 ml_L_103 mi_X9_least mv_X9_least (Rel_6 R0) ⟨_, rfl, rfl⟩ (Nat.le_of_ble_eq_true rfl) rfl (by omega) ?_
  refine op_use (op_least (by omega) R0) (fun r w1 k1 h57 H => ?_)
  have hs1 := (k1 0 (by decide)).1.trans hs0
  have ea := (k1 0 (by decide)).2
  refine g_aload_n dL_law_872 rfl ?_
  refine g_cV0i dL_law_873 ml_L_106 mi_X10_least mv_X10_least h57 ⟨_, rfl, rfl⟩ (Nat.le_of_ble_eq_true rfl) rfl (by omega) ?_
  refine op_two H (fun w2 R2 k2 => ?_)
  refine g_icmp_eq (tgt := 1578) dL_law_876 (by decide) (fun zc876 => ?_) (fun zc876 => ?_)
  · exact kk w2 R2 k2
  · exact absurd rfl zc876
set_option maxHeartbeats 1000000 in
theorem law_c22 {nc ns d Ls i : Nat} {w : gx_W} {Q : Option Value → gx_W → Prop} (hd : 141 ≤ d) (hL : Ls ≤ 3072) (hi : i + 6 ≤ Ls) (R0 : Rel w) (hs0 : w.1[0]? = some (30, Ls)) (kk : ∀ w2, Rel w2 → kp w w2 → gx_G nc ns d mL_law Q 1578 [.ref 0, .ref 6, .ref 57, .int (nI i)] [] w2) : gx_G nc ns d mL_law Q 881 [.ref 0, .ref 6, .ref 57, .int (nI i)] [] w := by
  refine g_aload_n dL_law_881 rfl ?_
  refine g_aload_n dL_law_882 rfl ?_
  refine g_iload_n dL_law_883 rfl ?_
  refine g_iconst (v := 1) dL_law_884 rfl ?_
  refine g_iadd dL_law_885 ?_
  refine g_rald dL_law_886 (by decide) hs0 (lw_ix (k := 1) rfl (by omega) hL) ?_
  refine g_cV1i dL_law_887 ml_L_107 mi_X9_judge mv_X9_judge (Rel_6 R0) ⟨_, rfl, rfl⟩ (Nat.le_of_ble_eq_true rfl) rfl (by omega) ?_
  refine op_use (op_judge (by omega) R0) (fun r w1 k1 h57 H => ?_)
  have hs1 := (k1 0 (by decide)).1.trans hs0
  have ea := (k1 0 (by decide)).2
  refine g_aload_n dL_law_890 rfl ?_
  refine g_aload_n dL_law_891 rfl ?_
  refine g_iload_n dL_law_892 rfl ?_
  refine g_iconst (v := 1) dL_law_893 rfl ?_
  refine g_iadd dL_law_894 ?_
  refine g_rald dL_law_895 (by decide) hs1 (lw_ix (k := 1) rfl (by omega) hL) ?_
  rw [ea]
  refine g_cV1i dL_law_896 ml_L_110 mi_X10_judge mv_X10_judge h57 ⟨_, rfl, rfl⟩ (Nat.le_of_ble_eq_true rfl) rfl (by omega) ?_
  refine op_two H (fun w2 R2 k2 => ?_)
  refine g_icmp_eq (tgt := 1578) dL_law_899 (by decide) (fun zc899 => ?_) (fun zc899 => ?_)
  · exact kk w2 R2 k2
  · exact absurd rfl zc899
set_option maxHeartbeats 1000000 in
theorem law_c23 {nc ns d Ls i : Nat} {w : gx_W} {Q : Option Value → gx_W → Prop} (hd : 141 ≤ d) (hL : Ls ≤ 3072) (hi : i + 6 ≤ Ls) (R0 : Rel w) (hs0 : w.1[0]? = some (30, Ls)) (kk : ∀ w2, Rel w2 → kp w w2 → gx_G nc ns d mL_law Q 1578 [.ref 0, .ref 6, .ref 57, .int (nI i)] [] w2) : gx_G nc ns d mL_law Q 904 [.ref 0, .ref 6, .ref 57, .int (nI i)] [] w := by
  refine g_aload_n dL_law_904 rfl ?_
  refine g_aload_n dL_law_905 rfl ?_
  refine g_iload_n dL_law_906 rfl ?_
  refine g_iconst (v := 1) dL_law_907 rfl ?_
  refine g_iadd dL_law_908 ?_
  refine g_rald dL_law_909 (by decide) hs0 (lw_ix (k := 1) rfl (by omega) hL) ?_
  refine g_aload_n dL_law_910 rfl ?_
  refine g_iload_n dL_law_911 rfl ?_
  refine g_iconst (v := 2) dL_law_912 rfl ?_
  refine g_iadd dL_law_913 ?_
  refine g_rald dL_law_914 (by decide) hs0 (lw_ix (k := 2) rfl (by omega) hL) ?_
  refine g_aload_n dL_law_915 rfl ?_
  refine g_iload_n dL_law_916 rfl ?_
  refine g_iconst (v := 3) dL_law_917 rfl ?_
  refine g_iadd dL_law_918 ?_
  refine g_rald dL_law_919 (by decide) hs0 (lw_ix (k := 3) rfl (by omega) hL) ?_
  refine g_cV3i dL_law_920 ml_L_111 mi_X9_liking mv_X9_liking (Rel_6 R0) ⟨_, rfl, rfl⟩ (Nat.le_of_ble_eq_true rfl) rfl (by omega) ?_
  refine op_use (op_liking (by omega) R0) (fun r w1 k1 h57 H => ?_)
  have hs1 := (k1 0 (by decide)).1.trans hs0
  have ea := (k1 0 (by decide)).2
  refine g_aload_n dL_law_923 rfl ?_
  refine g_aload_n dL_law_924 rfl ?_
  refine g_iload_n dL_law_925 rfl ?_
  refine g_iconst (v := 1) dL_law_926 rfl ?_
  refine g_iadd dL_law_927 ?_
  refine g_rald dL_law_928 (by decide) hs1 (lw_ix (k := 1) rfl (by omega) hL) ?_
  rw [ea]
  refine g_aload_n dL_law_929 rfl ?_
  refine g_iload_n dL_law_930 rfl ?_
  refine g_iconst (v := 2) dL_law_931 rfl ?_
  refine g_iadd dL_law_932 ?_
  refine g_rald dL_law_933 (by decide) hs1 (lw_ix (k := 2) rfl (by omega) hL) ?_
  rw [ea]
  refine g_aload_n dL_law_934 rfl ?_
  refine g_iload_n dL_law_935 rfl ?_
  refine g_iconst (v := 3) dL_law_936 rfl ?_
  refine g_iadd dL_law_937 ?_
  refine g_rald dL_law_938 (by decide) hs1 (lw_ix (k := 3) rfl (by omega) hL) ?_
  rw [ea]
  refine g_cV3i dL_law_939 ml_L_114 mi_X10_liking mv_X10_liking h57 ⟨_, rfl, rfl⟩ (Nat.le_of_ble_eq_true rfl) rfl (by omega) ?_
  refine op_two H (fun w2 R2 k2 => ?_)
  refine g_icmp_eq (tgt := 1578) dL_law_942 (by decide) (fun zc942 => ?_) (fun zc942 => ?_)
  · exact kk w2 R2 k2
  · exact absurd rfl zc942
set_option maxHeartbeats 1000000 in
theorem law_c24 {nc ns d Ls i : Nat} {w : gx_W} {Q : Option Value → gx_W → Prop} (hd : 141 ≤ d) (hL : Ls ≤ 3072) (hi : i + 6 ≤ Ls) (R0 : Rel w) (hs0 : w.1[0]? = some (30, Ls)) (kk : ∀ w2, Rel w2 → kp w w2 → gx_G nc ns d mL_law Q 1578 [.ref 0, .ref 6, .ref 57, .int (nI i)] [] w2) : gx_G nc ns d mL_law Q 947 [.ref 0, .ref 6, .ref 57, .int (nI i)] [] w := by
  refine g_aload_n dL_law_947 rfl ?_
  refine g_aload_n dL_law_948 rfl ?_
  refine g_iload_n dL_law_949 rfl ?_
  refine g_iconst (v := 1) dL_law_950 rfl ?_
  refine g_iadd dL_law_951 ?_
  refine g_rald dL_law_952 (by decide) hs0 (lw_ix (k := 1) rfl (by omega) hL) ?_
  refine g_aload_n dL_law_953 rfl ?_
  refine g_iload_n dL_law_954 rfl ?_
  refine g_iconst (v := 2) dL_law_955 rfl ?_
  refine g_iadd dL_law_956 ?_
  refine g_rald dL_law_957 (by decide) hs0 (lw_ix (k := 2) rfl (by omega) hL) ?_
  refine g_aload_n dL_law_958 rfl ?_
  refine g_iload_n dL_law_959 rfl ?_
  refine g_iconst (v := 3) dL_law_960 rfl ?_
  refine g_iadd dL_law_961 ?_
  refine g_rald dL_law_962 (by decide) hs0 (lw_ix (k := 3) rfl (by omega) hL) ?_
  refine g_cV3i dL_law_963 ml_L_115 mi_X9_waited mv_X9_waited (Rel_6 R0) ⟨_, rfl, rfl⟩ (Nat.le_of_ble_eq_true rfl) rfl (by omega) ?_
  refine op_use (op_waited (by omega) R0) (fun r w1 k1 h57 H => ?_)
  have hs1 := (k1 0 (by decide)).1.trans hs0
  have ea := (k1 0 (by decide)).2
  refine g_aload_n dL_law_966 rfl ?_
  refine g_aload_n dL_law_967 rfl ?_
  refine g_iload_n dL_law_968 rfl ?_
  refine g_iconst (v := 1) dL_law_969 rfl ?_
  refine g_iadd dL_law_970 ?_
  refine g_rald dL_law_971 (by decide) hs1 (lw_ix (k := 1) rfl (by omega) hL) ?_
  rw [ea]
  refine g_aload_n dL_law_972 rfl ?_
  refine g_iload_n dL_law_973 rfl ?_
  refine g_iconst (v := 2) dL_law_974 rfl ?_
  refine g_iadd dL_law_975 ?_
  refine g_rald dL_law_976 (by decide) hs1 (lw_ix (k := 2) rfl (by omega) hL) ?_
  rw [ea]
  refine g_aload_n dL_law_977 rfl ?_
  refine g_iload_n dL_law_978 rfl ?_
  refine g_iconst (v := 3) dL_law_979 rfl ?_
  refine g_iadd dL_law_980 ?_
  refine g_rald dL_law_981 (by decide) hs1 (lw_ix (k := 3) rfl (by omega) hL) ?_
  rw [ea]
  refine g_cV3i dL_law_982 ml_L_118 mi_X10_waited mv_X10_waited h57 ⟨_, rfl, rfl⟩ (Nat.le_of_ble_eq_true rfl) rfl (by omega) ?_
  refine op_two H (fun w2 R2 k2 => ?_)
  refine g_icmp_eq (tgt := 1578) dL_law_985 (by decide) (fun zc985 => ?_) (fun zc985 => ?_)
  · exact kk w2 R2 k2
  · exact absurd rfl zc985
set_option maxHeartbeats 1000000 in
theorem law_c25 {nc ns d Ls i : Nat} {w : gx_W} {Q : Option Value → gx_W → Prop} (hd : 141 ≤ d) (hL : Ls ≤ 3072) (hi : i + 6 ≤ Ls) (R0 : Rel w) (hs0 : w.1[0]? = some (30, Ls)) (kk : ∀ w2, Rel w2 → kp w w2 → gx_G nc ns d mL_law Q 1578 [.ref 0, .ref 6, .ref 57, .int (nI i)] [] w2) : gx_G nc ns d mL_law Q 990 [.ref 0, .ref 6, .ref 57, .int (nI i)] [] w := by
  refine g_aload_n dL_law_990 rfl ?_
  refine g_aload_n dL_law_991 rfl ?_
  refine g_iload_n dL_law_992 rfl ?_
  refine g_iconst (v := 1) dL_law_993 rfl ?_
  refine g_iadd dL_law_994 ?_
  refine g_rald dL_law_995 (by decide) hs0 (lw_ix (k := 1) rfl (by omega) hL) ?_
  refine g_aload_n dL_law_996 rfl ?_
  refine g_iload_n dL_law_997 rfl ?_
  refine g_iconst (v := 2) dL_law_998 rfl ?_
  refine g_iadd dL_law_999 ?_
  refine g_rald dL_law_1000 (by decide) hs0 (lw_ix (k := 2) rfl (by omega) hL) ?_
  refine g_cV2i dL_law_1001 ml_L_119 mi_X9_fair mv_X9_fair (Rel_6 R0) ⟨_, rfl, rfl⟩ (Nat.le_of_ble_eq_true rfl) rfl (by omega) ?_
  refine op_use (op_fair (by omega) R0) (fun r w1 k1 h57 H => ?_)
  have hs1 := (k1 0 (by decide)).1.trans hs0
  have ea := (k1 0 (by decide)).2
  refine g_aload_n dL_law_1004 rfl ?_
  refine g_aload_n dL_law_1005 rfl ?_
  refine g_iload_n dL_law_1006 rfl ?_
  refine g_iconst (v := 1) dL_law_1007 rfl ?_
  refine g_iadd dL_law_1008 ?_
  refine g_rald dL_law_1009 (by decide) hs1 (lw_ix (k := 1) rfl (by omega) hL) ?_
  rw [ea]
  refine g_aload_n dL_law_1010 rfl ?_
  refine g_iload_n dL_law_1011 rfl ?_
  refine g_iconst (v := 2) dL_law_1012 rfl ?_
  refine g_iadd dL_law_1013 ?_
  refine g_rald dL_law_1014 (by decide) hs1 (lw_ix (k := 2) rfl (by omega) hL) ?_
  rw [ea]
  refine g_cV2i dL_law_1015 ml_L_122 mi_X10_fair mv_X10_fair h57 ⟨_, rfl, rfl⟩ (Nat.le_of_ble_eq_true rfl) rfl (by omega) ?_
  refine op_two H (fun w2 R2 k2 => ?_)
  refine g_icmp_eq (tgt := 1578) dL_law_1018 (by decide) (fun zc1018 => ?_) (fun zc1018 => ?_)
  · exact kk w2 R2 k2
  · exact absurd rfl zc1018
set_option maxHeartbeats 1000000 in
theorem law_c26 {nc ns d Ls i : Nat} {w : gx_W} {Q : Option Value → gx_W → Prop} (hd : 141 ≤ d) (hL : Ls ≤ 3072) (hi : i + 6 ≤ Ls) (R0 : Rel w) (hs0 : w.1[0]? = some (30, Ls)) (kk : ∀ w2, Rel w2 → kp w w2 → gx_G nc ns d mL_law Q 1578 [.ref 0, .ref 6, .ref 57, .int (nI i)] [] w2) : gx_G nc ns d mL_law Q 1023 [.ref 0, .ref 6, .ref 57, .int (nI i)] [] w := by
  refine g_aload_n dL_law_1023 rfl ?_
  refine g_aload_n dL_law_1024 rfl ?_
  refine g_iload_n dL_law_1025 rfl ?_
  refine g_iconst (v := 1) dL_law_1026 rfl ?_
  refine g_iadd dL_law_1027 ?_
  refine g_rald dL_law_1028 (by decide) hs0 (lw_ix (k := 1) rfl (by omega) hL) ?_
  refine g_aload_n dL_law_1029 rfl ?_
  refine g_iload_n dL_law_1030 rfl ?_
  refine g_iconst (v := 2) dL_law_1031 rfl ?_
  refine g_iadd dL_law_1032 ?_
  refine g_rald dL_law_1033 (by decide) hs0 (lw_ix (k := 2) rfl (by omega) hL) ?_
  refine g_aload_n dL_law_1034 rfl ?_
  refine g_iload_n dL_law_1035 rfl ?_
  refine g_iconst (v := 3) dL_law_1036 rfl ?_
  refine g_iadd dL_law_1037 ?_
  refine g_rald dL_law_1038 (by decide) hs0 (lw_ix (k := 3) rfl (by omega) hL) ?_
  refine g_cV3i dL_law_1039 ml_L_123 mi_X9_drawn mv_X9_drawn (Rel_6 R0) ⟨_, rfl, rfl⟩ (Nat.le_of_ble_eq_true rfl) rfl (by omega) ?_
  refine op_use (op_drawn (by omega) R0) (fun r w1 k1 h57 H => ?_)
  have hs1 := (k1 0 (by decide)).1.trans hs0
  have ea := (k1 0 (by decide)).2
  refine g_aload_n dL_law_1042 rfl ?_
  refine g_aload_n dL_law_1043 rfl ?_
  refine g_iload_n dL_law_1044 rfl ?_
  refine g_iconst (v := 1) dL_law_1045 rfl ?_
  refine g_iadd dL_law_1046 ?_
  refine g_rald dL_law_1047 (by decide) hs1 (lw_ix (k := 1) rfl (by omega) hL) ?_
  rw [ea]
  refine g_aload_n dL_law_1048 rfl ?_
  refine g_iload_n dL_law_1049 rfl ?_
  refine g_iconst (v := 2) dL_law_1050 rfl ?_
  refine g_iadd dL_law_1051 ?_
  refine g_rald dL_law_1052 (by decide) hs1 (lw_ix (k := 2) rfl (by omega) hL) ?_
  rw [ea]
  refine g_aload_n dL_law_1053 rfl ?_
  refine g_iload_n dL_law_1054 rfl ?_
  refine g_iconst (v := 3) dL_law_1055 rfl ?_
  refine g_iadd dL_law_1056 ?_
  refine g_rald dL_law_1057 (by decide) hs1 (lw_ix (k := 3) rfl (by omega) hL) ?_
  rw [ea]
  refine g_cV3i dL_law_1058 ml_L_126 mi_X10_drawn mv_X10_drawn h57 ⟨_, rfl, rfl⟩ (Nat.le_of_ble_eq_true rfl) rfl (by omega) ?_
  refine op_two H (fun w2 R2 k2 => ?_)
  refine g_icmp_eq (tgt := 1578) dL_law_1061 (by decide) (fun zc1061 => ?_) (fun zc1061 => ?_)
  · exact kk w2 R2 k2
  · exact absurd rfl zc1061
set_option maxHeartbeats 1000000 in
theorem law_c27 {nc ns d Ls i : Nat} {w : gx_W} {Q : Option Value → gx_W → Prop} (hd : 141 ≤ d) (hL : Ls ≤ 3072) (hi : i + 6 ≤ Ls) (R0 : Rel w) (hs0 : w.1[0]? = some (30, Ls)) (kk : ∀ w2, Rel w2 → kp w w2 → gx_G nc ns d mL_law Q 1578 [.ref 0, .ref 6, .ref 57, .int (nI i)] [] w2) : gx_G nc ns d mL_law Q 1066 [.ref 0, .ref 6, .ref 57, .int (nI i)] [] w := by
  refine g_aload_n dL_law_1066 rfl ?_
  refine g_aload_n dL_law_1067 rfl ?_
  refine g_iload_n dL_law_1068 rfl ?_
  refine g_iconst (v := 1) dL_law_1069 rfl ?_
  refine g_iadd dL_law_1070 ?_
  refine g_rald dL_law_1071 (by decide) hs0 (lw_ix (k := 1) rfl (by omega) hL) ?_
  refine g_cV1i dL_law_1072 ml_L_127 mi_X9_comes mv_X9_comes (Rel_6 R0) ⟨_, rfl, rfl⟩ (Nat.le_of_ble_eq_true rfl) rfl (by omega) ?_
  refine op_use (op_comes (by omega) R0) (fun r w1 k1 h57 H => ?_)
  have hs1 := (k1 0 (by decide)).1.trans hs0
  have ea := (k1 0 (by decide)).2
  refine g_aload_n dL_law_1075 rfl ?_
  refine g_aload_n dL_law_1076 rfl ?_
  refine g_iload_n dL_law_1077 rfl ?_
  refine g_iconst (v := 1) dL_law_1078 rfl ?_
  refine g_iadd dL_law_1079 ?_
  refine g_rald dL_law_1080 (by decide) hs1 (lw_ix (k := 1) rfl (by omega) hL) ?_
  rw [ea]
  refine g_cV1i dL_law_1081 ml_L_130 mi_X10_comes mv_X10_comes h57 ⟨_, rfl, rfl⟩ (Nat.le_of_ble_eq_true rfl) rfl (by omega) ?_
  refine op_two H (fun w2 R2 k2 => ?_)
  refine g_icmp_eq (tgt := 1578) dL_law_1084 (by decide) (fun zc1084 => ?_) (fun zc1084 => ?_)
  · exact kk w2 R2 k2
  · exact absurd rfl zc1084
set_option maxHeartbeats 1000000 in
theorem law_c28 {nc ns d Ls i : Nat} {w : gx_W} {Q : Option Value → gx_W → Prop} (hd : 141 ≤ d) (hL : Ls ≤ 3072) (hi : i + 6 ≤ Ls) (R0 : Rel w) (hs0 : w.1[0]? = some (30, Ls)) (kk : ∀ w2, Rel w2 → kp w w2 → gx_G nc ns d mL_law Q 1578 [.ref 0, .ref 6, .ref 57, .int (nI i)] [] w2) : gx_G nc ns d mL_law Q 1089 [.ref 0, .ref 6, .ref 57, .int (nI i)] [] w := by
  refine g_aload_n dL_law_1089 rfl ?_
  refine g_aload_n dL_law_1090 rfl ?_
  refine g_iload_n dL_law_1091 rfl ?_
  refine g_iconst (v := 1) dL_law_1092 rfl ?_
  refine g_iadd dL_law_1093 ?_
  refine g_rald dL_law_1094 (by decide) hs0 (lw_ix (k := 1) rfl (by omega) hL) ?_
  refine g_cV1i dL_law_1095 ml_L_131 mi_X9_send mv_X9_send (Rel_6 R0) ⟨_, rfl, rfl⟩ (Nat.le_of_ble_eq_true rfl) rfl (by omega) ?_
  refine op_use (op_send (by omega) R0) (fun r w1 k1 h57 H => ?_)
  have hs1 := (k1 0 (by decide)).1.trans hs0
  have ea := (k1 0 (by decide)).2
  refine g_aload_n dL_law_1098 rfl ?_
  refine g_aload_n dL_law_1099 rfl ?_
  refine g_iload_n dL_law_1100 rfl ?_
  refine g_iconst (v := 1) dL_law_1101 rfl ?_
  refine g_iadd dL_law_1102 ?_
  refine g_rald dL_law_1103 (by decide) hs1 (lw_ix (k := 1) rfl (by omega) hL) ?_
  rw [ea]
  refine g_cV1i dL_law_1104 ml_L_134 mi_X10_send mv_X10_send h57 ⟨_, rfl, rfl⟩ (Nat.le_of_ble_eq_true rfl) rfl (by omega) ?_
  refine op_two H (fun w2 R2 k2 => ?_)
  refine g_icmp_eq (tgt := 1578) dL_law_1107 (by decide) (fun zc1107 => ?_) (fun zc1107 => ?_)
  · exact kk w2 R2 k2
  · exact absurd rfl zc1107
set_option maxHeartbeats 1000000 in
theorem law_c29 {nc ns d Ls i : Nat} {w : gx_W} {Q : Option Value → gx_W → Prop} (hd : 141 ≤ d) (hL : Ls ≤ 3072) (hi : i + 6 ≤ Ls) (R0 : Rel w) (hs0 : w.1[0]? = some (30, Ls)) (kk : ∀ w2, Rel w2 → kp w w2 → gx_G nc ns d mL_law Q 1578 [.ref 0, .ref 6, .ref 57, .int (nI i)] [] w2) : gx_G nc ns d mL_law Q 1112 [.ref 0, .ref 6, .ref 57, .int (nI i)] [] w := by
  refine g_aload_n dL_law_1112 rfl ?_
  refine g_aload_n dL_law_1113 rfl ?_
  refine g_iload_n dL_law_1114 rfl ?_
  refine g_iconst (v := 1) dL_law_1115 rfl ?_
  refine g_iadd dL_law_1116 ?_
  refine g_rald dL_law_1117 (by decide) hs0 (lw_ix (k := 1) rfl (by omega) hL) ?_
  refine g_cV1i dL_law_1118 ml_L_135 mi_X9_led mv_X9_led (Rel_6 R0) ⟨_, rfl, rfl⟩ (Nat.le_of_ble_eq_true rfl) rfl (by omega) ?_
  refine op_use (op_led (by omega) R0) (fun r w1 k1 h57 H => ?_)
  have hs1 := (k1 0 (by decide)).1.trans hs0
  have ea := (k1 0 (by decide)).2
  refine g_aload_n dL_law_1121 rfl ?_
  refine g_aload_n dL_law_1122 rfl ?_
  refine g_iload_n dL_law_1123 rfl ?_
  refine g_iconst (v := 1) dL_law_1124 rfl ?_
  refine g_iadd dL_law_1125 ?_
  refine g_rald dL_law_1126 (by decide) hs1 (lw_ix (k := 1) rfl (by omega) hL) ?_
  rw [ea]
  refine g_cV1i dL_law_1127 ml_L_138 mi_X10_led mv_X10_led h57 ⟨_, rfl, rfl⟩ (Nat.le_of_ble_eq_true rfl) rfl (by omega) ?_
  refine op_two H (fun w2 R2 k2 => ?_)
  refine g_icmp_eq (tgt := 1578) dL_law_1130 (by decide) (fun zc1130 => ?_) (fun zc1130 => ?_)
  · exact kk w2 R2 k2
  · exact absurd rfl zc1130
set_option maxHeartbeats 1000000 in
theorem law_c30 {nc ns d Ls i : Nat} {w : gx_W} {Q : Option Value → gx_W → Prop} (hd : 141 ≤ d) (hL : Ls ≤ 3072) (hi : i + 6 ≤ Ls) (R0 : Rel w) (hs0 : w.1[0]? = some (30, Ls)) (kk : ∀ w2, Rel w2 → kp w w2 → gx_G nc ns d mL_law Q 1578 [.ref 0, .ref 6, .ref 57, .int (nI i)] [] w2) : gx_G nc ns d mL_law Q 1135 [.ref 0, .ref 6, .ref 57, .int (nI i)] [] w := by
  refine g_aload_n dL_law_1135 rfl ?_
  refine g_cV0i dL_law_1136 ml_L_139 mi_X9_image mv_X9_image (Rel_6 R0) ⟨_, rfl, rfl⟩ (Nat.le_of_ble_eq_true rfl) rfl (by omega) ?_
  refine op_use (op_image (by omega) R0) (fun r w1 k1 h57 H => ?_)
  have hs1 := (k1 0 (by decide)).1.trans hs0
  have ea := (k1 0 (by decide)).2
  refine g_aload_n dL_law_1139 rfl ?_
  refine g_cV0i dL_law_1140 ml_L_142 mi_X10_image mv_X10_image h57 ⟨_, rfl, rfl⟩ (Nat.le_of_ble_eq_true rfl) rfl (by omega) ?_
  refine op_two H (fun w2 R2 k2 => ?_)
  refine g_icmp_eq (tgt := 1578) dL_law_1143 (by decide) (fun zc1143 => ?_) (fun zc1143 => ?_)
  · exact kk w2 R2 k2
  · exact absurd rfl zc1143
set_option maxHeartbeats 1000000 in
theorem law_c31 {nc ns d Ls i : Nat} {w : gx_W} {Q : Option Value → gx_W → Prop} (hd : 141 ≤ d) (hL : Ls ≤ 3072) (hi : i + 6 ≤ Ls) (R0 : Rel w) (hs0 : w.1[0]? = some (30, Ls)) (kk : ∀ w2, Rel w2 → kp w w2 → gx_G nc ns d mL_law Q 1578 [.ref 0, .ref 6, .ref 57, .int (nI i)] [] w2) : gx_G nc ns d mL_law Q 1148 [.ref 0, .ref 6, .ref 57, .int (nI i)] [] w := by
  refine g_aload_n dL_law_1148 rfl ?_
  refine g_cV0i dL_law_1149 ml_L_143 mi_X9_back mv_X9_back (Rel_6 R0) ⟨_, rfl, rfl⟩ (Nat.le_of_ble_eq_true rfl) rfl (by omega) ?_
  refine op_use (op_back (by omega) R0) (fun r w1 k1 h57 H => ?_)
  have hs1 := (k1 0 (by decide)).1.trans hs0
  have ea := (k1 0 (by decide)).2
  refine g_aload_n dL_law_1152 rfl ?_
  refine g_cV0i dL_law_1153 ml_L_146 mi_X10_back mv_X10_back h57 ⟨_, rfl, rfl⟩ (Nat.le_of_ble_eq_true rfl) rfl (by omega) ?_
  refine op_two H (fun w2 R2 k2 => ?_)
  refine g_icmp_eq (tgt := 1578) dL_law_1156 (by decide) (fun zc1156 => ?_) (fun zc1156 => ?_)
  · exact kk w2 R2 k2
  · exact absurd rfl zc1156
set_option maxHeartbeats 1000000 in
theorem law_c32 {nc ns d Ls i : Nat} {w : gx_W} {Q : Option Value → gx_W → Prop} (hd : 141 ≤ d) (hL : Ls ≤ 3072) (hi : i + 6 ≤ Ls) (R0 : Rel w) (hs0 : w.1[0]? = some (30, Ls)) (kk : ∀ w2, Rel w2 → kp w w2 → gx_G nc ns d mL_law Q 1578 [.ref 0, .ref 6, .ref 57, .int (nI i)] [] w2) : gx_G nc ns d mL_law Q 1161 [.ref 0, .ref 6, .ref 57, .int (nI i)] [] w := by
  refine g_aload_n dL_law_1161 rfl ?_
  refine g_cV0i dL_law_1162 ml_L_147 mi_X9_undo mv_X9_undo (Rel_6 R0) ⟨_, rfl, rfl⟩ (Nat.le_of_ble_eq_true rfl) rfl (by omega) ?_
  refine op_use (op_undo (by omega) R0) (fun r w1 k1 h57 H => ?_)
  have hs1 := (k1 0 (by decide)).1.trans hs0
  have ea := (k1 0 (by decide)).2
  refine g_aload_n dL_law_1165 rfl ?_
  refine g_cV0i dL_law_1166 ml_L_150 mi_X10_undo mv_X10_undo h57 ⟨_, rfl, rfl⟩ (Nat.le_of_ble_eq_true rfl) rfl (by omega) ?_
  refine op_two H (fun w2 R2 k2 => ?_)
  refine g_icmp_eq (tgt := 1578) dL_law_1169 (by decide) (fun zc1169 => ?_) (fun zc1169 => ?_)
  · exact kk w2 R2 k2
  · exact absurd rfl zc1169
set_option maxHeartbeats 1000000 in
theorem law_c33 {nc ns d Ls i : Nat} {w : gx_W} {Q : Option Value → gx_W → Prop} (hd : 141 ≤ d) (hL : Ls ≤ 3072) (hi : i + 6 ≤ Ls) (R0 : Rel w) (hs0 : w.1[0]? = some (30, Ls)) (kk : ∀ w2, Rel w2 → kp w w2 → gx_G nc ns d mL_law Q 1578 [.ref 0, .ref 6, .ref 57, .int (nI i)] [] w2) : gx_G nc ns d mL_law Q 1174 [.ref 0, .ref 6, .ref 57, .int (nI i)] [] w := by
  refine g_aload_n dL_law_1174 rfl ?_
  refine g_cV0i dL_law_1175 ml_L_151 mi_X9_redo mv_X9_redo (Rel_6 R0) ⟨_, rfl, rfl⟩ (Nat.le_of_ble_eq_true rfl) rfl (by omega) ?_
  refine op_use (op_redo (by omega) R0) (fun r w1 k1 h57 H => ?_)
  have hs1 := (k1 0 (by decide)).1.trans hs0
  have ea := (k1 0 (by decide)).2
  refine g_aload_n dL_law_1178 rfl ?_
  refine g_cV0i dL_law_1179 ml_L_154 mi_X10_redo mv_X10_redo h57 ⟨_, rfl, rfl⟩ (Nat.le_of_ble_eq_true rfl) rfl (by omega) ?_
  refine op_two H (fun w2 R2 k2 => ?_)
  refine g_icmp_eq (tgt := 1578) dL_law_1182 (by decide) (fun zc1182 => ?_) (fun zc1182 => ?_)
  · exact kk w2 R2 k2
  · exact absurd rfl zc1182
set_option maxHeartbeats 1000000 in
theorem law_c34 {nc ns d Ls i : Nat} {w : gx_W} {Q : Option Value → gx_W → Prop} (hd : 141 ≤ d) (hL : Ls ≤ 3072) (hi : i + 6 ≤ Ls) (R0 : Rel w) (hs0 : w.1[0]? = some (30, Ls)) (kk : ∀ w2, Rel w2 → kp w w2 → gx_G nc ns d mL_law Q 1578 [.ref 0, .ref 6, .ref 57, .int (nI i)] [] w2) : gx_G nc ns d mL_law Q 1187 [.ref 0, .ref 6, .ref 57, .int (nI i)] [] w := by
  refine g_aload_n dL_law_1187 rfl ?_
  refine g_aload_n dL_law_1188 rfl ?_
  refine g_iload_n dL_law_1189 rfl ?_
  refine g_iconst (v := 1) dL_law_1190 rfl ?_
  refine g_iadd dL_law_1191 ?_
  refine g_rald dL_law_1192 (by decide) hs0 (lw_ix (k := 1) rfl (by omega) hL) ?_
  refine g_cV1i dL_law_1193 ml_L_155 mi_X9_body mv_X9_body (Rel_6 R0) ⟨_, rfl, rfl⟩ (Nat.le_of_ble_eq_true rfl) rfl (by omega) ?_
  refine op_use (op_body (by omega) R0) (fun r w1 k1 h57 H => ?_)
  have hs1 := (k1 0 (by decide)).1.trans hs0
  have ea := (k1 0 (by decide)).2
  refine g_aload_n dL_law_1196 rfl ?_
  refine g_aload_n dL_law_1197 rfl ?_
  refine g_iload_n dL_law_1198 rfl ?_
  refine g_iconst (v := 1) dL_law_1199 rfl ?_
  refine g_iadd dL_law_1200 ?_
  refine g_rald dL_law_1201 (by decide) hs1 (lw_ix (k := 1) rfl (by omega) hL) ?_
  rw [ea]
  refine g_cV1i dL_law_1202 ml_L_158 mi_X10_body mv_X10_body h57 ⟨_, rfl, rfl⟩ (Nat.le_of_ble_eq_true rfl) rfl (by omega) ?_
  refine op_two H (fun w2 R2 k2 => ?_)
  refine g_icmp_eq (tgt := 1578) dL_law_1205 (by decide) (fun zc1205 => ?_) (fun zc1205 => ?_)
  · exact kk w2 R2 k2
  · exact absurd rfl zc1205
set_option maxHeartbeats 1000000 in
theorem law_c35 {nc ns d Ls i : Nat} {w : gx_W} {Q : Option Value → gx_W → Prop} (hd : 141 ≤ d) (hL : Ls ≤ 3072) (hi : i + 6 ≤ Ls) (R0 : Rel w) (hs0 : w.1[0]? = some (30, Ls)) (kk : ∀ w2, Rel w2 → kp w w2 → gx_G nc ns d mL_law Q 1578 [.ref 0, .ref 6, .ref 57, .int (nI i)] [] w2) : gx_G nc ns d mL_law Q 1210 [.ref 0, .ref 6, .ref 57, .int (nI i)] [] w := by
  refine g_aload_n dL_law_1210 rfl ?_
  refine g_aload_n dL_law_1211 rfl ?_
  refine g_iload_n dL_law_1212 rfl ?_
  refine g_iconst (v := 1) dL_law_1213 rfl ?_
  refine g_iadd dL_law_1214 ?_
  refine g_rald dL_law_1215 (by decide) hs0 (lw_ix (k := 1) rfl (by omega) hL) ?_
  refine g_aload_n dL_law_1216 rfl ?_
  refine g_iload_n dL_law_1217 rfl ?_
  refine g_iconst (v := 2) dL_law_1218 rfl ?_
  refine g_iadd dL_law_1219 ?_
  refine g_rald dL_law_1220 (by decide) hs0 (lw_ix (k := 2) rfl (by omega) hL) ?_
  refine g_aload_n dL_law_1221 rfl ?_
  refine g_iload_n dL_law_1222 rfl ?_
  refine g_iconst (v := 3) dL_law_1223 rfl ?_
  refine g_iadd dL_law_1224 ?_
  refine g_rald dL_law_1225 (by decide) hs0 (lw_ix (k := 3) rfl (by omega) hL) ?_
  refine g_cV3i dL_law_1226 ml_L_159 mi_X9_act mv_X9_act (Rel_6 R0) ⟨_, rfl, rfl⟩ (Nat.le_of_ble_eq_true rfl) rfl (by omega) ?_
  refine op_use (op_act (by omega) R0) (fun r w1 k1 h57 H => ?_)
  have hs1 := (k1 0 (by decide)).1.trans hs0
  have ea := (k1 0 (by decide)).2
  refine g_aload_n dL_law_1229 rfl ?_
  refine g_aload_n dL_law_1230 rfl ?_
  refine g_iload_n dL_law_1231 rfl ?_
  refine g_iconst (v := 1) dL_law_1232 rfl ?_
  refine g_iadd dL_law_1233 ?_
  refine g_rald dL_law_1234 (by decide) hs1 (lw_ix (k := 1) rfl (by omega) hL) ?_
  rw [ea]
  refine g_aload_n dL_law_1235 rfl ?_
  refine g_iload_n dL_law_1236 rfl ?_
  refine g_iconst (v := 2) dL_law_1237 rfl ?_
  refine g_iadd dL_law_1238 ?_
  refine g_rald dL_law_1239 (by decide) hs1 (lw_ix (k := 2) rfl (by omega) hL) ?_
  rw [ea]
  refine g_aload_n dL_law_1240 rfl ?_
  refine g_iload_n dL_law_1241 rfl ?_
  refine g_iconst (v := 3) dL_law_1242 rfl ?_
  refine g_iadd dL_law_1243 ?_
  refine g_rald dL_law_1244 (by decide) hs1 (lw_ix (k := 3) rfl (by omega) hL) ?_
  rw [ea]
  refine g_cV3i dL_law_1245 ml_L_162 mi_X10_act mv_X10_act h57 ⟨_, rfl, rfl⟩ (Nat.le_of_ble_eq_true rfl) rfl (by omega) ?_
  refine op_two H (fun w2 R2 k2 => ?_)
  refine g_icmp_eq (tgt := 1578) dL_law_1248 (by decide) (fun zc1248 => ?_) (fun zc1248 => ?_)
  · exact kk w2 R2 k2
  · exact absurd rfl zc1248
set_option maxHeartbeats 1000000 in
theorem law_c36 {nc ns d Ls i : Nat} {w : gx_W} {Q : Option Value → gx_W → Prop} (hd : 141 ≤ d) (hL : Ls ≤ 3072) (hi : i + 6 ≤ Ls) (R0 : Rel w) (hs0 : w.1[0]? = some (30, Ls)) (kk : ∀ w2, Rel w2 → kp w w2 → gx_G nc ns d mL_law Q 1578 [.ref 0, .ref 6, .ref 57, .int (nI i)] [] w2) : gx_G nc ns d mL_law Q 1253 [.ref 0, .ref 6, .ref 57, .int (nI i)] [] w := by
  refine g_aload_n dL_law_1253 rfl ?_
  refine g_aload_n dL_law_1254 rfl ?_
  refine g_iload_n dL_law_1255 rfl ?_
  refine g_iconst (v := 1) dL_law_1256 rfl ?_
  refine g_iadd dL_law_1257 ?_
  refine g_rald dL_law_1258 (by decide) hs0 (lw_ix (k := 1) rfl (by omega) hL) ?_
  refine g_cV1i dL_law_1259 ml_L_163 mi_X9_trace mv_X9_trace (Rel_6 R0) ⟨_, rfl, rfl⟩ (Nat.le_of_ble_eq_true rfl) rfl (by omega) ?_
  refine op_use (op_trace (by omega) R0) (fun r w1 k1 h57 H => ?_)
  have hs1 := (k1 0 (by decide)).1.trans hs0
  have ea := (k1 0 (by decide)).2
  refine g_aload_n dL_law_1262 rfl ?_
  refine g_aload_n dL_law_1263 rfl ?_
  refine g_iload_n dL_law_1264 rfl ?_
  refine g_iconst (v := 1) dL_law_1265 rfl ?_
  refine g_iadd dL_law_1266 ?_
  refine g_rald dL_law_1267 (by decide) hs1 (lw_ix (k := 1) rfl (by omega) hL) ?_
  rw [ea]
  refine g_cV1i dL_law_1268 ml_L_166 mi_X10_trace mv_X10_trace h57 ⟨_, rfl, rfl⟩ (Nat.le_of_ble_eq_true rfl) rfl (by omega) ?_
  refine op_two H (fun w2 R2 k2 => ?_)
  refine g_icmp_eq (tgt := 1578) dL_law_1271 (by decide) (fun zc1271 => ?_) (fun zc1271 => ?_)
  · exact kk w2 R2 k2
  · exact absurd rfl zc1271
set_option maxHeartbeats 1000000 in
theorem law_c37 {nc ns d Ls i : Nat} {w : gx_W} {Q : Option Value → gx_W → Prop} (hd : 141 ≤ d) (hL : Ls ≤ 3072) (hi : i + 6 ≤ Ls) (R0 : Rel w) (hs0 : w.1[0]? = some (30, Ls)) (kk : ∀ w2, Rel w2 → kp w w2 → gx_G nc ns d mL_law Q 1578 [.ref 0, .ref 6, .ref 57, .int (nI i)] [] w2) : gx_G nc ns d mL_law Q 1276 [.ref 0, .ref 6, .ref 57, .int (nI i)] [] w := by
  refine g_aload_n dL_law_1276 rfl ?_
  refine g_aload_n dL_law_1277 rfl ?_
  refine g_iload_n dL_law_1278 rfl ?_
  refine g_iconst (v := 1) dL_law_1279 rfl ?_
  refine g_iadd dL_law_1280 ?_
  refine g_rald dL_law_1281 (by decide) hs0 (lw_ix (k := 1) rfl (by omega) hL) ?_
  refine g_aload_n dL_law_1282 rfl ?_
  refine g_iload_n dL_law_1283 rfl ?_
  refine g_iconst (v := 2) dL_law_1284 rfl ?_
  refine g_iadd dL_law_1285 ?_
  refine g_rald dL_law_1286 (by decide) hs0 (lw_ix (k := 2) rfl (by omega) hL) ?_
  refine g_cV2i dL_law_1287 ml_L_167 mi_X9_keep mv_X9_keep (Rel_6 R0) ⟨_, rfl, rfl⟩ (Nat.le_of_ble_eq_true rfl) rfl (by omega) ?_
  refine op_use (op_keep (by omega) R0) (fun r w1 k1 h57 H => ?_)
  have hs1 := (k1 0 (by decide)).1.trans hs0
  have ea := (k1 0 (by decide)).2
  refine g_aload_n dL_law_1290 rfl ?_
  refine g_aload_n dL_law_1291 rfl ?_
  refine g_iload_n dL_law_1292 rfl ?_
  refine g_iconst (v := 1) dL_law_1293 rfl ?_
  refine g_iadd dL_law_1294 ?_
  refine g_rald dL_law_1295 (by decide) hs1 (lw_ix (k := 1) rfl (by omega) hL) ?_
  rw [ea]
  refine g_aload_n dL_law_1296 rfl ?_
  refine g_iload_n dL_law_1297 rfl ?_
  refine g_iconst (v := 2) dL_law_1298 rfl ?_
  refine g_iadd dL_law_1299 ?_
  refine g_rald dL_law_1300 (by decide) hs1 (lw_ix (k := 2) rfl (by omega) hL) ?_
  rw [ea]
  refine g_cV2i dL_law_1301 ml_L_170 mi_X10_keep mv_X10_keep h57 ⟨_, rfl, rfl⟩ (Nat.le_of_ble_eq_true rfl) rfl (by omega) ?_
  refine op_two H (fun w2 R2 k2 => ?_)
  refine g_icmp_eq (tgt := 1578) dL_law_1304 (by decide) (fun zc1304 => ?_) (fun zc1304 => ?_)
  · exact kk w2 R2 k2
  · exact absurd rfl zc1304
set_option maxHeartbeats 1000000 in
theorem law_c38 {nc ns d Ls i : Nat} {w : gx_W} {Q : Option Value → gx_W → Prop} (hd : 141 ≤ d) (hL : Ls ≤ 3072) (hi : i + 6 ≤ Ls) (R0 : Rel w) (hs0 : w.1[0]? = some (30, Ls)) (kk : ∀ w2, Rel w2 → kp w w2 → gx_G nc ns d mL_law Q 1578 [.ref 0, .ref 6, .ref 57, .int (nI i)] [] w2) : gx_G nc ns d mL_law Q 1309 [.ref 0, .ref 6, .ref 57, .int (nI i)] [] w := by
  refine g_aload_n dL_law_1309 rfl ?_
  refine g_aload_n dL_law_1310 rfl ?_
  refine g_iload_n dL_law_1311 rfl ?_
  refine g_iconst (v := 1) dL_law_1312 rfl ?_
  refine g_iadd dL_law_1313 ?_
  refine g_rald dL_law_1314 (by decide) hs0 (lw_ix (k := 1) rfl (by omega) hL) ?_
  refine g_aload_n dL_law_1315 rfl ?_
  refine g_iload_n dL_law_1316 rfl ?_
  refine g_iconst (v := 2) dL_law_1317 rfl ?_
  refine g_iadd dL_law_1318 ?_
  refine g_rald dL_law_1319 (by decide) hs0 (lw_ix (k := 2) rfl (by omega) hL) ?_
  refine g_aload_n dL_law_1320 rfl ?_
  refine g_iload_n dL_law_1321 rfl ?_
  refine g_iconst (v := 3) dL_law_1322 rfl ?_
  refine g_iadd dL_law_1323 ?_
  refine g_rald dL_law_1324 (by decide) hs0 (lw_ix (k := 3) rfl (by omega) hL) ?_
  refine g_cV3i dL_law_1325 ml_L_171 mi_X9_row mv_X9_row (Rel_6 R0) ⟨_, rfl, rfl⟩ (Nat.le_of_ble_eq_true rfl) rfl (by omega) ?_
  refine op_use (op_row (by omega) R0) (fun r w1 k1 h57 H => ?_)
  have hs1 := (k1 0 (by decide)).1.trans hs0
  have ea := (k1 0 (by decide)).2
  refine g_aload_n dL_law_1328 rfl ?_
  refine g_aload_n dL_law_1329 rfl ?_
  refine g_iload_n dL_law_1330 rfl ?_
  refine g_iconst (v := 1) dL_law_1331 rfl ?_
  refine g_iadd dL_law_1332 ?_
  refine g_rald dL_law_1333 (by decide) hs1 (lw_ix (k := 1) rfl (by omega) hL) ?_
  rw [ea]
  refine g_aload_n dL_law_1334 rfl ?_
  refine g_iload_n dL_law_1335 rfl ?_
  refine g_iconst (v := 2) dL_law_1336 rfl ?_
  refine g_iadd dL_law_1337 ?_
  refine g_rald dL_law_1338 (by decide) hs1 (lw_ix (k := 2) rfl (by omega) hL) ?_
  rw [ea]
  refine g_aload_n dL_law_1339 rfl ?_
  refine g_iload_n dL_law_1340 rfl ?_
  refine g_iconst (v := 3) dL_law_1341 rfl ?_
  refine g_iadd dL_law_1342 ?_
  refine g_rald dL_law_1343 (by decide) hs1 (lw_ix (k := 3) rfl (by omega) hL) ?_
  rw [ea]
  refine g_cV3i dL_law_1344 ml_L_174 mi_X10_row mv_X10_row h57 ⟨_, rfl, rfl⟩ (Nat.le_of_ble_eq_true rfl) rfl (by omega) ?_
  refine op_two H (fun w2 R2 k2 => ?_)
  refine g_icmp_eq (tgt := 1578) dL_law_1347 (by decide) (fun zc1347 => ?_) (fun zc1347 => ?_)
  · exact kk w2 R2 k2
  · exact absurd rfl zc1347
set_option maxHeartbeats 1000000 in
theorem law_c39 {nc ns d Ls i : Nat} {w : gx_W} {Q : Option Value → gx_W → Prop} (hd : 141 ≤ d) (hL : Ls ≤ 3072) (hi : i + 6 ≤ Ls) (R0 : Rel w) (hs0 : w.1[0]? = some (30, Ls)) (kk : ∀ w2, Rel w2 → kp w w2 → gx_G nc ns d mL_law Q 1578 [.ref 0, .ref 6, .ref 57, .int (nI i)] [] w2) : gx_G nc ns d mL_law Q 1352 [.ref 0, .ref 6, .ref 57, .int (nI i)] [] w := by
  refine g_aload_n dL_law_1352 rfl ?_
  refine g_aload_n dL_law_1353 rfl ?_
  refine g_iload_n dL_law_1354 rfl ?_
  refine g_iconst (v := 1) dL_law_1355 rfl ?_
  refine g_iadd dL_law_1356 ?_
  refine g_rald dL_law_1357 (by decide) hs0 (lw_ix (k := 1) rfl (by omega) hL) ?_
  refine g_aload_n dL_law_1358 rfl ?_
  refine g_iload_n dL_law_1359 rfl ?_
  refine g_iconst (v := 2) dL_law_1360 rfl ?_
  refine g_iadd dL_law_1361 ?_
  refine g_rald dL_law_1362 (by decide) hs0 (lw_ix (k := 2) rfl (by omega) hL) ?_
  refine g_aload_n dL_law_1363 rfl ?_
  refine g_iload_n dL_law_1364 rfl ?_
  refine g_iconst (v := 3) dL_law_1365 rfl ?_
  refine g_iadd dL_law_1366 ?_
  refine g_rald dL_law_1367 (by decide) hs0 (lw_ix (k := 3) rfl (by omega) hL) ?_
  refine g_i2l dL_law_1368 ?_
  refine g_bipush (v := 32) dL_law_1369 rfl ?_
  refine g_lshl dL_law_1371 ?_
  refine g_aload_n dL_law_1372 rfl ?_
  refine g_iload_n dL_law_1373 rfl ?_
  refine g_iconst (v := 4) dL_law_1374 rfl ?_
  refine g_iadd dL_law_1375 ?_
  refine g_rald dL_law_1376 (by decide) hs0 (lw_ix (k := 4) rfl (by omega) hL) ?_
  refine g_i2l dL_law_1377 ?_
  refine g_ldc2 dL_law_1378 ct_L_175 ?_
  refine g_land dL_law_1381 ?_
  refine g_lor dL_law_1382 ?_
  refine g_cV3i dL_law_1383 ml_L_177 mi_X9_put mv_X9_put (Rel_6 R0) ⟨_, rfl, rfl⟩ (Nat.le_of_ble_eq_true rfl) rfl (by omega) ?_
  refine op_use (op_put (by omega) R0) (fun r w1 k1 h57 H => ?_)
  have hs1 := (k1 0 (by decide)).1.trans hs0
  have ea := (k1 0 (by decide)).2
  refine g_aload_n dL_law_1386 rfl ?_
  refine g_aload_n dL_law_1387 rfl ?_
  refine g_iload_n dL_law_1388 rfl ?_
  refine g_iconst (v := 1) dL_law_1389 rfl ?_
  refine g_iadd dL_law_1390 ?_
  refine g_rald dL_law_1391 (by decide) hs1 (lw_ix (k := 1) rfl (by omega) hL) ?_
  rw [ea]
  refine g_aload_n dL_law_1392 rfl ?_
  refine g_iload_n dL_law_1393 rfl ?_
  refine g_iconst (v := 2) dL_law_1394 rfl ?_
  refine g_iadd dL_law_1395 ?_
  refine g_rald dL_law_1396 (by decide) hs1 (lw_ix (k := 2) rfl (by omega) hL) ?_
  rw [ea]
  refine g_aload_n dL_law_1397 rfl ?_
  refine g_iload_n dL_law_1398 rfl ?_
  refine g_iconst (v := 3) dL_law_1399 rfl ?_
  refine g_iadd dL_law_1400 ?_
  refine g_rald dL_law_1401 (by decide) hs1 (lw_ix (k := 3) rfl (by omega) hL) ?_
  rw [ea]
  refine g_i2l dL_law_1402 ?_
  refine g_bipush (v := 32) dL_law_1403 rfl ?_
  refine g_lshl dL_law_1405 ?_
  refine g_aload_n dL_law_1406 rfl ?_
  refine g_iload_n dL_law_1407 rfl ?_
  refine g_iconst (v := 4) dL_law_1408 rfl ?_
  refine g_iadd dL_law_1409 ?_
  refine g_rald dL_law_1410 (by decide) hs1 (lw_ix (k := 4) rfl (by omega) hL) ?_
  rw [ea]
  refine g_i2l dL_law_1411 ?_
  refine g_ldc2 dL_law_1412 ct_L_175 ?_
  refine g_land dL_law_1415 ?_
  refine g_lor dL_law_1416 ?_
  refine g_cV3i dL_law_1417 ml_L_181 mi_X10_put mv_X10_put h57 ⟨_, rfl, rfl⟩ (Nat.le_of_ble_eq_true rfl) rfl (by omega) ?_
  refine op_two H (fun w2 R2 k2 => ?_)
  refine g_icmp_eq (tgt := 1578) dL_law_1420 (by decide) (fun zc1420 => ?_) (fun zc1420 => ?_)
  · exact kk w2 R2 k2
  · exact absurd rfl zc1420
set_option maxHeartbeats 1000000 in
theorem law_c40 {nc ns d Ls i : Nat} {w : gx_W} {Q : Option Value → gx_W → Prop} (hd : 141 ≤ d) (hL : Ls ≤ 3072) (hi : i + 6 ≤ Ls) (R0 : Rel w) (hs0 : w.1[0]? = some (30, Ls)) (kk : ∀ w2, Rel w2 → kp w w2 → gx_G nc ns d mL_law Q 1578 [.ref 0, .ref 6, .ref 57, .int (nI i)] [] w2) : gx_G nc ns d mL_law Q 1425 [.ref 0, .ref 6, .ref 57, .int (nI i)] [] w := by
  refine g_aload_n dL_law_1425 rfl ?_
  refine g_aload_n dL_law_1426 rfl ?_
  refine g_iload_n dL_law_1427 rfl ?_
  refine g_iconst (v := 1) dL_law_1428 rfl ?_
  refine g_iadd dL_law_1429 ?_
  refine g_rald dL_law_1430 (by decide) hs0 (lw_ix (k := 1) rfl (by omega) hL) ?_
  refine g_aload_n dL_law_1431 rfl ?_
  refine g_iload_n dL_law_1432 rfl ?_
  refine g_iconst (v := 2) dL_law_1433 rfl ?_
  refine g_iadd dL_law_1434 ?_
  refine g_rald dL_law_1435 (by decide) hs0 (lw_ix (k := 2) rfl (by omega) hL) ?_
  refine g_cV2l dL_law_1436 ml_L_182 mi_X9_element mv_X9_element (Rel_6 R0) ⟨_, rfl, rfl⟩ (Nat.le_of_ble_eq_true rfl) rfl (by omega) ?_
  refine op_useL (op_element (by omega) R0) (fun r w1 k1 h57 H => ?_)
  have hs1 := (k1 0 (by decide)).1.trans hs0
  have ea := (k1 0 (by decide)).2
  refine g_aload_n dL_law_1439 rfl ?_
  refine g_aload_n dL_law_1440 rfl ?_
  refine g_iload_n dL_law_1441 rfl ?_
  refine g_iconst (v := 1) dL_law_1442 rfl ?_
  refine g_iadd dL_law_1443 ?_
  refine g_rald dL_law_1444 (by decide) hs1 (lw_ix (k := 1) rfl (by omega) hL) ?_
  rw [ea]
  refine g_aload_n dL_law_1445 rfl ?_
  refine g_iload_n dL_law_1446 rfl ?_
  refine g_iconst (v := 2) dL_law_1447 rfl ?_
  refine g_iadd dL_law_1448 ?_
  refine g_rald dL_law_1449 (by decide) hs1 (lw_ix (k := 2) rfl (by omega) hL) ?_
  rw [ea]
  refine g_cV2l dL_law_1450 ml_L_185 mi_X10_element mv_X10_element h57 ⟨_, rfl, rfl⟩ (Nat.le_of_ble_eq_true rfl) rfl (by omega) ?_
  refine op_twoL H (fun w2 R2 k2 => ?_)
  refine g_lcmp dL_law_1453 ?_
  refine g_if_eq (tgt := 1578) dL_law_1454 (by decide) (fun zc1454 => ?_) (fun zc1454 => ?_)
  · exact kk w2 R2 k2
  · exact absurd ((lg_cmp_eq _ _).mpr rfl) zc1454
set_option maxHeartbeats 1000000 in
theorem law_c41 {nc ns d Ls i : Nat} {w : gx_W} {Q : Option Value → gx_W → Prop} (hd : 141 ≤ d) (hL : Ls ≤ 3072) (hi : i + 6 ≤ Ls) (R0 : Rel w) (hs0 : w.1[0]? = some (30, Ls)) (kk : ∀ w2, Rel w2 → kp w w2 → gx_G nc ns d mL_law Q 1578 [.ref 0, .ref 6, .ref 57, .int (nI i)] [] w2) : gx_G nc ns d mL_law Q 1459 [.ref 0, .ref 6, .ref 57, .int (nI i)] [] w := by
  refine g_aload_n dL_law_1459 rfl ?_
  refine g_aload_n dL_law_1460 rfl ?_
  refine g_iload_n dL_law_1461 rfl ?_
  refine g_iconst (v := 1) dL_law_1462 rfl ?_
  refine g_iadd dL_law_1463 ?_
  refine g_rald dL_law_1464 (by decide) hs0 (lw_ix (k := 1) rfl (by omega) hL) ?_
  refine g_aload_n dL_law_1465 rfl ?_
  refine g_iload_n dL_law_1466 rfl ?_
  refine g_iconst (v := 2) dL_law_1467 rfl ?_
  refine g_iadd dL_law_1468 ?_
  refine g_rald dL_law_1469 (by decide) hs0 (lw_ix (k := 2) rfl (by omega) hL) ?_
  refine g_aload_n dL_law_1470 rfl ?_
  refine g_iload_n dL_law_1471 rfl ?_
  refine g_iconst (v := 3) dL_law_1472 rfl ?_
  refine g_iadd dL_law_1473 ?_
  refine g_rald dL_law_1474 (by decide) hs0 (lw_ix (k := 3) rfl (by omega) hL) ?_
  refine g_aload_n dL_law_1475 rfl ?_
  refine g_iload_n dL_law_1476 rfl ?_
  refine g_iconst (v := 4) dL_law_1477 rfl ?_
  refine g_iadd dL_law_1478 ?_
  refine g_rald dL_law_1479 (by decide) hs0 (lw_ix (k := 4) rfl (by omega) hL) ?_
  refine g_aload_n dL_law_1480 rfl ?_
  refine g_iload_n dL_law_1481 rfl ?_
  refine g_iconst (v := 5) dL_law_1482 rfl ?_
  refine g_iadd dL_law_1483 ?_
  refine g_rald dL_law_1484 (by decide) hs0 (lw_ix (k := 5) rfl (by omega) hL) ?_
  refine g_cV5i dL_law_1485 ml_L_186 mi_X9_shift mv_X9_shift (Rel_6 R0) ⟨_, rfl, rfl⟩ (Nat.le_of_ble_eq_true rfl) rfl (by omega) ?_
  refine op_use (op_shift (by omega) R0) (fun r w1 k1 h57 H => ?_)
  have hs1 := (k1 0 (by decide)).1.trans hs0
  have ea := (k1 0 (by decide)).2
  refine g_aload_n dL_law_1488 rfl ?_
  refine g_aload_n dL_law_1489 rfl ?_
  refine g_iload_n dL_law_1490 rfl ?_
  refine g_iconst (v := 1) dL_law_1491 rfl ?_
  refine g_iadd dL_law_1492 ?_
  refine g_rald dL_law_1493 (by decide) hs1 (lw_ix (k := 1) rfl (by omega) hL) ?_
  rw [ea]
  refine g_aload_n dL_law_1494 rfl ?_
  refine g_iload_n dL_law_1495 rfl ?_
  refine g_iconst (v := 2) dL_law_1496 rfl ?_
  refine g_iadd dL_law_1497 ?_
  refine g_rald dL_law_1498 (by decide) hs1 (lw_ix (k := 2) rfl (by omega) hL) ?_
  rw [ea]
  refine g_aload_n dL_law_1499 rfl ?_
  refine g_iload_n dL_law_1500 rfl ?_
  refine g_iconst (v := 3) dL_law_1501 rfl ?_
  refine g_iadd dL_law_1502 ?_
  refine g_rald dL_law_1503 (by decide) hs1 (lw_ix (k := 3) rfl (by omega) hL) ?_
  rw [ea]
  refine g_aload_n dL_law_1504 rfl ?_
  refine g_iload_n dL_law_1505 rfl ?_
  refine g_iconst (v := 4) dL_law_1506 rfl ?_
  refine g_iadd dL_law_1507 ?_
  refine g_rald dL_law_1508 (by decide) hs1 (lw_ix (k := 4) rfl (by omega) hL) ?_
  rw [ea]
  refine g_aload_n dL_law_1509 rfl ?_
  refine g_iload_n dL_law_1510 rfl ?_
  refine g_iconst (v := 5) dL_law_1511 rfl ?_
  refine g_iadd dL_law_1512 ?_
  refine g_rald dL_law_1513 (by decide) hs1 (lw_ix (k := 5) rfl (by omega) hL) ?_
  rw [ea]
  refine g_cV5i dL_law_1514 ml_L_190 mi_X10_shift mv_X10_shift h57 ⟨_, rfl, rfl⟩ (Nat.le_of_ble_eq_true rfl) rfl (by omega) ?_
  refine op_two H (fun w2 R2 k2 => ?_)
  refine g_icmp_eq (tgt := 1578) dL_law_1517 (by decide) (fun zc1517 => ?_) (fun zc1517 => ?_)
  · exact kk w2 R2 k2
  · exact absurd rfl zc1517
set_option maxHeartbeats 1000000 in
theorem law_c42 {nc ns d Ls i : Nat} {w : gx_W} {Q : Option Value → gx_W → Prop} (hd : 141 ≤ d) (hL : Ls ≤ 3072) (hi : i + 6 ≤ Ls) (R0 : Rel w) (hs0 : w.1[0]? = some (30, Ls)) (kk : ∀ w2, Rel w2 → kp w w2 → gx_G nc ns d mL_law Q 1578 [.ref 0, .ref 6, .ref 57, .int (nI i)] [] w2) : gx_G nc ns d mL_law Q 1522 [.ref 0, .ref 6, .ref 57, .int (nI i)] [] w := by
  refine g_aload_n dL_law_1522 rfl ?_
  refine g_aload_n dL_law_1523 rfl ?_
  refine g_iload_n dL_law_1524 rfl ?_
  refine g_iconst (v := 1) dL_law_1525 rfl ?_
  refine g_iadd dL_law_1526 ?_
  refine g_rald dL_law_1527 (by decide) hs0 (lw_ix (k := 1) rfl (by omega) hL) ?_
  refine g_aload_n dL_law_1528 rfl ?_
  refine g_iload_n dL_law_1529 rfl ?_
  refine g_iconst (v := 2) dL_law_1530 rfl ?_
  refine g_iadd dL_law_1531 ?_
  refine g_rald dL_law_1532 (by decide) hs0 (lw_ix (k := 2) rfl (by omega) hL) ?_
  refine g_cV2i dL_law_1533 ml_L_191 mi_X9_taken mv_X9_taken (Rel_6 R0) ⟨_, rfl, rfl⟩ (Nat.le_of_ble_eq_true rfl) rfl (by omega) ?_
  refine op_use (op_taken (by omega) R0) (fun r w1 k1 h57 H => ?_)
  have hs1 := (k1 0 (by decide)).1.trans hs0
  have ea := (k1 0 (by decide)).2
  refine g_aload_n dL_law_1536 rfl ?_
  refine g_aload_n dL_law_1537 rfl ?_
  refine g_iload_n dL_law_1538 rfl ?_
  refine g_iconst (v := 1) dL_law_1539 rfl ?_
  refine g_iadd dL_law_1540 ?_
  refine g_rald dL_law_1541 (by decide) hs1 (lw_ix (k := 1) rfl (by omega) hL) ?_
  rw [ea]
  refine g_aload_n dL_law_1542 rfl ?_
  refine g_iload_n dL_law_1543 rfl ?_
  refine g_iconst (v := 2) dL_law_1544 rfl ?_
  refine g_iadd dL_law_1545 ?_
  refine g_rald dL_law_1546 (by decide) hs1 (lw_ix (k := 2) rfl (by omega) hL) ?_
  rw [ea]
  refine g_cV2i dL_law_1547 ml_L_194 mi_X10_taken mv_X10_taken h57 ⟨_, rfl, rfl⟩ (Nat.le_of_ble_eq_true rfl) rfl (by omega) ?_
  refine op_two H (fun w2 R2 k2 => ?_)
  refine g_icmp_eq (tgt := 1578) dL_law_1550 (by decide) (fun zc1550 => ?_) (fun zc1550 => ?_)
  · exact kk w2 R2 k2
  · exact absurd rfl zc1550
set_option maxHeartbeats 1000000 in
theorem law_c43 {nc ns d Ls i : Nat} {w : gx_W} {Q : Option Value → gx_W → Prop} (hd : 141 ≤ d) (hL : Ls ≤ 3072) (hi : i + 6 ≤ Ls) (R0 : Rel w) (hs0 : w.1[0]? = some (30, Ls)) (kk : ∀ w2, Rel w2 → kp w w2 → gx_G nc ns d mL_law Q 1578 [.ref 0, .ref 6, .ref 57, .int (nI i)] [] w2) : gx_G nc ns d mL_law Q 1555 [.ref 0, .ref 6, .ref 57, .int (nI i)] [] w := by
  refine g_aload_n dL_law_1555 rfl ?_
  refine g_aload_n dL_law_1556 rfl ?_
  refine g_iload_n dL_law_1557 rfl ?_
  refine g_iconst (v := 1) dL_law_1558 rfl ?_
  refine g_iadd dL_law_1559 ?_
  refine g_rald dL_law_1560 (by decide) hs0 (lw_ix (k := 1) rfl (by omega) hL) ?_
  refine g_cV1i dL_law_1561 ml_L_195 mi_X9_count mv_X9_count (Rel_6 R0) ⟨_, rfl, rfl⟩ (Nat.le_of_ble_eq_true rfl) rfl (by omega) ?_
  refine op_use (op_count (by omega) R0) (fun r w1 k1 h57 H => ?_)
  have hs1 := (k1 0 (by decide)).1.trans hs0
  have ea := (k1 0 (by decide)).2
  refine g_aload_n dL_law_1564 rfl ?_
  refine g_aload_n dL_law_1565 rfl ?_
  refine g_iload_n dL_law_1566 rfl ?_
  refine g_iconst (v := 1) dL_law_1567 rfl ?_
  refine g_iadd dL_law_1568 ?_
  refine g_rald dL_law_1569 (by decide) hs1 (lw_ix (k := 1) rfl (by omega) hL) ?_
  rw [ea]
  refine g_cV1i dL_law_1570 ml_L_198 mi_X10_count mv_X10_count h57 ⟨_, rfl, rfl⟩ (Nat.le_of_ble_eq_true rfl) rfl (by omega) ?_
  refine op_two H (fun w2 R2 k2 => ?_)
  refine g_icmp_eq (tgt := 1578) dL_law_1573 (by decide) (fun zc1573 => ?_) (fun zc1573 => ?_)
  · exact kk w2 R2 k2
  · exact absurd rfl zc1573
