section
theorem lw10 : Sh 10 = (17, 10) := by decide
theorem lw20 : Sh 20000 = (18, 69) := by decide
set_option maxHeartbeats 4000000 in
set_option maxRecDepth 20000 in
theorem law_c0 {X : XC} {d : Nat} {i : Int} {M : Mem} {Post : Option XV → Mem → Prop} (h0 : 0 ≤ i) (h1 : i + 6 ≤ (X.2.2.2.2.1 : Int)) (hL : X.2.2.2.2.1 ≤ 3072) (hI : INV M) (K : ∀ M2, INV M2 → Go X mL_law (d + 9) 1427 [(3, XI i), (2, XR 20000), (1, XR 10), (0, XR 5)] [] M2 Post) : Go X mL_law (d + 9) 204 [(3, XI i), (2, XR 20000), (1, XR 10), (0, XR 5)] [] M Post := by
  obtain ⟨s, hs, hC, hD⟩ := hI
  have hr : ∀ k : Int, 0 ≤ k ∧ k ≤ 6 → i32 (i + k) := fun k hk => ⟨by omega, by omega⟩
  obtain ⟨q, eq, r, er, hq, hJ⟩ := (op_candidate hs).both hC hD
  refine g_aload_n 2 dL_law_204 rfl ?_
  refine v_I (ci := 7) (as := []) dL_law_205 mlL_13 mdX8_candidate mvX8_candidate rfl lw10 rfl (Nat.le_of_ble_eq_true rfl) (kX8_candidate lw10 eq) rfl ?_
  refine g_aload_n 1 dL_law_208 rfl ?_
  refine v_I (ci := 8) (as := []) dL_law_209 mlL_17 mdX9_candidate mvX9_candidate rfl lw20 rfl (Nat.le_of_ble_eq_true rfl) (kX9_candidate lw20 er) rfl ?_
  exact g_icmp_eq (tgt := 1427) dL_law_212 (by decide) (fun _ => K _ hJ) (fun b => absurd hq b)
set_option maxHeartbeats 4000000 in
set_option maxRecDepth 20000 in
theorem law_c1 {X : XC} {d : Nat} {i : Int} {M : Mem} {Post : Option XV → Mem → Prop} (h0 : 0 ≤ i) (h1 : i + 6 ≤ (X.2.2.2.2.1 : Int)) (hL : X.2.2.2.2.1 ≤ 3072) (hI : INV M) (K : ∀ M2, INV M2 → Go X mL_law (d + 9) 1427 [(3, XI i), (2, XR 20000), (1, XR 10), (0, XR 5)] [] M2 Post) : Go X mL_law (d + 9) 217 [(3, XI i), (2, XR 20000), (1, XR 10), (0, XR 5)] [] M Post := by
  obtain ⟨s, hs, hC, hD⟩ := hI
  have hr : ∀ k : Int, 0 ≤ k ∧ k ≤ 6 → i32 (i + k) := fun k hk => ⟨by omega, by omega⟩
  obtain ⟨q, eq, r, er, hq, hJ⟩ := (op_ballot hs (X.2.2.2.2.2 (Int.toNat (i + 1))).toInt (X.2.2.2.2.2 (Int.toNat (i + 2))).toInt).both hC hD
  refine g_aload_n 2 dL_law_217 rfl ?_
  refine g_aload_n 3 dL_law_218 rfl ?_
  refine g_iload_n 0 dL_law_219 rfl ?_
  refine g_iconst (v := 1) dL_law_220 rfl (i32l rfl) ?_
  refine g_iadd dL_law_221 rfl (hr 1 (by omega)) ?_
  refine g_ialdS dL_law_222 (by omega) (by omega) ?_
  refine g_aload_n 3 dL_law_223 rfl ?_
  refine g_iload_n 0 dL_law_224 rfl ?_
  refine g_pc (pc' := 225) rfl ?_
  refine g_iconst (v := 2) dL_law_225 rfl (i32l rfl) ?_
  refine g_iadd dL_law_226 rfl (hr 2 (by omega)) ?_
  refine g_ialdS dL_law_227 (by omega) (by omega) ?_
  refine v_I (ci := 7) (as := [XI (X.2.2.2.2.2 (Int.toNat (i + 1))).toInt, XI (X.2.2.2.2.2 (Int.toNat (i + 2))).toInt]) dL_law_228 mlL_18 mdX8_ballot mvX8_ballot rfl lw10 rfl (Nat.le_of_ble_eq_true rfl) (kX8_ballot lw10 eq) rfl ?_
  refine g_aload_n 1 dL_law_231 rfl ?_
  refine g_aload_n 3 dL_law_232 rfl ?_
  refine g_iload_n 0 dL_law_233 rfl ?_
  refine g_iconst (v := 1) dL_law_234 rfl (i32l rfl) ?_
  refine g_pc (pc' := 235) rfl ?_
  refine g_iadd dL_law_235 rfl (hr 1 (by omega)) ?_
  refine g_ialdS dL_law_236 (by omega) (by omega) ?_
  refine g_aload_n 3 dL_law_237 rfl ?_
  refine g_iload_n 0 dL_law_238 rfl ?_
  refine g_iconst (v := 2) dL_law_239 rfl (i32l rfl) ?_
  refine g_iadd dL_law_240 rfl (hr 2 (by omega)) ?_
  refine g_ialdS dL_law_241 (by omega) (by omega) ?_
  refine v_I (ci := 8) (as := [XI (X.2.2.2.2.2 (Int.toNat (i + 1))).toInt, XI (X.2.2.2.2.2 (Int.toNat (i + 2))).toInt]) dL_law_242 mlL_22 mdX9_ballot mvX9_ballot rfl lw20 rfl (Nat.le_of_ble_eq_true rfl) (kX9_ballot lw20 er) rfl ?_
  refine g_pc (pc' := 245) rfl ?_
  exact g_icmp_eq (tgt := 1427) dL_law_245 (by decide) (fun _ => K _ hJ) (fun b => absurd hq b)
set_option maxHeartbeats 4000000 in
set_option maxRecDepth 20000 in
theorem law_c2 {X : XC} {d : Nat} {i : Int} {M : Mem} {Post : Option XV → Mem → Prop} (h0 : 0 ≤ i) (h1 : i + 6 ≤ (X.2.2.2.2.1 : Int)) (hL : X.2.2.2.2.1 ≤ 3072) (hI : INV M) (K : ∀ M2, INV M2 → Go X mL_law (d + 9) 1427 [(3, XI i), (2, XR 20000), (1, XR 10), (0, XR 5)] [] M2 Post) : Go X mL_law (d + 9) 250 [(3, XI i), (2, XR 20000), (1, XR 10), (0, XR 5)] [] M Post := by
  obtain ⟨s, hs, hC, hD⟩ := hI
  have hr : ∀ k : Int, 0 ≤ k ∧ k ≤ 6 → i32 (i + k) := fun k hk => ⟨by omega, by omega⟩
  obtain ⟨q, eq, r, er, hq, hJ⟩ := (op_many hs (X.2.2.2.2.2 (Int.toNat (i + 1))).toInt (X.2.2.2.2.2 (Int.toNat (i + 2))).toInt).both hC hD
  refine g_aload_n 2 dL_law_250 rfl ?_
  refine g_aload_n 3 dL_law_251 rfl ?_
  refine g_iload_n 0 dL_law_252 rfl ?_
  refine g_iconst (v := 1) dL_law_253 rfl (i32l rfl) ?_
  refine g_iadd dL_law_254 rfl (hr 1 (by omega)) ?_
  refine g_ialdS dL_law_255 (by omega) (by omega) ?_
  refine g_aload_n 3 dL_law_256 rfl ?_
  refine g_iload_n 0 dL_law_257 rfl ?_
  refine g_pc (pc' := 258) rfl ?_
  refine g_iconst (v := 2) dL_law_258 rfl (i32l rfl) ?_
  refine g_iadd dL_law_259 rfl (hr 2 (by omega)) ?_
  refine g_ialdS dL_law_260 (by omega) (by omega) ?_
  refine v_I (ci := 7) (as := [XI (X.2.2.2.2.2 (Int.toNat (i + 1))).toInt, XI (X.2.2.2.2.2 (Int.toNat (i + 2))).toInt]) dL_law_261 mlL_23 mdX8_many mvX8_many rfl lw10 rfl (Nat.le_of_ble_eq_true rfl) (kX8_many lw10 eq) rfl ?_
  refine g_aload_n 1 dL_law_264 rfl ?_
  refine g_aload_n 3 dL_law_265 rfl ?_
  refine g_iload_n 0 dL_law_266 rfl ?_
  refine g_iconst (v := 1) dL_law_267 rfl (i32l rfl) ?_
  refine g_pc (pc' := 268) rfl ?_
  refine g_iadd dL_law_268 rfl (hr 1 (by omega)) ?_
  refine g_ialdS dL_law_269 (by omega) (by omega) ?_
  refine g_aload_n 3 dL_law_270 rfl ?_
  refine g_iload_n 0 dL_law_271 rfl ?_
  refine g_iconst (v := 2) dL_law_272 rfl (i32l rfl) ?_
  refine g_iadd dL_law_273 rfl (hr 2 (by omega)) ?_
  refine g_ialdS dL_law_274 (by omega) (by omega) ?_
  refine v_I (ci := 8) (as := [XI (X.2.2.2.2.2 (Int.toNat (i + 1))).toInt, XI (X.2.2.2.2.2 (Int.toNat (i + 2))).toInt]) dL_law_275 mlL_26 mdX9_many mvX9_many rfl lw20 rfl (Nat.le_of_ble_eq_true rfl) (kX9_many lw20 er) rfl ?_
  refine g_pc (pc' := 278) rfl ?_
  exact g_icmp_eq (tgt := 1427) dL_law_278 (by decide) (fun _ => K _ hJ) (fun b => absurd hq b)
set_option maxHeartbeats 4000000 in
set_option maxRecDepth 20000 in
theorem law_c3 {X : XC} {d : Nat} {i : Int} {M : Mem} {Post : Option XV → Mem → Prop} (h0 : 0 ≤ i) (h1 : i + 6 ≤ (X.2.2.2.2.1 : Int)) (hL : X.2.2.2.2.1 ≤ 3072) (hI : INV M) (K : ∀ M2, INV M2 → Go X mL_law (d + 9) 1427 [(3, XI i), (2, XR 20000), (1, XR 10), (0, XR 5)] [] M2 Post) : Go X mL_law (d + 9) 283 [(3, XI i), (2, XR 20000), (1, XR 10), (0, XR 5)] [] M Post := by
  obtain ⟨s, hs, hC, hD⟩ := hI
  have hr : ∀ k : Int, 0 ≤ k ∧ k ≤ 6 → i32 (i + k) := fun k hk => ⟨by omega, by omega⟩
  obtain ⟨q, eq, r, er, hq, hJ⟩ := (op_drop hs).both hC hD
  refine g_aload_n 2 dL_law_283 rfl ?_
  refine v_I (ci := 7) (as := []) dL_law_284 mlL_27 mdX8_drop mvX8_drop rfl lw10 rfl (Nat.le_of_ble_eq_true rfl) (kX8_drop lw10 eq) rfl ?_
  refine g_aload_n 1 dL_law_287 rfl ?_
  refine v_I (ci := 8) (as := []) dL_law_288 mlL_30 mdX9_drop mvX9_drop rfl lw20 rfl (Nat.le_of_ble_eq_true rfl) (kX9_drop lw20 er) rfl ?_
  exact g_icmp_eq (tgt := 1427) dL_law_291 (by decide) (fun _ => K _ hJ) (fun b => absurd hq b)
set_option maxHeartbeats 4000000 in
set_option maxRecDepth 20000 in
theorem law_c4 {X : XC} {d : Nat} {i : Int} {M : Mem} {Post : Option XV → Mem → Prop} (h0 : 0 ≤ i) (h1 : i + 6 ≤ (X.2.2.2.2.1 : Int)) (hL : X.2.2.2.2.1 ≤ 3072) (hI : INV M) (K : ∀ M2, INV M2 → Go X mL_law (d + 9) 1427 [(3, XI i), (2, XR 20000), (1, XR 10), (0, XR 5)] [] M2 Post) : Go X mL_law (d + 9) 296 [(3, XI i), (2, XR 20000), (1, XR 10), (0, XR 5)] [] M Post := by
  obtain ⟨s, hs, hC, hD⟩ := hI
  have hr : ∀ k : Int, 0 ≤ k ∧ k ≤ 6 → i32 (i + k) := fun k hk => ⟨by omega, by omega⟩
  by_cases hb : (X.2.2.2.2.2 (Int.toNat (i + 2))).toInt = 0
  · obtain ⟨q, eq, r, er, hq, hJ⟩ := (op_gone hs (X.2.2.2.2.2 (Int.toNat (i + 1))).toInt 0 (Or.inl rfl)).both hC hD
    refine g_aload_n 2 dL_law_296 rfl ?_
    refine g_aload_n 3 dL_law_297 rfl ?_
    refine g_iload_n 0 dL_law_298 rfl ?_
    refine g_iconst (v := 1) dL_law_299 rfl (i32l rfl) ?_
    refine g_iadd dL_law_300 rfl (hr 1 (by omega)) ?_
    refine g_ialdS dL_law_301 (by omega) (by omega) ?_
    refine g_aload_n 3 dL_law_302 rfl ?_
    refine g_iload_n 0 dL_law_303 rfl ?_
    refine g_pc (pc' := 304) rfl ?_
    refine g_iconst (v := 2) dL_law_304 rfl (i32l rfl) ?_
    refine g_iadd dL_law_305 rfl (hr 2 (by omega)) ?_
    refine g_ialdS dL_law_306 (by omega) (by omega) ?_
    refine g_if_eq (tgt := 314) dL_law_307 (by decide) (fun _ => ?_) (fun b => absurd hb b)
    refine g_iconst (v := 0) dL_law_314 rfl (i32l rfl) ?_
    refine v_I (ci := 7) (as := [XI (X.2.2.2.2.2 (Int.toNat (i + 1))).toInt, XI 0]) dL_law_315 mlL_31 mdX8_gone mvX8_gone rfl lw10 rfl (Nat.le_of_ble_eq_true rfl) (kX8_gone lw10 eq) rfl ?_
    refine g_aload_n 1 dL_law_318 rfl ?_
    refine g_aload_n 3 dL_law_319 rfl ?_
    refine g_iload_n 0 dL_law_320 rfl ?_
    refine g_iconst (v := 1) dL_law_321 rfl (i32l rfl) ?_
    refine g_iadd dL_law_322 rfl (hr 1 (by omega)) ?_
    refine g_pc (pc' := 323) rfl ?_
    refine g_ialdS dL_law_323 (by omega) (by omega) ?_
    refine g_aload_n 3 dL_law_324 rfl ?_
    refine g_iload_n 0 dL_law_325 rfl ?_
    refine g_iconst (v := 2) dL_law_326 rfl (i32l rfl) ?_
    refine g_iadd dL_law_327 rfl (hr 2 (by omega)) ?_
    refine g_ialdS dL_law_328 (by omega) (by omega) ?_
    refine g_if_eq (tgt := 336) dL_law_329 (by decide) (fun _ => ?_) (fun b => absurd hb b)
    refine g_iconst (v := 0) dL_law_336 rfl (i32l rfl) ?_
    refine v_I (ci := 8) (as := [XI (X.2.2.2.2.2 (Int.toNat (i + 1))).toInt, XI 0]) dL_law_337 mlL_35 mdX9_gone mvX9_gone rfl lw20 rfl (Nat.le_of_ble_eq_true rfl) (kX9_gone lw20 er) rfl ?_
    exact g_icmp_eq (tgt := 1427) dL_law_340 (by decide) (fun _ => K _ hJ) (fun b => absurd hq b)
  · obtain ⟨q, eq, r, er, hq, hJ⟩ := (op_gone hs (X.2.2.2.2.2 (Int.toNat (i + 1))).toInt 1 (Or.inr rfl)).both hC hD
    refine g_aload_n 2 dL_law_296 rfl ?_
    refine g_aload_n 3 dL_law_297 rfl ?_
    refine g_iload_n 0 dL_law_298 rfl ?_
    refine g_iconst (v := 1) dL_law_299 rfl (i32l rfl) ?_
    refine g_iadd dL_law_300 rfl (hr 1 (by omega)) ?_
    refine g_ialdS dL_law_301 (by omega) (by omega) ?_
    refine g_aload_n 3 dL_law_302 rfl ?_
    refine g_iload_n 0 dL_law_303 rfl ?_
    refine g_pc (pc' := 304) rfl ?_
    refine g_iconst (v := 2) dL_law_304 rfl (i32l rfl) ?_
    refine g_iadd dL_law_305 rfl (hr 2 (by omega)) ?_
    refine g_ialdS dL_law_306 (by omega) (by omega) ?_
    refine g_if_eq (tgt := 314) dL_law_307 (by decide) (fun b => absurd b hb) (fun _ => ?_)
    refine g_pc (pc' := 310) rfl ?_
    refine g_iconst (v := 1) dL_law_310 rfl (i32l rfl) ?_
    refine g_goto (tgt := 315) dL_law_311 (by decide) ?_
    refine v_I (ci := 7) (as := [XI (X.2.2.2.2.2 (Int.toNat (i + 1))).toInt, XI 1]) dL_law_315 mlL_31 mdX8_gone mvX8_gone rfl lw10 rfl (Nat.le_of_ble_eq_true rfl) (kX8_gone lw10 eq) rfl ?_
    refine g_aload_n 1 dL_law_318 rfl ?_
    refine g_aload_n 3 dL_law_319 rfl ?_
    refine g_iload_n 0 dL_law_320 rfl ?_
    refine g_iconst (v := 1) dL_law_321 rfl (i32l rfl) ?_
    refine g_iadd dL_law_322 rfl (hr 1 (by omega)) ?_
    refine g_ialdS dL_law_323 (by omega) (by omega) ?_
    refine g_pc (pc' := 324) rfl ?_
    refine g_aload_n 3 dL_law_324 rfl ?_
    refine g_iload_n 0 dL_law_325 rfl ?_
    refine g_iconst (v := 2) dL_law_326 rfl (i32l rfl) ?_
    refine g_iadd dL_law_327 rfl (hr 2 (by omega)) ?_
    refine g_ialdS dL_law_328 (by omega) (by omega) ?_
    refine g_if_eq (tgt := 336) dL_law_329 (by decide) (fun b => absurd b hb) (fun _ => ?_)
    refine g_pc (pc' := 332) rfl ?_
    refine g_iconst (v := 1) dL_law_332 rfl (i32l rfl) ?_
    refine g_goto (tgt := 337) dL_law_333 (by decide) ?_
    refine v_I (ci := 8) (as := [XI (X.2.2.2.2.2 (Int.toNat (i + 1))).toInt, XI 1]) dL_law_337 mlL_35 mdX9_gone mvX9_gone rfl lw20 rfl (Nat.le_of_ble_eq_true rfl) (kX9_gone lw20 er) rfl ?_
    exact g_icmp_eq (tgt := 1427) dL_law_340 (by decide) (fun _ => K _ hJ) (fun b => absurd hq b)
set_option maxHeartbeats 4000000 in
set_option maxRecDepth 20000 in
theorem law_c5 {X : XC} {d : Nat} {i : Int} {M : Mem} {Post : Option XV → Mem → Prop} (h0 : 0 ≤ i) (h1 : i + 6 ≤ (X.2.2.2.2.1 : Int)) (hL : X.2.2.2.2.1 ≤ 3072) (hI : INV M) (K : ∀ M2, INV M2 → Go X mL_law (d + 9) 1427 [(3, XI i), (2, XR 20000), (1, XR 10), (0, XR 5)] [] M2 Post) : Go X mL_law (d + 9) 345 [(3, XI i), (2, XR 20000), (1, XR 10), (0, XR 5)] [] M Post := by
  obtain ⟨s, hs, hC, hD⟩ := hI
  have hr : ∀ k : Int, 0 ≤ k ∧ k ≤ 6 → i32 (i + k) := fun k hk => ⟨by omega, by omega⟩
  obtain ⟨q, eq, r, er, hq, hJ⟩ := (op_set hs (X.2.2.2.2.2 (Int.toNat (i + 1))).toInt (X.2.2.2.2.2 (Int.toNat (i + 2))).toInt).both hC hD
  refine g_aload_n 2 dL_law_345 rfl ?_
  refine g_aload_n 3 dL_law_346 rfl ?_
  refine g_iload_n 0 dL_law_347 rfl ?_
  refine g_iconst (v := 1) dL_law_348 rfl (i32l rfl) ?_
  refine g_iadd dL_law_349 rfl (hr 1 (by omega)) ?_
  refine g_ialdS dL_law_350 (by omega) (by omega) ?_
  refine g_aload_n 3 dL_law_351 rfl ?_
  refine g_iload_n 0 dL_law_352 rfl ?_
  refine g_pc (pc' := 353) rfl ?_
  refine g_iconst (v := 2) dL_law_353 rfl (i32l rfl) ?_
  refine g_iadd dL_law_354 rfl (hr 2 (by omega)) ?_
  refine g_ialdS dL_law_355 (by omega) (by omega) ?_
  refine v_I (ci := 7) (as := [XI (X.2.2.2.2.2 (Int.toNat (i + 1))).toInt, XI (X.2.2.2.2.2 (Int.toNat (i + 2))).toInt]) dL_law_356 mlL_36 mdX8_set mvX8_set rfl lw10 rfl (Nat.le_of_ble_eq_true rfl) (kX8_set lw10 eq) rfl ?_
  refine g_aload_n 1 dL_law_359 rfl ?_
  refine g_aload_n 3 dL_law_360 rfl ?_
  refine g_iload_n 0 dL_law_361 rfl ?_
  refine g_iconst (v := 1) dL_law_362 rfl (i32l rfl) ?_
  refine g_pc (pc' := 363) rfl ?_
  refine g_iadd dL_law_363 rfl (hr 1 (by omega)) ?_
  refine g_ialdS dL_law_364 (by omega) (by omega) ?_
  refine g_aload_n 3 dL_law_365 rfl ?_
  refine g_iload_n 0 dL_law_366 rfl ?_
  refine g_iconst (v := 2) dL_law_367 rfl (i32l rfl) ?_
  refine g_iadd dL_law_368 rfl (hr 2 (by omega)) ?_
  refine g_ialdS dL_law_369 (by omega) (by omega) ?_
  refine v_I (ci := 8) (as := [XI (X.2.2.2.2.2 (Int.toNat (i + 1))).toInt, XI (X.2.2.2.2.2 (Int.toNat (i + 2))).toInt]) dL_law_370 mlL_39 mdX9_set mvX9_set rfl lw20 rfl (Nat.le_of_ble_eq_true rfl) (kX9_set lw20 er) rfl ?_
  refine g_pc (pc' := 373) rfl ?_
  exact g_icmp_eq (tgt := 1427) dL_law_373 (by decide) (fun _ => K _ hJ) (fun b => absurd hq b)
set_option maxHeartbeats 4000000 in
set_option maxRecDepth 20000 in
theorem law_c6 {X : XC} {d : Nat} {i : Int} {M : Mem} {Post : Option XV → Mem → Prop} (h0 : 0 ≤ i) (h1 : i + 6 ≤ (X.2.2.2.2.1 : Int)) (hL : X.2.2.2.2.1 ≤ 3072) (hI : INV M) (K : ∀ M2, INV M2 → Go X mL_law (d + 9) 1427 [(3, XI i), (2, XR 20000), (1, XR 10), (0, XR 5)] [] M2 Post) : Go X mL_law (d + 9) 378 [(3, XI i), (2, XR 20000), (1, XR 10), (0, XR 5)] [] M Post := by
  obtain ⟨s, hs, hC, hD⟩ := hI
  have hr : ∀ k : Int, 0 ≤ k ∧ k ≤ 6 → i32 (i + k) := fun k hk => ⟨by omega, by omega⟩
  obtain ⟨q, eq, r, er, hq, hJ⟩ := (op_swap hs (X.2.2.2.2.2 (Int.toNat (i + 1))).toInt (X.2.2.2.2.2 (Int.toNat (i + 2))).toInt).both hC hD
  refine g_aload_n 2 dL_law_378 rfl ?_
  refine g_aload_n 3 dL_law_379 rfl ?_
  refine g_iload_n 0 dL_law_380 rfl ?_
  refine g_iconst (v := 1) dL_law_381 rfl (i32l rfl) ?_
  refine g_iadd dL_law_382 rfl (hr 1 (by omega)) ?_
  refine g_ialdS dL_law_383 (by omega) (by omega) ?_
  refine g_aload_n 3 dL_law_384 rfl ?_
  refine g_iload_n 0 dL_law_385 rfl ?_
  refine g_pc (pc' := 386) rfl ?_
  refine g_iconst (v := 2) dL_law_386 rfl (i32l rfl) ?_
  refine g_iadd dL_law_387 rfl (hr 2 (by omega)) ?_
  refine g_ialdS dL_law_388 (by omega) (by omega) ?_
  refine v_I (ci := 7) (as := [XI (X.2.2.2.2.2 (Int.toNat (i + 1))).toInt, XI (X.2.2.2.2.2 (Int.toNat (i + 2))).toInt]) dL_law_389 mlL_40 mdX8_swap mvX8_swap rfl lw10 rfl (Nat.le_of_ble_eq_true rfl) (kX8_swap lw10 eq) rfl ?_
  refine g_aload_n 1 dL_law_392 rfl ?_
  refine g_aload_n 3 dL_law_393 rfl ?_
  refine g_iload_n 0 dL_law_394 rfl ?_
  refine g_iconst (v := 1) dL_law_395 rfl (i32l rfl) ?_
  refine g_pc (pc' := 396) rfl ?_
  refine g_iadd dL_law_396 rfl (hr 1 (by omega)) ?_
  refine g_ialdS dL_law_397 (by omega) (by omega) ?_
  refine g_aload_n 3 dL_law_398 rfl ?_
  refine g_iload_n 0 dL_law_399 rfl ?_
  refine g_iconst (v := 2) dL_law_400 rfl (i32l rfl) ?_
  refine g_iadd dL_law_401 rfl (hr 2 (by omega)) ?_
  refine g_ialdS dL_law_402 (by omega) (by omega) ?_
  refine v_I (ci := 8) (as := [XI (X.2.2.2.2.2 (Int.toNat (i + 1))).toInt, XI (X.2.2.2.2.2 (Int.toNat (i + 2))).toInt]) dL_law_403 mlL_43 mdX9_swap mvX9_swap rfl lw20 rfl (Nat.le_of_ble_eq_true rfl) (kX9_swap lw20 er) rfl ?_
  refine g_pc (pc' := 406) rfl ?_
  exact g_icmp_eq (tgt := 1427) dL_law_406 (by decide) (fun _ => K _ hJ) (fun b => absurd hq b)
set_option maxHeartbeats 4000000 in
set_option maxRecDepth 20000 in
theorem law_c7 {X : XC} {d : Nat} {i : Int} {M : Mem} {Post : Option XV → Mem → Prop} (h0 : 0 ≤ i) (h1 : i + 6 ≤ (X.2.2.2.2.1 : Int)) (hL : X.2.2.2.2.1 ≤ 3072) (hI : INV M) (K : ∀ M2, INV M2 → Go X mL_law (d + 9) 1427 [(3, XI i), (2, XR 20000), (1, XR 10), (0, XR 5)] [] M2 Post) : Go X mL_law (d + 9) 411 [(3, XI i), (2, XR 20000), (1, XR 10), (0, XR 5)] [] M Post := by
  obtain ⟨s, hs, hC, hD⟩ := hI
  have hr : ∀ k : Int, 0 ≤ k ∧ k ≤ 6 → i32 (i + k) := fun k hk => ⟨by omega, by omega⟩
  obtain ⟨q, eq, r, er, hq, hJ⟩ := (op_of hs (X.2.2.2.2.2 (Int.toNat (i + 1))).toInt (X.2.2.2.2.2 (Int.toNat (i + 2))).toInt).both hC hD
  refine g_aload_n 2 dL_law_411 rfl ?_
  refine g_aload_n 3 dL_law_412 rfl ?_
  refine g_iload_n 0 dL_law_413 rfl ?_
  refine g_iconst (v := 1) dL_law_414 rfl (i32l rfl) ?_
  refine g_iadd dL_law_415 rfl (hr 1 (by omega)) ?_
  refine g_ialdS dL_law_416 (by omega) (by omega) ?_
  refine g_aload_n 3 dL_law_417 rfl ?_
  refine g_iload_n 0 dL_law_418 rfl ?_
  refine g_pc (pc' := 419) rfl ?_
  refine g_iconst (v := 2) dL_law_419 rfl (i32l rfl) ?_
  refine g_iadd dL_law_420 rfl (hr 2 (by omega)) ?_
  refine g_ialdS dL_law_421 (by omega) (by omega) ?_
  refine v_I (ci := 7) (as := [XI (X.2.2.2.2.2 (Int.toNat (i + 1))).toInt, XI (X.2.2.2.2.2 (Int.toNat (i + 2))).toInt]) dL_law_422 mlL_44 mdX8_of mvX8_of rfl lw10 rfl (Nat.le_of_ble_eq_true rfl) (kX8_of lw10 eq) rfl ?_
  refine g_aload_n 1 dL_law_425 rfl ?_
  refine g_aload_n 3 dL_law_426 rfl ?_
  refine g_iload_n 0 dL_law_427 rfl ?_
  refine g_iconst (v := 1) dL_law_428 rfl (i32l rfl) ?_
  refine g_pc (pc' := 429) rfl ?_
  refine g_iadd dL_law_429 rfl (hr 1 (by omega)) ?_
  refine g_ialdS dL_law_430 (by omega) (by omega) ?_
  refine g_aload_n 3 dL_law_431 rfl ?_
  refine g_iload_n 0 dL_law_432 rfl ?_
  refine g_iconst (v := 2) dL_law_433 rfl (i32l rfl) ?_
  refine g_iadd dL_law_434 rfl (hr 2 (by omega)) ?_
  refine g_ialdS dL_law_435 (by omega) (by omega) ?_
  refine v_I (ci := 8) (as := [XI (X.2.2.2.2.2 (Int.toNat (i + 1))).toInt, XI (X.2.2.2.2.2 (Int.toNat (i + 2))).toInt]) dL_law_436 mlL_47 mdX9_of mvX9_of rfl lw20 rfl (Nat.le_of_ble_eq_true rfl) (kX9_of lw20 er) rfl ?_
  refine g_pc (pc' := 439) rfl ?_
  exact g_icmp_eq (tgt := 1427) dL_law_439 (by decide) (fun _ => K _ hJ) (fun b => absurd hq b)
set_option maxHeartbeats 4000000 in
set_option maxRecDepth 20000 in
theorem law_c8 {X : XC} {d : Nat} {i : Int} {M : Mem} {Post : Option XV → Mem → Prop} (h0 : 0 ≤ i) (h1 : i + 6 ≤ (X.2.2.2.2.1 : Int)) (hL : X.2.2.2.2.1 ≤ 3072) (hI : INV M) (K : ∀ M2, INV M2 → Go X mL_law (d + 9) 1427 [(3, XI i), (2, XR 20000), (1, XR 10), (0, XR 5)] [] M2 Post) : Go X mL_law (d + 9) 444 [(3, XI i), (2, XR 20000), (1, XR 10), (0, XR 5)] [] M Post := by
  obtain ⟨s, hs, hC, hD⟩ := hI
  have hr : ∀ k : Int, 0 ≤ k ∧ k ≤ 6 → i32 (i + k) := fun k hk => ⟨by omega, by omega⟩
  obtain ⟨q, eq, r, er, hq, hJ⟩ := (op_ballotOf hs (X.2.2.2.2.2 (Int.toNat (i + 1))).toInt (X.2.2.2.2.2 (Int.toNat (i + 2))).toInt).both hC hD
  refine g_aload_n 2 dL_law_444 rfl ?_
  refine g_aload_n 3 dL_law_445 rfl ?_
  refine g_iload_n 0 dL_law_446 rfl ?_
  refine g_iconst (v := 1) dL_law_447 rfl (i32l rfl) ?_
  refine g_iadd dL_law_448 rfl (hr 1 (by omega)) ?_
  refine g_ialdS dL_law_449 (by omega) (by omega) ?_
  refine g_aload_n 3 dL_law_450 rfl ?_
  refine g_iload_n 0 dL_law_451 rfl ?_
  refine g_pc (pc' := 452) rfl ?_
  refine g_iconst (v := 2) dL_law_452 rfl (i32l rfl) ?_
  refine g_iadd dL_law_453 rfl (hr 2 (by omega)) ?_
  refine g_ialdS dL_law_454 (by omega) (by omega) ?_
  refine v_I (ci := 7) (as := [XI (X.2.2.2.2.2 (Int.toNat (i + 1))).toInt, XI (X.2.2.2.2.2 (Int.toNat (i + 2))).toInt]) dL_law_455 mlL_48 mdX8_ballotOf mvX8_ballotOf rfl lw10 rfl (Nat.le_of_ble_eq_true rfl) (kX8_ballotOf lw10 eq) rfl ?_
  refine g_aload_n 1 dL_law_458 rfl ?_
  refine g_aload_n 3 dL_law_459 rfl ?_
  refine g_iload_n 0 dL_law_460 rfl ?_
  refine g_iconst (v := 1) dL_law_461 rfl (i32l rfl) ?_
  refine g_pc (pc' := 462) rfl ?_
  refine g_iadd dL_law_462 rfl (hr 1 (by omega)) ?_
  refine g_ialdS dL_law_463 (by omega) (by omega) ?_
  refine g_aload_n 3 dL_law_464 rfl ?_
  refine g_iload_n 0 dL_law_465 rfl ?_
  refine g_iconst (v := 2) dL_law_466 rfl (i32l rfl) ?_
  refine g_iadd dL_law_467 rfl (hr 2 (by omega)) ?_
  refine g_ialdS dL_law_468 (by omega) (by omega) ?_
  refine v_I (ci := 8) (as := [XI (X.2.2.2.2.2 (Int.toNat (i + 1))).toInt, XI (X.2.2.2.2.2 (Int.toNat (i + 2))).toInt]) dL_law_469 mlL_51 mdX9_ballotOf mvX9_ballotOf rfl lw20 rfl (Nat.le_of_ble_eq_true rfl) (kX9_ballotOf lw20 er) rfl ?_
  refine g_pc (pc' := 472) rfl ?_
  exact g_icmp_eq (tgt := 1427) dL_law_472 (by decide) (fun _ => K _ hJ) (fun b => absurd hq b)
set_option maxHeartbeats 4000000 in
set_option maxRecDepth 20000 in
theorem law_c9 {X : XC} {d : Nat} {i : Int} {M : Mem} {Post : Option XV → Mem → Prop} (h0 : 0 ≤ i) (h1 : i + 6 ≤ (X.2.2.2.2.1 : Int)) (hL : X.2.2.2.2.1 ≤ 3072) (hI : INV M) (K : ∀ M2, INV M2 → Go X mL_law (d + 9) 1427 [(3, XI i), (2, XR 20000), (1, XR 10), (0, XR 5)] [] M2 Post) : Go X mL_law (d + 9) 477 [(3, XI i), (2, XR 20000), (1, XR 10), (0, XR 5)] [] M Post := by
  obtain ⟨s, hs, hC, hD⟩ := hI
  have hr : ∀ k : Int, 0 ≤ k ∧ k ≤ 6 → i32 (i + k) := fun k hk => ⟨by omega, by omega⟩
  obtain ⟨q, eq, r, er, hq, hJ⟩ := (op_rowOf hs (X.2.2.2.2.2 (Int.toNat (i + 1))).toInt (X.2.2.2.2.2 (Int.toNat (i + 2))).toInt).both hC hD
  refine g_aload_n 2 dL_law_477 rfl ?_
  refine g_aload_n 3 dL_law_478 rfl ?_
  refine g_iload_n 0 dL_law_479 rfl ?_
  refine g_iconst (v := 1) dL_law_480 rfl (i32l rfl) ?_
  refine g_iadd dL_law_481 rfl (hr 1 (by omega)) ?_
  refine g_ialdS dL_law_482 (by omega) (by omega) ?_
  refine g_aload_n 3 dL_law_483 rfl ?_
  refine g_iload_n 0 dL_law_484 rfl ?_
  refine g_pc (pc' := 485) rfl ?_
  refine g_iconst (v := 2) dL_law_485 rfl (i32l rfl) ?_
  refine g_iadd dL_law_486 rfl (hr 2 (by omega)) ?_
  refine g_ialdS dL_law_487 (by omega) (by omega) ?_
  refine v_I (ci := 7) (as := [XI (X.2.2.2.2.2 (Int.toNat (i + 1))).toInt, XI (X.2.2.2.2.2 (Int.toNat (i + 2))).toInt]) dL_law_488 mlL_52 mdX8_rowOf mvX8_rowOf rfl lw10 rfl (Nat.le_of_ble_eq_true rfl) (kX8_rowOf lw10 eq) rfl ?_
  refine g_aload_n 1 dL_law_491 rfl ?_
  refine g_aload_n 3 dL_law_492 rfl ?_
  refine g_iload_n 0 dL_law_493 rfl ?_
  refine g_iconst (v := 1) dL_law_494 rfl (i32l rfl) ?_
  refine g_pc (pc' := 495) rfl ?_
  refine g_iadd dL_law_495 rfl (hr 1 (by omega)) ?_
  refine g_ialdS dL_law_496 (by omega) (by omega) ?_
  refine g_aload_n 3 dL_law_497 rfl ?_
  refine g_iload_n 0 dL_law_498 rfl ?_
  refine g_iconst (v := 2) dL_law_499 rfl (i32l rfl) ?_
  refine g_iadd dL_law_500 rfl (hr 2 (by omega)) ?_
  refine g_ialdS dL_law_501 (by omega) (by omega) ?_
  refine v_I (ci := 8) (as := [XI (X.2.2.2.2.2 (Int.toNat (i + 1))).toInt, XI (X.2.2.2.2.2 (Int.toNat (i + 2))).toInt]) dL_law_502 mlL_55 mdX9_rowOf mvX9_rowOf rfl lw20 rfl (Nat.le_of_ble_eq_true rfl) (kX9_rowOf lw20 er) rfl ?_
  refine g_pc (pc' := 505) rfl ?_
  exact g_icmp_eq (tgt := 1427) dL_law_505 (by decide) (fun _ => K _ hJ) (fun b => absurd hq b)
set_option maxHeartbeats 4000000 in
set_option maxRecDepth 20000 in
theorem law_c10 {X : XC} {d : Nat} {i : Int} {M : Mem} {Post : Option XV → Mem → Prop} (h0 : 0 ≤ i) (h1 : i + 6 ≤ (X.2.2.2.2.1 : Int)) (hL : X.2.2.2.2.1 ≤ 3072) (hI : INV M) (K : ∀ M2, INV M2 → Go X mL_law (d + 9) 1427 [(3, XI i), (2, XR 20000), (1, XR 10), (0, XR 5)] [] M2 Post) : Go X mL_law (d + 9) 510 [(3, XI i), (2, XR 20000), (1, XR 10), (0, XR 5)] [] M Post := by
  obtain ⟨s, hs, hC, hD⟩ := hI
  have hr : ∀ k : Int, 0 ≤ k ∧ k ≤ 6 → i32 (i + k) := fun k hk => ⟨by omega, by omega⟩
  obtain ⟨q, eq, r, er, hq, hJ⟩ := (op_told hs (X.2.2.2.2.2 (Int.toNat (i + 1))).toInt).both hC hD
  refine g_aload_n 2 dL_law_510 rfl ?_
  refine g_aload_n 3 dL_law_511 rfl ?_
  refine g_iload_n 0 dL_law_512 rfl ?_
  refine g_iconst (v := 1) dL_law_513 rfl (i32l rfl) ?_
  refine g_iadd dL_law_514 rfl (hr 1 (by omega)) ?_
  refine g_ialdS dL_law_515 (by omega) (by omega) ?_
  refine v_I (ci := 7) (as := [XI (X.2.2.2.2.2 (Int.toNat (i + 1))).toInt]) dL_law_516 mlL_56 mdX8_told mvX8_told rfl lw10 rfl (Nat.le_of_ble_eq_true rfl) (kX8_told lw10 eq) rfl ?_
  refine g_pc (pc' := 519) rfl ?_
  refine g_aload_n 1 dL_law_519 rfl ?_
  refine g_aload_n 3 dL_law_520 rfl ?_
  refine g_iload_n 0 dL_law_521 rfl ?_
  refine g_iconst (v := 1) dL_law_522 rfl (i32l rfl) ?_
  refine g_iadd dL_law_523 rfl (hr 1 (by omega)) ?_
  refine g_ialdS dL_law_524 (by omega) (by omega) ?_
  refine v_I (ci := 8) (as := [XI (X.2.2.2.2.2 (Int.toNat (i + 1))).toInt]) dL_law_525 mlL_60 mdX9_told mvX9_told rfl lw20 rfl (Nat.le_of_ble_eq_true rfl) (kX9_told lw20 er) rfl ?_
  exact g_icmp_eq (tgt := 1427) dL_law_528 (by decide) (fun _ => K _ hJ) (fun b => absurd hq b)
set_option maxHeartbeats 4000000 in
set_option maxRecDepth 20000 in
theorem law_c11 {X : XC} {d : Nat} {i : Int} {M : Mem} {Post : Option XV → Mem → Prop} (h0 : 0 ≤ i) (h1 : i + 6 ≤ (X.2.2.2.2.1 : Int)) (hL : X.2.2.2.2.1 ≤ 3072) (hI : INV M) (K : ∀ M2, INV M2 → Go X mL_law (d + 9) 1427 [(3, XI i), (2, XR 20000), (1, XR 10), (0, XR 5)] [] M2 Post) : Go X mL_law (d + 9) 533 [(3, XI i), (2, XR 20000), (1, XR 10), (0, XR 5)] [] M Post := by
  obtain ⟨s, hs, hC, hD⟩ := hI
  have hr : ∀ k : Int, 0 ≤ k ∧ k ≤ 6 → i32 (i + k) := fun k hk => ⟨by omega, by omega⟩
  obtain ⟨q, eq, r, er, hq, hJ⟩ := (op_stageOf hs (X.2.2.2.2.2 (Int.toNat (i + 1))).toInt (X.2.2.2.2.2 (Int.toNat (i + 2))).toInt).both hC hD
  refine g_aload_n 2 dL_law_533 rfl ?_
  refine g_aload_n 3 dL_law_534 rfl ?_
  refine g_iload_n 0 dL_law_535 rfl ?_
  refine g_iconst (v := 1) dL_law_536 rfl (i32l rfl) ?_
  refine g_iadd dL_law_537 rfl (hr 1 (by omega)) ?_
  refine g_ialdS dL_law_538 (by omega) (by omega) ?_
  refine g_aload_n 3 dL_law_539 rfl ?_
  refine g_iload_n 0 dL_law_540 rfl ?_
  refine g_pc (pc' := 541) rfl ?_
  refine g_iconst (v := 2) dL_law_541 rfl (i32l rfl) ?_
  refine g_iadd dL_law_542 rfl (hr 2 (by omega)) ?_
  refine g_ialdS dL_law_543 (by omega) (by omega) ?_
  refine v_I (ci := 7) (as := [XI (X.2.2.2.2.2 (Int.toNat (i + 1))).toInt, XI (X.2.2.2.2.2 (Int.toNat (i + 2))).toInt]) dL_law_544 mlL_61 mdX8_stageOf mvX8_stageOf rfl lw10 rfl (Nat.le_of_ble_eq_true rfl) (kX8_stageOf lw10 eq) rfl ?_
  refine g_aload_n 1 dL_law_547 rfl ?_
  refine g_aload_n 3 dL_law_548 rfl ?_
  refine g_iload_n 0 dL_law_549 rfl ?_
  refine g_iconst (v := 1) dL_law_550 rfl (i32l rfl) ?_
  refine g_pc (pc' := 551) rfl ?_
  refine g_iadd dL_law_551 rfl (hr 1 (by omega)) ?_
  refine g_ialdS dL_law_552 (by omega) (by omega) ?_
  refine g_aload_n 3 dL_law_553 rfl ?_
  refine g_iload_n 0 dL_law_554 rfl ?_
  refine g_iconst (v := 2) dL_law_555 rfl (i32l rfl) ?_
  refine g_iadd dL_law_556 rfl (hr 2 (by omega)) ?_
  refine g_ialdS dL_law_557 (by omega) (by omega) ?_
  refine v_I (ci := 8) (as := [XI (X.2.2.2.2.2 (Int.toNat (i + 1))).toInt, XI (X.2.2.2.2.2 (Int.toNat (i + 2))).toInt]) dL_law_558 mlL_64 mdX9_stageOf mvX9_stageOf rfl lw20 rfl (Nat.le_of_ble_eq_true rfl) (kX9_stageOf lw20 er) rfl ?_
  refine g_pc (pc' := 561) rfl ?_
  exact g_icmp_eq (tgt := 1427) dL_law_561 (by decide) (fun _ => K _ hJ) (fun b => absurd hq b)
set_option maxHeartbeats 4000000 in
set_option maxRecDepth 20000 in
theorem law_c12 {X : XC} {d : Nat} {i : Int} {M : Mem} {Post : Option XV → Mem → Prop} (h0 : 0 ≤ i) (h1 : i + 6 ≤ (X.2.2.2.2.1 : Int)) (hL : X.2.2.2.2.1 ≤ 3072) (hI : INV M) (K : ∀ M2, INV M2 → Go X mL_law (d + 9) 1427 [(3, XI i), (2, XR 20000), (1, XR 10), (0, XR 5)] [] M2 Post) : Go X mL_law (d + 9) 566 [(3, XI i), (2, XR 20000), (1, XR 10), (0, XR 5)] [] M Post := by
  obtain ⟨s, hs, hC, hD⟩ := hI
  have hr : ∀ k : Int, 0 ≤ k ∧ k ≤ 6 → i32 (i + k) := fun k hk => ⟨by omega, by omega⟩
  obtain ⟨q, eq, r, er, hq, hJ⟩ := (op_amount hs (X.2.2.2.2.2 (Int.toNat (i + 1))).toInt (X.2.2.2.2.2 (Int.toNat (i + 2))).toInt).both hC hD
  refine g_aload_n 2 dL_law_566 rfl ?_
  refine g_aload_n 3 dL_law_567 rfl ?_
  refine g_iload_n 0 dL_law_568 rfl ?_
  refine g_iconst (v := 1) dL_law_569 rfl (i32l rfl) ?_
  refine g_iadd dL_law_570 rfl (hr 1 (by omega)) ?_
  refine g_ialdS dL_law_571 (by omega) (by omega) ?_
  refine g_aload_n 3 dL_law_572 rfl ?_
  refine g_iload_n 0 dL_law_573 rfl ?_
  refine g_pc (pc' := 574) rfl ?_
  refine g_iconst (v := 2) dL_law_574 rfl (i32l rfl) ?_
  refine g_iadd dL_law_575 rfl (hr 2 (by omega)) ?_
  refine g_ialdS dL_law_576 (by omega) (by omega) ?_
  refine v_J (ci := 7) (as := [XI (X.2.2.2.2.2 (Int.toNat (i + 1))).toInt, XI (X.2.2.2.2.2 (Int.toNat (i + 2))).toInt]) dL_law_577 mlL_65 mdX8_amount mvX8_amount rfl lw10 rfl (Nat.le_of_ble_eq_true rfl) (kX8_amount lw10 eq) rfl ?_
  refine g_aload_n 1 dL_law_580 rfl ?_
  refine g_aload_n 3 dL_law_581 rfl ?_
  refine g_iload_n 0 dL_law_582 rfl ?_
  refine g_iconst (v := 1) dL_law_583 rfl (i32l rfl) ?_
  refine g_pc (pc' := 584) rfl ?_
  refine g_iadd dL_law_584 rfl (hr 1 (by omega)) ?_
  refine g_ialdS dL_law_585 (by omega) (by omega) ?_
  refine g_aload_n 3 dL_law_586 rfl ?_
  refine g_iload_n 0 dL_law_587 rfl ?_
  refine g_iconst (v := 2) dL_law_588 rfl (i32l rfl) ?_
  refine g_iadd dL_law_589 rfl (hr 2 (by omega)) ?_
  refine g_ialdS dL_law_590 (by omega) (by omega) ?_
  refine v_J (ci := 8) (as := [XI (X.2.2.2.2.2 (Int.toNat (i + 1))).toInt, XI (X.2.2.2.2.2 (Int.toNat (i + 2))).toInt]) dL_law_591 mlL_69 mdX9_amount mvX9_amount rfl lw20 rfl (Nat.le_of_ble_eq_true rfl) (kX9_amount lw20 er) rfl ?_
  refine g_pc (pc' := 594) rfl ?_
  exact g_lcmp_eq (tgt := 1427) dL_law_594 dL_law_595 (by decide) (fun _ => K _ hJ) (fun b => absurd hq b)
end
