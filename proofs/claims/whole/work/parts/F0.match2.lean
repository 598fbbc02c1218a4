/-! The reference: match, its steps behind a question -/
section NA
variable {E : gE} {d : Nat} {G G0 : gS} {m n : Nat} {s : mS} {Q : gO → gS → Prop}
set_option maxHeartbeats 400000 in
set_option maxRecDepth 100000 in
theorem m_W_mt_m (hmn : m < n) {x q2 pa b6 q7 : Int32} {A K p q v t : Nat} (bp : p < 2200) (h25 : s.2 25 p = nI v) (bv : v < 700) (h21 : s.2 21 p = nI t) (bt : t < 16) (hm : ¬ s.2 0 t ≤ 1) (kk : GT E Y_Model_match (d + 4) G0 437 [(0, .ref m), (1, .int x), (2, .int q2), (3, .int (nI A)), (4, .int (nI K)), (5, .int (nI q)), (6, .int (s.2 5 v)), (7, .int q7), (8, .int (nI p)), (9, .int (nI q)), (10, .int (nI v)), (11, .int 1), (12, .int 1)] [.int 1, .int (s.2 5 v), .int 1, .int (nI p), .int (nI K), .int (nI A), .ref m] (mW E G m n s) Q) : GT E Y_Model_match (d + 4) G0 303 [(0, .ref m), (1, .int x), (2, .int q2), (3, .int (nI A)), (4, .int (nI K)), (5, .int (pa)), (6, .int (b6)), (7, .int q7), (8, .int (nI p)), (9, .int (nI q))] [] (mW E G m n s) Q := by
  refine g_aload_n d_Model_match_303 rfl ?_
  refine w_get (k := 40) fl_Model_87 (by decide) rfl d_Model_match_304 ?_
  refine g_iload d_Model_match_307 rfl ?_
  refine w_ald (j := 25) (q := p) (x := nI v) hmn (by decide) (by decide) (nI_hi (by omega)) (by show _ < 2200; omega) h25 d_Model_match_309 ?_
  refine g_istore d_Model_match_310 (by decide) rfl ?_
  refine g_aload_n d_Model_match_312 rfl ?_
  refine w_get (k := 1) fl_Model_7 (by decide) rfl d_Model_match_313 ?_
  refine g_aload_n d_Model_match_316 rfl ?_
  refine w_get (k := 36) fl_Model_74 (by decide) rfl d_Model_match_317 ?_
  refine g_iload d_Model_match_320 rfl ?_
  refine w_ald (j := 21) (q := p) (x := nI t) hmn (by decide) (by decide) (nI_hi (by omega)) (by show _ < 2200; omega) h21 d_Model_match_322 ?_
  refine w_ald (j := 0) (q := t) (x := s.2 0 t) hmn (by decide) (by decide) (nI_hi (by omega)) (by show _ < 16; omega) rfl d_Model_match_323 ?_
  refine g_iconst (v := 1) d_Model_match_324 (by decide) ?_
  refine g_icmp_le (tgt := 332) d_Model_match_325 (by decide) (fun c_325 => ?_) (fun c_325 => ?_)
  · exact absurd c_325 hm
  refine g_iconst (v := 1) d_Model_match_328 (by decide) ?_
  refine g_goto (tgt := 333) d_Model_match_329 (by decide) ?_
  refine g_istore d_Model_match_333 (by decide) rfl ?_
  refine g_iload d_Model_match_335 rfl ?_
  refine g_if_ne (tgt := 359) d_Model_match_337 (by decide) (fun c_337 => ?_) (fun c_337 => absurd c_337 (by decide))
  refine g_iconst (v := 1) d_Model_match_359 (by decide) ?_
  refine g_goto (tgt := 364) d_Model_match_360 (by decide) ?_
  refine g_istore d_Model_match_364 (by decide) rfl ?_
  refine g_iload d_Model_match_366 rfl ?_
  refine g_istore d_Model_match_368 (by decide) rfl ?_
  refine g_iload d_Model_match_370 rfl ?_
  refine g_if_eq (tgt := 385) d_Model_match_372 (by decide) (fun c_372 => absurd c_372 (by decide)) (fun c_372 => ?_)
  refine g_aload_n d_Model_match_375 rfl ?_
  refine w_get (k := 8) fl_Model_25 (by decide) rfl d_Model_match_376 ?_
  refine g_iload d_Model_match_379 rfl ?_
  refine w_ald (j := 5) (q := v) (x := s.2 5 v) hmn (by decide) (by decide) (nI_hi (by omega)) (by show _ < 700; omega) rfl d_Model_match_381 ?_
  refine g_goto (tgt := 418) d_Model_match_382 (by decide) ?_
  refine g_istore d_Model_match_418 (by decide) rfl ?_
  refine g_aload_n d_Model_match_420 rfl ?_
  refine g_iload_n d_Model_match_421 rfl ?_
  refine g_iload d_Model_match_422 rfl ?_
  refine g_iload d_Model_match_424 rfl ?_
  refine g_iload d_Model_match_426 rfl ?_
  refine g_aload_n d_Model_match_428 rfl ?_
  refine w_get (k := 8) fl_Model_25 (by decide) rfl d_Model_match_429 ?_
  refine g_iload d_Model_match_432 rfl ?_
  refine w_ald (j := 5) (q := v) (x := s.2 5 v) hmn (by decide) (by decide) (nI_hi (by omega)) (by show _ < 700; omega) rfl d_Model_match_434 ?_
  refine g_iload d_Model_match_435 rfl ?_
  exact kk
set_option maxHeartbeats 400000 in
set_option maxRecDepth 100000 in
theorem m_W_mt_n1 (hmn : m < n) {x q2 pa b6 q7 : Int32} {A K p q v t : Nat} (bp : p < 2200) (h25 : s.2 25 p = nI v) (bv : v < 700) (h21 : s.2 21 p = nI t) (bt : t < 16) (hm : s.2 0 t ≤ 1) (hR : ∀ R, R < A + K → ¬ s.2 27 R < 0 ∧ tn (s.2 27 R) ≤ 26) (hW : ∀ R, R < A + K → ∀ j, j < tn (s.2 27 R) → ¬ s.2 29 (26 * R + j) < 0 ∧ tn (s.2 29 (26 * R + j)) < 700) (bA : A + K ≤ 41640) (hi : ¬ rIsW s A (nI p) (s.2 5 v) K = 0) (kk : GT E Y_Model_match (d + 4) G0 437 [(0, .ref m), (1, .int x), (2, .int q2), (3, .int (nI A)), (4, .int (nI K)), (5, .int (nI q)), (6, .int ((rBel s A K (nI p) (s.2 5 v) (K + 2) (rAb s A (nI p) 0 1 K).1 (rAb s A (nI p) 0 1 K).2 0).1)), (7, .int q7), (8, .int (nI p)), (9, .int (nI q)), (10, .int (nI v)), (11, .int 0), (12, .int 1)] [.int 1, .int (s.2 5 v), .int 0, .int (nI p), .int (nI K), .int (nI A), .ref m] (mW E G m n (wA s 39 0 ((rBel s A K (nI p) (s.2 5 v) (K + 2) (rAb s A (nI p) 0 1 K).1 (rAb s A (nI p) 0 1 K).2 0).2))) Q) : GT E Y_Model_match (d + 4) G0 303 [(0, .ref m), (1, .int x), (2, .int q2), (3, .int (nI A)), (4, .int (nI K)), (5, .int (pa)), (6, .int (b6)), (7, .int q7), (8, .int (nI p)), (9, .int (nI q))] [] (mW E G m n s) Q := by
  refine g_aload_n d_Model_match_303 rfl ?_
  refine w_get (k := 40) fl_Model_87 (by decide) rfl d_Model_match_304 ?_
  refine g_iload d_Model_match_307 rfl ?_
  refine w_ald (j := 25) (q := p) (x := nI v) hmn (by decide) (by decide) (nI_hi (by omega)) (by show _ < 2200; omega) h25 d_Model_match_309 ?_
  refine g_istore d_Model_match_310 (by decide) rfl ?_
  refine g_aload_n d_Model_match_312 rfl ?_
  refine w_get (k := 1) fl_Model_7 (by decide) rfl d_Model_match_313 ?_
  refine g_aload_n d_Model_match_316 rfl ?_
  refine w_get (k := 36) fl_Model_74 (by decide) rfl d_Model_match_317 ?_
  refine g_iload d_Model_match_320 rfl ?_
  refine w_ald (j := 21) (q := p) (x := nI t) hmn (by decide) (by decide) (nI_hi (by omega)) (by show _ < 2200; omega) h21 d_Model_match_322 ?_
  refine w_ald (j := 0) (q := t) (x := s.2 0 t) hmn (by decide) (by decide) (nI_hi (by omega)) (by show _ < 16; omega) rfl d_Model_match_323 ?_
  refine g_iconst (v := 1) d_Model_match_324 (by decide) ?_
  refine g_icmp_le (tgt := 332) d_Model_match_325 (by decide) (fun c_325 => ?_) (fun c_325 => ?_)
  rotate_left
  · exact absurd c_325 (fun y => y hm)
  refine g_iconst (v := 0) d_Model_match_332 (by decide) ?_
  refine g_istore d_Model_match_333 (by decide) rfl ?_
  refine g_iload d_Model_match_335 rfl ?_
  refine g_if_ne (tgt := 359) d_Model_match_337 (by decide) (fun c_337 => absurd c_337 (by decide)) (fun c_337 => ?_)
  refine g_aload_n d_Model_match_340 rfl ?_
  refine g_iload_n d_Model_match_341 rfl ?_
  refine g_iload d_Model_match_342 rfl ?_
  refine g_iload d_Model_match_344 rfl ?_
  refine g_aload_n d_Model_match_346 rfl ?_
  refine w_get (k := 8) fl_Model_25 (by decide) rfl d_Model_match_347 ?_
  refine g_iload d_Model_match_350 rfl ?_
  refine w_ald (j := 5) (q := v) (x := s.2 5 v) hmn (by decide) (by decide) (nI_hi (by omega)) (by show _ < 700; omega) rfl d_Model_match_352 ?_
  refine c_Vr (as := [.int (nI A), .int (nI K), .int (nI p), .int (s.2 5 v)]) kv_Model_isWished ml_Model_221 rfl mw_f (m_W_isWished (d := d + 2) hmn (nI_hi (by omega)) (nI_hi (by omega)) hR hW bA) rfl (Nat.le_of_ble_eq_true rfl) rfl d_Model_match_353 rfl ?_
  refine g_if_eq (tgt := 363) d_Model_match_356 (by decide) (fun c_356 => ?_) (fun c_356 => ?_)
  · exact absurd c_356 hi
  refine g_iconst (v := 1) d_Model_match_359 (by decide) ?_
  refine g_goto (tgt := 364) d_Model_match_360 (by decide) ?_
  refine g_istore d_Model_match_364 (by decide) rfl ?_
  refine g_iload d_Model_match_366 rfl ?_
  refine g_istore d_Model_match_368 (by decide) rfl ?_
  refine g_iload d_Model_match_370 rfl ?_
  refine g_if_eq (tgt := 385) d_Model_match_372 (by decide) (fun c_372 => ?_) (fun c_372 => absurd c_372 (by decide))
  refine g_iload d_Model_match_385 rfl ?_
  refine g_if_eq (tgt := 409) d_Model_match_387 (by decide) (fun c_387 => absurd c_387 (by decide)) (fun c_387 => ?_)
  refine g_aload_n d_Model_match_390 rfl ?_
  refine g_iload_n d_Model_match_391 rfl ?_
  refine g_iload d_Model_match_392 rfl ?_
  refine g_iload d_Model_match_394 rfl ?_
  refine g_aload_n d_Model_match_396 rfl ?_
  refine w_get (k := 8) fl_Model_25 (by decide) rfl d_Model_match_397 ?_
  refine g_iload d_Model_match_400 rfl ?_
  refine w_ald (j := 5) (q := v) (x := s.2 5 v) hmn (by decide) (by decide) (nI_hi (by omega)) (by show _ < 700; omega) rfl d_Model_match_402 ?_
  refine c_Vr (as := [.int (nI A), .int (nI K), .int (nI p), .int (s.2 5 v)]) kv_Model_below ml_Model_271 rfl mw_f (m_W_below (d := d + 1) hmn (nI_hi (by omega)) (nI_hi (by omega)) hR hW bA) rfl (Nat.le_of_ble_eq_true rfl) rfl d_Model_match_403 rfl ?_
  refine g_goto (tgt := 418) d_Model_match_406 (by decide) ?_
  refine g_istore d_Model_match_418 (by decide) rfl ?_
  refine g_aload_n d_Model_match_420 rfl ?_
  refine g_iload_n d_Model_match_421 rfl ?_
  refine g_iload d_Model_match_422 rfl ?_
  refine g_iload d_Model_match_424 rfl ?_
  refine g_iload d_Model_match_426 rfl ?_
  refine g_aload_n d_Model_match_428 rfl ?_
  refine w_get (k := 8) fl_Model_25 (by decide) rfl d_Model_match_429 ?_
  refine g_iload d_Model_match_432 rfl ?_
  refine w_ald (j := 5) (q := v) (x := s.2 5 v) hmn (by decide) (by decide) (nI_hi (by omega)) (by show _ < 700; omega) rfl d_Model_match_434 ?_
  refine g_iload d_Model_match_435 rfl ?_
  exact kk
set_option maxHeartbeats 400000 in
set_option maxRecDepth 100000 in
theorem m_W_mt_n0 (hmn : m < n) {x q2 pa b6 q7 : Int32} {A K p q v t : Nat} (bp : p < 2200) (h25 : s.2 25 p = nI v) (bv : v < 700) (h21 : s.2 21 p = nI t) (bt : t < 16) (bq : q < 1001) (hm : s.2 0 t ≤ 1) (hR : ∀ R, R < A + K → ¬ s.2 27 R < 0 ∧ tn (s.2 27 R) ≤ 26) (hW : ∀ R, R < A + K → ∀ j, j < tn (s.2 27 R) → ¬ s.2 29 (26 * R + j) < 0 ∧ tn (s.2 29 (26 * R + j)) < 700) (bA : A + K ≤ 41640) (hi : rIsW s A (nI p) (s.2 5 v) K = 0) (kk : GT E Y_Model_match (d + 4) G0 437 [(0, .ref m), (1, .int x), (2, .int q2), (3, .int (nI A)), (4, .int (nI K)), (5, .int (nI q)), (6, .int (s.2 15 q - 1)), (7, .int q7), (8, .int (nI p)), (9, .int (nI q)), (10, .int (nI v)), (11, .int 0), (12, .int 0)] [.int 0, .int (s.2 5 v), .int 0, .int (nI p), .int (nI K), .int (nI A), .ref m] (mW E G m n s) Q) : GT E Y_Model_match (d + 4) G0 303 [(0, .ref m), (1, .int x), (2, .int q2), (3, .int (nI A)), (4, .int (nI K)), (5, .int (pa)), (6, .int (b6)), (7, .int q7), (8, .int (nI p)), (9, .int (nI q))] [] (mW E G m n s) Q := by
  refine g_aload_n d_Model_match_303 rfl ?_
  refine w_get (k := 40) fl_Model_87 (by decide) rfl d_Model_match_304 ?_
  refine g_iload d_Model_match_307 rfl ?_
  refine w_ald (j := 25) (q := p) (x := nI v) hmn (by decide) (by decide) (nI_hi (by omega)) (by show _ < 2200; omega) h25 d_Model_match_309 ?_
  refine g_istore d_Model_match_310 (by decide) rfl ?_
  refine g_aload_n d_Model_match_312 rfl ?_
  refine w_get (k := 1) fl_Model_7 (by decide) rfl d_Model_match_313 ?_
  refine g_aload_n d_Model_match_316 rfl ?_
  refine w_get (k := 36) fl_Model_74 (by decide) rfl d_Model_match_317 ?_
  refine g_iload d_Model_match_320 rfl ?_
  refine w_ald (j := 21) (q := p) (x := nI t) hmn (by decide) (by decide) (nI_hi (by omega)) (by show _ < 2200; omega) h21 d_Model_match_322 ?_
  refine w_ald (j := 0) (q := t) (x := s.2 0 t) hmn (by decide) (by decide) (nI_hi (by omega)) (by show _ < 16; omega) rfl d_Model_match_323 ?_
  refine g_iconst (v := 1) d_Model_match_324 (by decide) ?_
  refine g_icmp_le (tgt := 332) d_Model_match_325 (by decide) (fun c_325 => ?_) (fun c_325 => ?_)
  rotate_left
  · exact absurd c_325 (fun y => y hm)
  refine g_iconst (v := 0) d_Model_match_332 (by decide) ?_
  refine g_istore d_Model_match_333 (by decide) rfl ?_
  refine g_iload d_Model_match_335 rfl ?_
  refine g_if_ne (tgt := 359) d_Model_match_337 (by decide) (fun c_337 => absurd c_337 (by decide)) (fun c_337 => ?_)
  refine g_aload_n d_Model_match_340 rfl ?_
  refine g_iload_n d_Model_match_341 rfl ?_
  refine g_iload d_Model_match_342 rfl ?_
  refine g_iload d_Model_match_344 rfl ?_
  refine g_aload_n d_Model_match_346 rfl ?_
  refine w_get (k := 8) fl_Model_25 (by decide) rfl d_Model_match_347 ?_
  refine g_iload d_Model_match_350 rfl ?_
  refine w_ald (j := 5) (q := v) (x := s.2 5 v) hmn (by decide) (by decide) (nI_hi (by omega)) (by show _ < 700; omega) rfl d_Model_match_352 ?_
  refine c_Vr (as := [.int (nI A), .int (nI K), .int (nI p), .int (s.2 5 v)]) kv_Model_isWished ml_Model_221 rfl mw_f (m_W_isWished (d := d + 2) hmn (nI_hi (by omega)) (nI_hi (by omega)) hR hW bA) rfl (Nat.le_of_ble_eq_true rfl) rfl d_Model_match_353 rfl ?_
  refine g_if_eq (tgt := 363) d_Model_match_356 (by decide) (fun c_356 => ?_) (fun c_356 => ?_)
  rotate_left
  · exact absurd c_356 (fun y => y hi)
  refine g_iconst (v := 0) d_Model_match_363 (by decide) ?_
  refine g_istore d_Model_match_364 (by decide) rfl ?_
  refine g_iload d_Model_match_366 rfl ?_
  refine g_istore d_Model_match_368 (by decide) rfl ?_
  refine g_iload d_Model_match_370 rfl ?_
  refine g_if_eq (tgt := 385) d_Model_match_372 (by decide) (fun c_372 => ?_) (fun c_372 => absurd c_372 (by decide))
  refine g_iload d_Model_match_385 rfl ?_
  refine g_if_eq (tgt := 409) d_Model_match_387 (by decide) (fun c_387 => ?_) (fun c_387 => absurd c_387 (by decide))
  refine g_aload_n d_Model_match_409 rfl ?_
  refine w_get (k := 29) fl_Model_56 (by decide) rfl d_Model_match_410 ?_
  refine g_iload d_Model_match_413 rfl ?_
  refine w_ald (j := 15) (q := q) (x := s.2 15 q) hmn (by decide) (by decide) (nI_hi (by omega)) (by show _ < 1001; omega) rfl d_Model_match_415 ?_
  refine g_iconst (v := 1) d_Model_match_416 (by decide) ?_
  refine g_isub d_Model_match_417 ?_
  refine g_istore d_Model_match_418 (by decide) rfl ?_
  refine g_aload_n d_Model_match_420 rfl ?_
  refine g_iload_n d_Model_match_421 rfl ?_
  refine g_iload d_Model_match_422 rfl ?_
  refine g_iload d_Model_match_424 rfl ?_
  refine g_iload d_Model_match_426 rfl ?_
  refine g_aload_n d_Model_match_428 rfl ?_
  refine w_get (k := 8) fl_Model_25 (by decide) rfl d_Model_match_429 ?_
  refine g_iload d_Model_match_432 rfl ?_
  refine w_ald (j := 5) (q := v) (x := s.2 5 v) hmn (by decide) (by decide) (nI_hi (by omega)) (by show _ < 700; omega) rfl d_Model_match_434 ?_
  refine g_iload d_Model_match_435 rfl ?_
  exact kk
set_option maxHeartbeats 400000 in
set_option maxRecDepth 100000 in
theorem m_W_mt_l1 (hmn : m < n) {x q2 b6 q7 iz : Int32} {A K p q v t w ar k : Nat} {p' : Nat} (bp : p < 2200) (bv : v < 700) (h21 : s.2 21 p = nI t) (bt : t < 16) (h5 : s.2 5 v = nI w) (bw : w < 8) (h1 : s.2 1 (8 * t + w) = nI ar) (bar : ar ≤ 4) (hk : k < ar) (h22 : s.2 22 (32 * p + 4 * w + k) = nI p') (b0 : 0 < p') (b1 : p' < 2200) (kk : GT E Y_Model_match (d + 4) G0 443 [(0, .ref m), (1, .int x), (2, .int q2), (3, .int (nI A)), (4, .int (nI K)), (5, .int (nI q)), (6, .int (b6)), (7, .int q7), (8, .int (nI p)), (9, .int (nI q)), (10, .int (nI v)), (11, .int 1), (12, .int iz), (13, .int (nI (k + 1)))] [] (mW E G m n (wA s 25 p' (s.2 6 (4 * v + k)))) Q) : GT E Y_Model_match (d + 4) G0 443 [(0, .ref m), (1, .int x), (2, .int q2), (3, .int (nI A)), (4, .int (nI K)), (5, .int (nI q)), (6, .int (b6)), (7, .int q7), (8, .int (nI p)), (9, .int (nI q)), (10, .int (nI v)), (11, .int 1), (12, .int iz), (13, .int (nI k))] [] (mW E G m n s) Q := by
  refine g_iload d_Model_match_443 rfl ?_
  refine g_if_eq (tgt := 531) d_Model_match_445 (by decide) (fun c_445 => absurd c_445 (by decide)) (fun c_445 => ?_)
  refine g_iload d_Model_match_448 rfl ?_
  refine g_aload_n d_Model_match_450 rfl ?_
  refine w_get (k := 2) fl_Model_13 (by decide) rfl d_Model_match_451 ?_
  refine g_bipush (v := 8) d_Model_match_454 (by decide) ?_
  refine g_aload_n d_Model_match_456 rfl ?_
  refine w_get (k := 36) fl_Model_74 (by decide) rfl d_Model_match_457 ?_
  refine g_iload d_Model_match_460 rfl ?_
  refine w_ald (j := 21) (q := p) (x := nI t) hmn (by decide) (by decide) (nI_hi (by omega)) (by show _ < 2200; omega) h21 d_Model_match_462 ?_
  refine g_imul d_Model_match_463 ?_
  refine g_aload_n d_Model_match_464 rfl ?_
  refine w_get (k := 8) fl_Model_25 (by decide) rfl d_Model_match_465 ?_
  refine g_iload d_Model_match_468 rfl ?_
  refine w_ald (j := 5) (q := v) (x := nI w) hmn (by decide) (by decide) (nI_hi (by omega)) (by show _ < 700; omega) h5 d_Model_match_470 ?_
  refine g_iadd d_Model_match_471 ?_
  refine w_ald (j := 1) (q := 8 * t + w) (x := nI ar) hmn (by decide) (by decide) (add_hi (mul_hi i8 (nI_hi (n := t) (by omega)) (by omega)) (nI_hi (n := w) (by omega)) (by omega)) (by show _ < 128; omega) h1 d_Model_match_472 ?_
  refine g_icmp_ge (tgt := 531) d_Model_match_473 (by decide) (fun c_473 => ?_) (fun c_473 => ?_)
  · exact absurd c_473 (fun y => absurd ((le_hi (nI_hi (n := ar) (by omega)) (nI_hi (n := k) (by omega))).mp y) (by omega))
  refine g_aload_n d_Model_match_476 rfl ?_
  refine w_get (k := 37) fl_Model_78 (by decide) rfl d_Model_match_477 ?_
  refine g_bipush (v := 32) d_Model_match_480 (by decide) ?_
  refine g_iload d_Model_match_482 rfl ?_
  refine g_imul d_Model_match_484 ?_
  refine g_iconst (v := 4) d_Model_match_485 (by decide) ?_
  refine g_aload_n d_Model_match_486 rfl ?_
  refine w_get (k := 8) fl_Model_25 (by decide) rfl d_Model_match_487 ?_
  refine g_iload d_Model_match_490 rfl ?_
  refine w_ald (j := 5) (q := v) (x := nI w) hmn (by decide) (by decide) (nI_hi (by omega)) (by show _ < 700; omega) h5 d_Model_match_492 ?_
  refine g_imul d_Model_match_493 ?_
  refine g_iadd d_Model_match_494 ?_
  refine g_iload d_Model_match_495 rfl ?_
  refine g_iadd d_Model_match_497 ?_
  refine w_ald (j := 22) (q := 32 * p + 4 * w + k) (x := nI p') hmn (by decide) (by decide) (add_hi (add_hi (mul_hi (show (32 : Int32).toInt = ((32 : Nat) : Int) by decide) (nI_hi (n := p) (by omega)) (by omega)) (mul_hi (show (4 : Int32).toInt = ((4 : Nat) : Int) by decide) (nI_hi (n := w) (by omega)) (by omega)) (by omega)) (nI_hi (n := k) (by omega)) (by omega)) (by show _ < 70400; omega) h22 d_Model_match_498 ?_
  refine g_istore d_Model_match_499 (by decide) rfl ?_
  refine g_iload d_Model_match_501 rfl ?_
  refine g_if_le (tgt := 525) d_Model_match_503 (by decide) (fun c_503 => ?_) (fun c_503 => ?_)
  · exact absurd c_503 (fun y => absurd ((le_hi (nI_hi (n := p') (by omega)) (show (0 : Int32).toInt = ((0 : Nat) : Int) by decide)).mp y) (by omega))
  refine g_aload_n d_Model_match_506 rfl ?_
  refine w_get (k := 40) fl_Model_87 (by decide) rfl d_Model_match_507 ?_
  refine g_iload d_Model_match_510 rfl ?_
  refine g_aload_n d_Model_match_512 rfl ?_
  refine w_get (k := 9) fl_Model_28 (by decide) rfl d_Model_match_513 ?_
  refine g_iconst (v := 4) d_Model_match_516 (by decide) ?_
  refine g_iload d_Model_match_517 rfl ?_
  refine g_imul d_Model_match_519 ?_
  refine g_iload d_Model_match_520 rfl ?_
  refine g_iadd d_Model_match_522 ?_
  refine w_ald (j := 6) (q := 4 * v + k) (x := s.2 6 (4 * v + k)) hmn (by decide) (by decide) (add_hi (mul_hi (show (4 : Int32).toInt = ((4 : Nat) : Int) by decide) (nI_hi (n := v) (by omega)) (by omega)) (nI_hi (n := k) (by omega)) (by omega)) (by show _ < 2800; omega) rfl d_Model_match_523 ?_
  refine w_ast (j := 25) (q := p') hmn (by decide) (by decide) (nI_hi (by omega)) (by show _ < 2200; omega) d_Model_match_524 ?_
  refine g_iinc (v := nI k + 1) d_Model_match_525 rfl (by rfl) (by decide) rfl ?_
  refine g_goto (tgt := 443) d_Model_match_528 (by decide) ?_
  exact g_weak (lv := [(0, .ref (m)), (1, .int (x)), (2, .int (q2)), (3, .int (nI A)), (4, .int (nI K)), (5, .int (nI q)), (6, .int (b6)), (7, .int (q7)), (8, .int (nI p)), (9, .int (nI q)), (10, .int (nI v)), (11, .int (1)), (12, .int (iz)), (13, .int (nI k + 1)), (14, .int (nI p'))]) (by simp [nI_1]) (by simp) kk
set_option maxHeartbeats 400000 in
set_option maxRecDepth 100000 in
theorem m_W_mt_l0 (hmn : m < n) {x q2 b6 q7 iz : Int32} {A K p q v t w ar k : Nat} (bp : p < 2200) (bv : v < 700) (h21 : s.2 21 p = nI t) (bt : t < 16) (h5 : s.2 5 v = nI w) (bw : w < 8) (h1 : s.2 1 (8 * t + w) = nI ar) (bar : ar ≤ 4) (hk : k < ar) (h22 : s.2 22 (32 * p + 4 * w + k) = 0) (kk : GT E Y_Model_match (d + 4) G0 443 [(0, .ref m), (1, .int x), (2, .int q2), (3, .int (nI A)), (4, .int (nI K)), (5, .int (nI q)), (6, .int (b6)), (7, .int q7), (8, .int (nI p)), (9, .int (nI q)), (10, .int (nI v)), (11, .int 1), (12, .int iz), (13, .int (nI (k + 1)))] [] (mW E G m n s) Q) : GT E Y_Model_match (d + 4) G0 443 [(0, .ref m), (1, .int x), (2, .int q2), (3, .int (nI A)), (4, .int (nI K)), (5, .int (nI q)), (6, .int (b6)), (7, .int q7), (8, .int (nI p)), (9, .int (nI q)), (10, .int (nI v)), (11, .int 1), (12, .int iz), (13, .int (nI k))] [] (mW E G m n s) Q := by
  refine g_iload d_Model_match_443 rfl ?_
  refine g_if_eq (tgt := 531) d_Model_match_445 (by decide) (fun c_445 => absurd c_445 (by decide)) (fun c_445 => ?_)
  refine g_iload d_Model_match_448 rfl ?_
  refine g_aload_n d_Model_match_450 rfl ?_
  refine w_get (k := 2) fl_Model_13 (by decide) rfl d_Model_match_451 ?_
  refine g_bipush (v := 8) d_Model_match_454 (by decide) ?_
  refine g_aload_n d_Model_match_456 rfl ?_
  refine w_get (k := 36) fl_Model_74 (by decide) rfl d_Model_match_457 ?_
  refine g_iload d_Model_match_460 rfl ?_
  refine w_ald (j := 21) (q := p) (x := nI t) hmn (by decide) (by decide) (nI_hi (by omega)) (by show _ < 2200; omega) h21 d_Model_match_462 ?_
  refine g_imul d_Model_match_463 ?_
  refine g_aload_n d_Model_match_464 rfl ?_
  refine w_get (k := 8) fl_Model_25 (by decide) rfl d_Model_match_465 ?_
  refine g_iload d_Model_match_468 rfl ?_
  refine w_ald (j := 5) (q := v) (x := nI w) hmn (by decide) (by decide) (nI_hi (by omega)) (by show _ < 700; omega) h5 d_Model_match_470 ?_
  refine g_iadd d_Model_match_471 ?_
  refine w_ald (j := 1) (q := 8 * t + w) (x := nI ar) hmn (by decide) (by decide) (add_hi (mul_hi i8 (nI_hi (n := t) (by omega)) (by omega)) (nI_hi (n := w) (by omega)) (by omega)) (by show _ < 128; omega) h1 d_Model_match_472 ?_
  refine g_icmp_ge (tgt := 531) d_Model_match_473 (by decide) (fun c_473 => ?_) (fun c_473 => ?_)
  · exact absurd c_473 (fun y => absurd ((le_hi (nI_hi (n := ar) (by omega)) (nI_hi (n := k) (by omega))).mp y) (by omega))
  refine g_aload_n d_Model_match_476 rfl ?_
  refine w_get (k := 37) fl_Model_78 (by decide) rfl d_Model_match_477 ?_
  refine g_bipush (v := 32) d_Model_match_480 (by decide) ?_
  refine g_iload d_Model_match_482 rfl ?_
  refine g_imul d_Model_match_484 ?_
  refine g_iconst (v := 4) d_Model_match_485 (by decide) ?_
  refine g_aload_n d_Model_match_486 rfl ?_
  refine w_get (k := 8) fl_Model_25 (by decide) rfl d_Model_match_487 ?_
  refine g_iload d_Model_match_490 rfl ?_
  refine w_ald (j := 5) (q := v) (x := nI w) hmn (by decide) (by decide) (nI_hi (by omega)) (by show _ < 700; omega) h5 d_Model_match_492 ?_
  refine g_imul d_Model_match_493 ?_
  refine g_iadd d_Model_match_494 ?_
  refine g_iload d_Model_match_495 rfl ?_
  refine g_iadd d_Model_match_497 ?_
  refine w_ald (j := 22) (q := 32 * p + 4 * w + k) (x := 0) hmn (by decide) (by decide) (add_hi (add_hi (mul_hi (show (32 : Int32).toInt = ((32 : Nat) : Int) by decide) (nI_hi (n := p) (by omega)) (by omega)) (mul_hi (show (4 : Int32).toInt = ((4 : Nat) : Int) by decide) (nI_hi (n := w) (by omega)) (by omega)) (by omega)) (nI_hi (n := k) (by omega)) (by omega)) (by show _ < 70400; omega) h22 d_Model_match_498 ?_
  refine g_istore d_Model_match_499 (by decide) rfl ?_
  refine g_iload d_Model_match_501 rfl ?_
  refine g_if_le (tgt := 525) d_Model_match_503 (by decide) (fun c_503 => ?_) (fun c_503 => absurd c_503 (by decide))
  refine g_iinc (v := nI k + 1) d_Model_match_525 rfl (by rfl) (by decide) rfl ?_
  refine g_goto (tgt := 443) d_Model_match_528 (by decide) ?_
  exact g_weak (lv := [(0, .ref (m)), (1, .int (x)), (2, .int (q2)), (3, .int (nI A)), (4, .int (nI K)), (5, .int (nI q)), (6, .int (b6)), (7, .int (q7)), (8, .int (nI p)), (9, .int (nI q)), (10, .int (nI v)), (11, .int (1)), (12, .int (iz)), (13, .int (nI k + 1)), (14, .int (0))]) (by simp [nI_1]) (by simp) kk
set_option maxHeartbeats 400000 in
set_option maxRecDepth 100000 in
theorem m_W_mt_le (hmn : m < n) {x q2 b6 q7 iz : Int32} {A K p q v t w ar k : Nat} (bp : p < 2200) (bv : v < 700) (h21 : s.2 21 p = nI t) (bt : t < 16) (h5 : s.2 5 v = nI w) (bw : w < 8) (h1 : s.2 1 (8 * t + w) = nI ar) (bar : ar ≤ 4) (hk : k = ar) (kk : GT E Y_Model_match (d + 4) G0 115 [(0, .ref m), (1, .int x), (2, .int q2), (3, .int (q7)), (4, .int (s.1 46 - q7)), (5, .int (nI q)), (6, .int (b6))] [] (mW E G m n s) Q) : GT E Y_Model_match (d + 4) G0 443 [(0, .ref m), (1, .int x), (2, .int q2), (3, .int (nI A)), (4, .int (nI K)), (5, .int (nI q)), (6, .int (b6)), (7, .int q7), (8, .int (nI p)), (9, .int (nI q)), (10, .int (nI v)), (11, .int 1), (12, .int iz), (13, .int (nI k))] [] (mW E G m n s) Q := by
  refine g_iload d_Model_match_443 rfl ?_
  refine g_if_eq (tgt := 531) d_Model_match_445 (by decide) (fun c_445 => absurd c_445 (by decide)) (fun c_445 => ?_)
  refine g_iload d_Model_match_448 rfl ?_
  refine g_aload_n d_Model_match_450 rfl ?_
  refine w_get (k := 2) fl_Model_13 (by decide) rfl d_Model_match_451 ?_
  refine g_bipush (v := 8) d_Model_match_454 (by decide) ?_
  refine g_aload_n d_Model_match_456 rfl ?_
  refine w_get (k := 36) fl_Model_74 (by decide) rfl d_Model_match_457 ?_
  refine g_iload d_Model_match_460 rfl ?_
  refine w_ald (j := 21) (q := p) (x := nI t) hmn (by decide) (by decide) (nI_hi (by omega)) (by show _ < 2200; omega) h21 d_Model_match_462 ?_
  refine g_imul d_Model_match_463 ?_
  refine g_aload_n d_Model_match_464 rfl ?_
  refine w_get (k := 8) fl_Model_25 (by decide) rfl d_Model_match_465 ?_
  refine g_iload d_Model_match_468 rfl ?_
  refine w_ald (j := 5) (q := v) (x := nI w) hmn (by decide) (by decide) (nI_hi (by omega)) (by show _ < 700; omega) h5 d_Model_match_470 ?_
  refine g_iadd d_Model_match_471 ?_
  refine w_ald (j := 1) (q := 8 * t + w) (x := nI ar) hmn (by decide) (by decide) (add_hi (mul_hi i8 (nI_hi (n := t) (by omega)) (by omega)) (nI_hi (n := w) (by omega)) (by omega)) (by show _ < 128; omega) h1 d_Model_match_472 ?_
  refine g_icmp_ge (tgt := 531) d_Model_match_473 (by decide) (fun c_473 => ?_) (fun c_473 => ?_)
  rotate_left
  · exact absurd c_473 (fun y => y (by rw [hk]; exact Int32.le_refl _))
  refine g_iload d_Model_match_531 rfl ?_
  refine g_istore_n d_Model_match_533 (by decide) rfl ?_
  refine g_aload_n d_Model_match_534 rfl ?_
  refine w_get (k := 46) (x := .int (s.1 46)) fl_Model_192 (by decide) rfl d_Model_match_535 ?_
  refine g_iload d_Model_match_538 rfl ?_
  refine g_isub d_Model_match_540 ?_
  refine g_istore d_Model_match_541 (by decide) rfl ?_
  refine g_goto (tgt := 115) d_Model_match_543 (by decide) ?_
  exact g_weak (lv := [(0, .ref (m)), (1, .int (x)), (2, .int (q2)), (3, .int (q7)), (4, .int ((s.1 46) - (q7))), (5, .int (nI q)), (6, .int (b6)), (7, .int (q7)), (8, .int (nI p)), (9, .int (nI q)), (10, .int (nI v)), (11, .int (1)), (12, .int (iz)), (13, .int (nI k))]) (by simp) (by simp) (kk)
set_option maxHeartbeats 400000 in
set_option maxRecDepth 100000 in
theorem m_W_mt_ln (hmn : m < n) {x q2 b6 q7 iz : Int32} {A K p q v t w ar k : Nat} (kk : GT E Y_Model_match (d + 4) G0 115 [(0, .ref m), (1, .int x), (2, .int q2), (3, .int (q7)), (4, .int (s.1 46 - q7)), (5, .int (nI q)), (6, .int (b6))] [] (mW E G m n s) Q) : GT E Y_Model_match (d + 4) G0 443 [(0, .ref m), (1, .int x), (2, .int q2), (3, .int (nI A)), (4, .int (nI K)), (5, .int (nI q)), (6, .int (b6)), (7, .int q7), (8, .int (nI p)), (9, .int (nI q)), (10, .int (nI v)), (11, .int 0), (12, .int iz), (13, .int (nI k))] [] (mW E G m n s) Q := by
  refine g_iload d_Model_match_443 rfl ?_
  refine g_if_eq (tgt := 531) d_Model_match_445 (by decide) (fun c_445 => ?_) (fun c_445 => absurd c_445 (by decide))
  refine g_iload d_Model_match_531 rfl ?_
  refine g_istore_n d_Model_match_533 (by decide) rfl ?_
  refine g_aload_n d_Model_match_534 rfl ?_
  refine w_get (k := 46) (x := .int (s.1 46)) fl_Model_192 (by decide) rfl d_Model_match_535 ?_
  refine g_iload d_Model_match_538 rfl ?_
  refine g_isub d_Model_match_540 ?_
  refine g_istore d_Model_match_541 (by decide) rfl ?_
  refine g_goto (tgt := 115) d_Model_match_543 (by decide) ?_
  exact g_weak (lv := [(0, .ref (m)), (1, .int (x)), (2, .int (q2)), (3, .int (q7)), (4, .int ((s.1 46) - (q7))), (5, .int (nI q)), (6, .int (b6)), (7, .int (q7)), (8, .int (nI p)), (9, .int (nI q)), (10, .int (nI v)), (11, .int (0)), (12, .int (iz)), (13, .int (nI k))]) (by simp) (by simp) (kk)
set_option maxHeartbeats 400000 in
set_option maxRecDepth 100000 in
theorem m_W_mt_k (hmn : m < n) {x q2 b6 q7 iz md : Int32} {A K p q v : Nat} (kk : GT E Y_Model_match (d + 4) G0 443 [(0, .ref m), (1, .int x), (2, .int q2), (3, .int (nI A)), (4, .int (nI K)), (5, .int (nI q)), (6, .int (b6)), (7, .int q7), (8, .int (nI p)), (9, .int (nI q)), (10, .int (nI v)), (11, .int md), (12, .int iz), (13, .int (0))] [] (mW E G m n s) Q) : GT E Y_Model_match (d + 4) G0 440 [(0, .ref m), (1, .int x), (2, .int q2), (3, .int (nI A)), (4, .int (nI K)), (5, .int (nI q)), (6, .int (b6)), (7, .int q7), (8, .int (nI p)), (9, .int (nI q)), (10, .int (nI v)), (11, .int md), (12, .int iz)] [] (mW E G m n s) Q := by
  refine g_iconst (v := 0) d_Model_match_440 (by decide) ?_
  refine g_istore d_Model_match_441 (by decide) rfl ?_
  exact kk
end NA
