/-! The reference: build, its steps -/
section MU
variable {E : gE} {d : Nat} {G G0 : gS} {m n : Nat} {s : mS} {Q : gO → gS → Prop}
set_option maxHeartbeats 400000 in
set_option maxRecDepth 100000 in
theorem m_W_b_out (hmn : m < n) {D : Nat} {wy fr : Int32} (bD : D < 520) (h47 : ¬ s.1 47 = 0) (kk : GT E Y_Model_build (d + 5) G0 474 [(0, .ref m), (1, .int (nI D)), (2, .int (wy)), (3, .int (fr))] [] (mW E G m n s) Q) : GT E Y_Model_build (d + 5) G0 145 [(0, .ref m), (1, .int (nI D)), (2, .int (wy)), (3, .int (fr))] [] (mW E G m n s) Q := by
  refine g_iload_n d_Model_build_145 rfl ?_
  refine g_if_lt (tgt := 474) d_Model_build_146 (by decide) (fun c_146 => ?_) (fun c_146 => ?_)
  · exact absurd c_146 (fun y => absurd y (nI_pos (by omega)))
  refine g_aload_n d_Model_build_149 rfl ?_
  refine w_get (k := 47) (x := .int (s.1 47)) fl_Model_195 (by decide) rfl d_Model_build_150 ?_
  refine g_if_ne (tgt := 474) d_Model_build_153 (by decide) (fun c_153 => ?_) (fun c_153 => ?_)
  rotate_left
  · exact absurd c_153 h47
  exact kk
set_option maxHeartbeats 400000 in
set_option maxRecDepth 100000 in
theorem m_W_b_end (hmn : m < n) {dd wy fr : Int32} (hd : dd < 0) (kk : GT E Y_Model_build (d + 5) G0 474 [(0, .ref m), (1, .int (dd)), (2, .int (wy)), (3, .int (fr))] [] (mW E G m n s) Q) : GT E Y_Model_build (d + 5) G0 145 [(0, .ref m), (1, .int (dd)), (2, .int (wy)), (3, .int (fr))] [] (mW E G m n s) Q := by
  refine g_iload_n d_Model_build_145 rfl ?_
  refine g_if_lt (tgt := 474) d_Model_build_146 (by decide) (fun c_146 => ?_) (fun c_146 => ?_)
  rotate_left
  · exact absurd c_146 (fun y => y hd)
  exact kk
set_option maxHeartbeats 400000 in
set_option maxRecDepth 100000 in
theorem m_W_b_back (hmn : m < n) {D : Nat} {wy : Int32} (bD : D < 520) (h47 : s.1 47 = 0) (kk : GT E Y_Model_build (d + 5) G0 361 [(0, .ref m), (1, .int (nI D)), (2, .int (wy)), (3, .int (0)), (4, .int (0))] [] (mW E G m n s) Q) : GT E Y_Model_build (d + 5) G0 145 [(0, .ref m), (1, .int (nI D)), (2, .int (wy)), (3, .int (0))] [] (mW E G m n s) Q := by
  refine g_iload_n d_Model_build_145 rfl ?_
  refine g_if_lt (tgt := 474) d_Model_build_146 (by decide) (fun c_146 => ?_) (fun c_146 => ?_)
  · exact absurd c_146 (fun y => absurd y (nI_pos (by omega)))
  refine g_aload_n d_Model_build_149 rfl ?_
  refine w_get (k := 47) (x := .int (s.1 47)) fl_Model_195 (by decide) rfl d_Model_build_150 ?_
  refine g_if_ne (tgt := 474) d_Model_build_153 (by decide) (fun c_153 => ?_) (fun c_153 => ?_)
  · exact absurd c_153 (fun y => y h47)
  refine g_iconst (v := 0) d_Model_build_156 (by decide) ?_
  refine g_istore d_Model_build_157 (by decide) rfl ?_
  refine g_iload_n d_Model_build_159 rfl ?_
  refine g_if_eq (tgt := 361) d_Model_build_160 (by decide) (fun c_160 => ?_) (fun c_160 => absurd c_160 (by decide))
  exact kk
set_option maxHeartbeats 400000 in
set_option maxRecDepth 100000 in
theorem m_W_b_up (hmn : m < n) {D : Nat} {wy fr : Int32} (bD : D < 520) (h47 : s.1 47 = 0) (h33 : s.2 33 D = -1) (kk : GT E Y_Model_build (d + 5) G0 145 [(0, .ref m), (1, .int (nI D + (-1))), (2, .int (wy)), (3, .int (0))] [] (mW E G m n s) Q) : GT E Y_Model_build (d + 5) G0 361 [(0, .ref m), (1, .int (nI D)), (2, .int (wy)), (3, .int (fr)), (4, .int (0))] [] (mW E G m n s) Q := by
  refine g_aload_n d_Model_build_361 rfl ?_
  refine w_get (k := 47) (x := .int (s.1 47)) fl_Model_195 (by decide) rfl d_Model_build_362 ?_
  refine g_if_ne (tgt := 398) d_Model_build_365 (by decide) (fun c_365 => ?_) (fun c_365 => ?_)
  · exact absurd c_365 (fun y => y h47)
  refine g_aload_n d_Model_build_368 rfl ?_
  refine w_get (k := 50) fl_Model_114 (by decide) rfl d_Model_build_369 ?_
  refine g_iload_n d_Model_build_372 rfl ?_
  refine w_ald (j := 33) (q := D) (x := s.2 33 (D)) hmn (by decide) (by decide) (nI_hi (by omega)) (by show _ < 520; omega) rfl d_Model_build_373 ?_
  refine g_iconst (v := (-1)) d_Model_build_374 (by decide) ?_
  refine g_icmp_eq (tgt := 398) d_Model_build_375 (by decide) (fun c_375 => ?_) (fun c_375 => ?_)
  rotate_left
  · exact absurd c_375 (fun y => y h33)
  refine g_aload_n d_Model_build_398 rfl ?_
  refine w_get (k := 47) (x := .int (s.1 47)) fl_Model_195 (by decide) rfl d_Model_build_399 ?_
  refine g_if_eq (tgt := 408) d_Model_build_402 (by decide) (fun c_402 => ?_) (fun c_402 => ?_)
  rotate_left
  · exact absurd c_402 (fun y => y h47)
  refine g_iload d_Model_build_408 rfl ?_
  refine g_if_eq (tgt := 455) d_Model_build_410 (by decide) (fun c_410 => ?_) (fun c_410 => absurd c_410 (by decide))
  refine g_iload_n d_Model_build_455 rfl ?_
  refine g_iload d_Model_build_456 rfl ?_
  refine g_if_eq (tgt := 465) d_Model_build_458 (by decide) (fun c_458 => ?_) (fun c_458 => absurd c_458 (by decide))
  refine g_iconst (v := (-1)) d_Model_build_465 (by decide) ?_
  refine g_iadd d_Model_build_466 ?_
  refine g_istore_n d_Model_build_467 (by decide) rfl ?_
  refine g_iload d_Model_build_468 rfl ?_
  refine g_istore_n d_Model_build_470 (by decide) rfl ?_
  refine g_goto (tgt := 145) d_Model_build_471 (by decide) ?_
  exact g_weak (lv := [(0, .ref (m)), (1, .int ((nI D) + ((-1)))), (2, .int (wy)), (3, .int (0)), (4, .int (0))]) (by simp) (by simp) (kk)
set_option maxHeartbeats 400000 in
set_option maxRecDepth 100000 in
theorem m_W_b_down (hmn : m < n) {D : Nat} {wy fr : Int32} (bD : D + 1 < 520) (h47 : s.1 47 = 0) (h33 : s.2 33 D = -1) (kk : GT E Y_Model_build (d + 5) G0 145 [(0, .ref m), (1, .int (nI (D + 1))), (2, .int (wy)), (3, .int (1))] [] (mW E G m n (wA (wA s 31 (D + 1) (s.2 31 D + s.2 32 D)) 32 (D + 1) (s.1 46 - (s.2 31 D + s.2 32 D)))) Q) : GT E Y_Model_build (d + 5) G0 361 [(0, .ref m), (1, .int (nI D)), (2, .int (wy)), (3, .int (fr)), (4, .int (1))] [] (mW E G m n s) Q := by
  refine g_aload_n d_Model_build_361 rfl ?_
  refine w_get (k := 47) (x := .int (s.1 47)) fl_Model_195 (by decide) rfl d_Model_build_362 ?_
  refine g_if_ne (tgt := 398) d_Model_build_365 (by decide) (fun c_365 => ?_) (fun c_365 => ?_)
  · exact absurd c_365 (fun y => y h47)
  refine g_aload_n d_Model_build_368 rfl ?_
  refine w_get (k := 50) fl_Model_114 (by decide) rfl d_Model_build_369 ?_
  refine g_iload_n d_Model_build_372 rfl ?_
  refine w_ald (j := 33) (q := D) (x := s.2 33 (D)) hmn (by decide) (by decide) (nI_hi (by omega)) (by show _ < 520; omega) rfl d_Model_build_373 ?_
  refine g_iconst (v := (-1)) d_Model_build_374 (by decide) ?_
  refine g_icmp_eq (tgt := 398) d_Model_build_375 (by decide) (fun c_375 => ?_) (fun c_375 => ?_)
  rotate_left
  · exact absurd c_375 (fun y => y h33)
  refine g_aload_n d_Model_build_398 rfl ?_
  refine w_get (k := 47) (x := .int (s.1 47)) fl_Model_195 (by decide) rfl d_Model_build_399 ?_
  refine g_if_eq (tgt := 408) d_Model_build_402 (by decide) (fun c_402 => ?_) (fun c_402 => ?_)
  rotate_left
  · exact absurd c_402 (fun y => y h47)
  refine g_iload d_Model_build_408 rfl ?_
  refine g_if_eq (tgt := 455) d_Model_build_410 (by decide) (fun c_410 => absurd c_410 (by decide)) (fun c_410 => ?_)
  refine g_aload_n d_Model_build_413 rfl ?_
  refine w_get (k := 48) fl_Model_108 (by decide) rfl d_Model_build_414 ?_
  refine g_iload_n d_Model_build_417 rfl ?_
  refine g_iconst (v := 1) d_Model_build_418 (by decide) ?_
  refine g_iadd d_Model_build_419 ?_
  refine g_aload_n d_Model_build_420 rfl ?_
  refine w_get (k := 48) fl_Model_108 (by decide) rfl d_Model_build_421 ?_
  refine g_iload_n d_Model_build_424 rfl ?_
  refine w_ald (j := 31) (q := D) (x := s.2 31 D) hmn (by decide) (by decide) (nI_hi (by omega)) (by show _ < 520; omega) rfl d_Model_build_425 ?_
  refine g_aload_n d_Model_build_426 rfl ?_
  refine w_get (k := 49) fl_Model_111 (by decide) rfl d_Model_build_427 ?_
  refine g_iload_n d_Model_build_430 rfl ?_
  refine w_ald (j := 32) (q := D) (x := s.2 32 D) hmn (by decide) (by decide) (nI_hi (by omega)) (by show _ < 520; omega) rfl d_Model_build_431 ?_
  refine g_iadd d_Model_build_432 ?_
  refine w_ast (j := 31) (q := D + 1) hmn (by decide) (by decide) (add_hi (nI_hi (n := D) (by omega)) i1 (by omega)) (by show _ < 520; omega) d_Model_build_433 ?_
  refine g_aload_n d_Model_build_434 rfl ?_
  refine w_get (k := 49) fl_Model_111 (by decide) rfl d_Model_build_435 ?_
  refine g_iload_n d_Model_build_438 rfl ?_
  refine g_iconst (v := 1) d_Model_build_439 (by decide) ?_
  refine g_iadd d_Model_build_440 ?_
  refine g_aload_n d_Model_build_441 rfl ?_
  refine w_get (k := 46) (x := .int (s.1 46)) fl_Model_192 (by decide) rfl d_Model_build_442 ?_
  refine g_aload_n d_Model_build_445 rfl ?_
  refine w_get (k := 48) fl_Model_108 (by decide) rfl d_Model_build_446 ?_
  refine g_iload_n d_Model_build_449 rfl ?_
  refine g_iconst (v := 1) d_Model_build_450 (by decide) ?_
  refine g_iadd d_Model_build_451 ?_
  refine w_ald (j := 31) (q := D + 1) (x := s.2 31 D + s.2 32 D) hmn (by decide) (by decide) (add_hi (nI_hi (n := D) (by omega)) i1 (by omega)) (by show _ < 520; omega) up_at d_Model_build_452 ?_
  refine g_isub d_Model_build_453 ?_
  refine w_ast (j := 32) (q := D + 1) hmn (by decide) (by decide) (add_hi (nI_hi (n := D) (by omega)) i1 (by omega)) (by show _ < 520; omega) d_Model_build_454 ?_
  refine g_iload_n d_Model_build_455 rfl ?_
  refine g_iload d_Model_build_456 rfl ?_
  refine g_if_eq (tgt := 465) d_Model_build_458 (by decide) (fun c_458 => absurd c_458 (by decide)) (fun c_458 => ?_)
  refine g_iconst (v := 1) d_Model_build_461 (by decide) ?_
  refine g_goto (tgt := 466) d_Model_build_462 (by decide) ?_
  refine g_iadd d_Model_build_466 ?_
  refine g_istore_n d_Model_build_467 (by decide) rfl ?_
  refine g_iload d_Model_build_468 rfl ?_
  refine g_istore_n d_Model_build_470 (by decide) rfl ?_
  refine g_goto (tgt := 145) d_Model_build_471 (by decide) ?_
  rw [nI_1]
  exact g_weak (lv := [(0, .ref (m)), (1, .int (nI (D + 1))), (2, .int (wy)), (3, .int (1)), (4, .int (1))]) (by simp) (by simp) (kk)
set_option maxHeartbeats 400000 in
set_option maxRecDepth 100000 in
theorem m_W_b_q (hmn : m < n) {D : Nat} {wy fr dn : Int32} (bD : D < 520) (h47 : s.1 47 = 0) (h33 : ¬ s.2 33 D = -1) (kk : GT E Y_Model_build (d + 5) G0 380 [(0, .ref m), (1, .int (nI D)), (2, .int (wy)), (3, .int (fr)), (4, .int (dn))] [.int (nI D), .ref m] (mW E G m n s) Q) : GT E Y_Model_build (d + 5) G0 361 [(0, .ref m), (1, .int (nI D)), (2, .int (wy)), (3, .int (fr)), (4, .int (dn))] [] (mW E G m n s) Q := by
  refine g_aload_n d_Model_build_361 rfl ?_
  refine w_get (k := 47) (x := .int (s.1 47)) fl_Model_195 (by decide) rfl d_Model_build_362 ?_
  refine g_if_ne (tgt := 398) d_Model_build_365 (by decide) (fun c_365 => ?_) (fun c_365 => ?_)
  · exact absurd c_365 (fun y => y h47)
  refine g_aload_n d_Model_build_368 rfl ?_
  refine w_get (k := 50) fl_Model_114 (by decide) rfl d_Model_build_369 ?_
  refine g_iload_n d_Model_build_372 rfl ?_
  refine w_ald (j := 33) (q := D) (x := s.2 33 (D)) hmn (by decide) (by decide) (nI_hi (by omega)) (by show _ < 520; omega) rfl d_Model_build_373 ?_
  refine g_iconst (v := (-1)) d_Model_build_374 (by decide) ?_
  refine g_icmp_eq (tgt := 398) d_Model_build_375 (by decide) (fun c_375 => ?_) (fun c_375 => ?_)
  · exact absurd c_375 h33
  refine g_aload_n d_Model_build_378 rfl ?_
  refine g_iload_n d_Model_build_379 rfl ?_
  exact kk
set_option maxHeartbeats 400000 in
set_option maxRecDepth 100000 in
theorem m_W_b_q0 (hmn : m < n) {D : Nat} {wy fr dn : Int32} (bD : D < 520) (h47 : s.1 47 = 0) (kk : GT E Y_Model_build (d + 5) G0 145 [(0, .ref m), (1, .int (nI D + (-1))), (2, .int (wy - 1)), (3, .int (0))] [] (mW E G m n s) Q) : GT E Y_Model_build (d + 5) G0 383 [(0, .ref m), (1, .int (nI D)), (2, .int (wy)), (3, .int (fr)), (4, .int (dn))] [.int 0] (mW E G m n s) Q := by
  refine g_istore d_Model_build_383 (by decide) rfl ?_
  refine g_iload_n d_Model_build_385 rfl ?_
  refine g_iload d_Model_build_386 rfl ?_
  refine g_if_eq (tgt := 395) d_Model_build_388 (by decide) (fun c_388 => ?_) (fun c_388 => absurd c_388 (by decide))
  refine g_iconst (v := 1) d_Model_build_395 (by decide) ?_
  refine g_isub d_Model_build_396 ?_
  refine g_istore_n d_Model_build_397 (by decide) rfl ?_
  refine g_aload_n d_Model_build_398 rfl ?_
  refine w_get (k := 47) (x := .int (s.1 47)) fl_Model_195 (by decide) rfl d_Model_build_399 ?_
  refine g_if_eq (tgt := 408) d_Model_build_402 (by decide) (fun c_402 => ?_) (fun c_402 => ?_)
  rotate_left
  · exact absurd c_402 (fun y => y h47)
  refine g_iload d_Model_build_408 rfl ?_
  refine g_if_eq (tgt := 455) d_Model_build_410 (by decide) (fun c_410 => ?_) (fun c_410 => absurd c_410 (by decide))
  refine g_iload_n d_Model_build_455 rfl ?_
  refine g_iload d_Model_build_456 rfl ?_
  refine g_if_eq (tgt := 465) d_Model_build_458 (by decide) (fun c_458 => ?_) (fun c_458 => absurd c_458 (by decide))
  refine g_iconst (v := (-1)) d_Model_build_465 (by decide) ?_
  refine g_iadd d_Model_build_466 ?_
  refine g_istore_n d_Model_build_467 (by decide) rfl ?_
  refine g_iload d_Model_build_468 rfl ?_
  refine g_istore_n d_Model_build_470 (by decide) rfl ?_
  refine g_goto (tgt := 145) d_Model_build_471 (by decide) ?_
  exact g_weak (lv := [(0, .ref (m)), (1, .int ((nI D) + ((-1)))), (2, .int ((wy) - (1))), (3, .int (0)), (4, .int (0))]) (by simp) (by simp) (kk)
set_option maxHeartbeats 400000 in
set_option maxRecDepth 100000 in
theorem m_W_b_q1 (hmn : m < n) {D : Nat} {wy fr dn : Int32} (bD : D + 1 < 520) (h47 : s.1 47 = 0) (kk : GT E Y_Model_build (d + 5) G0 145 [(0, .ref m), (1, .int (nI (D + 1))), (2, .int (wy - 0)), (3, .int (1))] [] (mW E G m n (wA (wA s 31 (D + 1) (s.2 31 D + s.2 32 D)) 32 (D + 1) (s.1 46 - (s.2 31 D + s.2 32 D)))) Q) : GT E Y_Model_build (d + 5) G0 383 [(0, .ref m), (1, .int (nI D)), (2, .int (wy)), (3, .int (fr)), (4, .int (dn))] [.int 1] (mW E G m n s) Q := by
  refine g_istore d_Model_build_383 (by decide) rfl ?_
  refine g_iload_n d_Model_build_385 rfl ?_
  refine g_iload d_Model_build_386 rfl ?_
  refine g_if_eq (tgt := 395) d_Model_build_388 (by decide) (fun c_388 => absurd c_388 (by decide)) (fun c_388 => ?_)
  refine g_iconst (v := 0) d_Model_build_391 (by decide) ?_
  refine g_goto (tgt := 396) d_Model_build_392 (by decide) ?_
  refine g_isub d_Model_build_396 ?_
  refine g_istore_n d_Model_build_397 (by decide) rfl ?_
  refine g_aload_n d_Model_build_398 rfl ?_
  refine w_get (k := 47) (x := .int (s.1 47)) fl_Model_195 (by decide) rfl d_Model_build_399 ?_
  refine g_if_eq (tgt := 408) d_Model_build_402 (by decide) (fun c_402 => ?_) (fun c_402 => ?_)
  rotate_left
  · exact absurd c_402 (fun y => y h47)
  refine g_iload d_Model_build_408 rfl ?_
  refine g_if_eq (tgt := 455) d_Model_build_410 (by decide) (fun c_410 => absurd c_410 (by decide)) (fun c_410 => ?_)
  refine g_aload_n d_Model_build_413 rfl ?_
  refine w_get (k := 48) fl_Model_108 (by decide) rfl d_Model_build_414 ?_
  refine g_iload_n d_Model_build_417 rfl ?_
  refine g_iconst (v := 1) d_Model_build_418 (by decide) ?_
  refine g_iadd d_Model_build_419 ?_
  refine g_aload_n d_Model_build_420 rfl ?_
  refine w_get (k := 48) fl_Model_108 (by decide) rfl d_Model_build_421 ?_
  refine g_iload_n d_Model_build_424 rfl ?_
  refine w_ald (j := 31) (q := D) (x := s.2 31 D) hmn (by decide) (by decide) (nI_hi (by omega)) (by show _ < 520; omega) rfl d_Model_build_425 ?_
  refine g_aload_n d_Model_build_426 rfl ?_
  refine w_get (k := 49) fl_Model_111 (by decide) rfl d_Model_build_427 ?_
  refine g_iload_n d_Model_build_430 rfl ?_
  refine w_ald (j := 32) (q := D) (x := s.2 32 D) hmn (by decide) (by decide) (nI_hi (by omega)) (by show _ < 520; omega) rfl d_Model_build_431 ?_
  refine g_iadd d_Model_build_432 ?_
  refine w_ast (j := 31) (q := D + 1) hmn (by decide) (by decide) (add_hi (nI_hi (n := D) (by omega)) i1 (by omega)) (by show _ < 520; omega) d_Model_build_433 ?_
  refine g_aload_n d_Model_build_434 rfl ?_
  refine w_get (k := 49) fl_Model_111 (by decide) rfl d_Model_build_435 ?_
  refine g_iload_n d_Model_build_438 rfl ?_
  refine g_iconst (v := 1) d_Model_build_439 (by decide) ?_
  refine g_iadd d_Model_build_440 ?_
  refine g_aload_n d_Model_build_441 rfl ?_
  refine w_get (k := 46) (x := .int (s.1 46)) fl_Model_192 (by decide) rfl d_Model_build_442 ?_
  refine g_aload_n d_Model_build_445 rfl ?_
  refine w_get (k := 48) fl_Model_108 (by decide) rfl d_Model_build_446 ?_
  refine g_iload_n d_Model_build_449 rfl ?_
  refine g_iconst (v := 1) d_Model_build_450 (by decide) ?_
  refine g_iadd d_Model_build_451 ?_
  refine w_ald (j := 31) (q := D + 1) (x := s.2 31 D + s.2 32 D) hmn (by decide) (by decide) (add_hi (nI_hi (n := D) (by omega)) i1 (by omega)) (by show _ < 520; omega) up_at d_Model_build_452 ?_
  refine g_isub d_Model_build_453 ?_
  refine w_ast (j := 32) (q := D + 1) hmn (by decide) (by decide) (add_hi (nI_hi (n := D) (by omega)) i1 (by omega)) (by show _ < 520; omega) d_Model_build_454 ?_
  refine g_iload_n d_Model_build_455 rfl ?_
  refine g_iload d_Model_build_456 rfl ?_
  refine g_if_eq (tgt := 465) d_Model_build_458 (by decide) (fun c_458 => absurd c_458 (by decide)) (fun c_458 => ?_)
  refine g_iconst (v := 1) d_Model_build_461 (by decide) ?_
  refine g_goto (tgt := 466) d_Model_build_462 (by decide) ?_
  refine g_iadd d_Model_build_466 ?_
  refine g_istore_n d_Model_build_467 (by decide) rfl ?_
  refine g_iload d_Model_build_468 rfl ?_
  refine g_istore_n d_Model_build_470 (by decide) rfl ?_
  refine g_goto (tgt := 145) d_Model_build_471 (by decide) ?_
  rw [nI_1]
  exact g_weak (lv := [(0, .ref (m)), (1, .int (nI (D + 1))), (2, .int ((wy) - (0))), (3, .int (1)), (4, .int (1))]) (by simp) (by simp) (kk)
set_option maxHeartbeats 400000 in
set_option maxRecDepth 100000 in
theorem m_W_b_qx (hmn : m < n) {D : Nat} {wy fr dn : Int32} (bD : D < 520) (h47 : ¬ s.1 47 = 0) (kk : GT E Y_Model_build (d + 5) G0 145 [(0, .ref m), (1, .int (nI D)), (2, .int (wy - 0)), (3, .int (fr))] [] (mW E G m n s) Q) : GT E Y_Model_build (d + 5) G0 383 [(0, .ref m), (1, .int (nI D)), (2, .int (wy)), (3, .int (fr)), (4, .int (dn))] [.int 1] (mW E G m n s) Q := by
  refine g_istore d_Model_build_383 (by decide) rfl ?_
  refine g_iload_n d_Model_build_385 rfl ?_
  refine g_iload d_Model_build_386 rfl ?_
  refine g_if_eq (tgt := 395) d_Model_build_388 (by decide) (fun c_388 => absurd c_388 (by decide)) (fun c_388 => ?_)
  refine g_iconst (v := 0) d_Model_build_391 (by decide) ?_
  refine g_goto (tgt := 396) d_Model_build_392 (by decide) ?_
  refine g_isub d_Model_build_396 ?_
  refine g_istore_n d_Model_build_397 (by decide) rfl ?_
  refine g_aload_n d_Model_build_398 rfl ?_
  refine w_get (k := 47) (x := .int (s.1 47)) fl_Model_195 (by decide) rfl d_Model_build_399 ?_
  refine g_if_eq (tgt := 408) d_Model_build_402 (by decide) (fun c_402 => ?_) (fun c_402 => ?_)
  · exact absurd c_402 h47
  refine g_goto (tgt := 145) d_Model_build_405 (by decide) ?_
  exact g_weak (lv := [(0, .ref (m)), (1, .int (nI D)), (2, .int ((wy) - (0))), (3, .int (fr)), (4, .int (1))]) (by simp) (by simp) (kk)
set_option maxHeartbeats 400000 in
set_option maxRecDepth 100000 in
theorem m_W_b_x (hmn : m < n) {D : Nat} {wy fr dn : Int32} (bD : D < 520) (h47 : ¬ s.1 47 = 0) (kk : GT E Y_Model_build (d + 5) G0 145 [(0, .ref m), (1, .int (nI D)), (2, .int (wy)), (3, .int (fr))] [] (mW E G m n s) Q) : GT E Y_Model_build (d + 5) G0 361 [(0, .ref m), (1, .int (nI D)), (2, .int (wy)), (3, .int (fr)), (4, .int (dn))] [] (mW E G m n s) Q := by
  refine g_aload_n d_Model_build_361 rfl ?_
  refine w_get (k := 47) (x := .int (s.1 47)) fl_Model_195 (by decide) rfl d_Model_build_362 ?_
  refine g_if_ne (tgt := 398) d_Model_build_365 (by decide) (fun c_365 => ?_) (fun c_365 => ?_)
  rotate_left
  · exact absurd c_365 h47
  refine g_aload_n d_Model_build_398 rfl ?_
  refine w_get (k := 47) (x := .int (s.1 47)) fl_Model_195 (by decide) rfl d_Model_build_399 ?_
  refine g_if_eq (tgt := 408) d_Model_build_402 (by decide) (fun c_402 => ?_) (fun c_402 => ?_)
  · exact absurd c_402 h47
  refine g_goto (tgt := 145) d_Model_build_405 (by decide) ?_
  exact g_weak (lv := [(0, .ref (m)), (1, .int (nI D)), (2, .int (wy)), (3, .int (fr)), (4, .int (dn))]) (by simp) (by simp) (kk)
theorem gt_if {x y : Int32} : (if y < x then x else y) = if ¬ x ≤ y then x else y := by
  by_cases h : x ≤ y
  · rw [if_neg (Int32.not_lt.mpr h), if_neg (fun q => q h)]
  · rw [if_pos (Int32.not_le.mp h), if_pos h]
set_option maxHeartbeats 400000 in
set_option maxRecDepth 100000 in
theorem m_W_b_l (hmn : m < n) {D A K : Nat} {wy : Int32} (bD : D < 520) (h47 : s.1 47 = 0) (h31 : s.2 31 D = nI A) (h32 : s.2 32 D = nI K) (bA : A < 41640) (bK : K < 1000) (hz : nI K = 0 ∨ s.2 27 A = 0) (kk : GT E Y_Model_build (d + 5) G0 221 [(0, .ref m), (1, .int (nI D)), (2, .int wy), (3, .int 1), (4, .int 0), (5, .int (nI A)), (6, .int (nI K))] [] (mW E G m n (wF (wA s 33 D (-1)) 23 (if s.1 23 < wy then wy else s.1 23))) Q) : GT E Y_Model_build (d + 5) G0 145 [(0, .ref m), (1, .int (nI D)), (2, .int (wy)), (3, .int (1))] [] (mW E G m n s) Q := by
  refine g_iload_n d_Model_build_145 rfl ?_
  refine g_if_lt (tgt := 474) d_Model_build_146 (by decide) (fun c_146 => ?_) (fun c_146 => ?_)
  · exact absurd c_146 (fun y => absurd y (nI_pos (by omega)))
  refine g_aload_n d_Model_build_149 rfl ?_
  refine w_get (k := 47) (x := .int (s.1 47)) fl_Model_195 (by decide) rfl d_Model_build_150 ?_
  refine g_if_ne (tgt := 474) d_Model_build_153 (by decide) (fun c_153 => ?_) (fun c_153 => ?_)
  · exact absurd c_153 (fun y => y h47)
  refine g_iconst (v := 0) d_Model_build_156 (by decide) ?_
  refine g_istore d_Model_build_157 (by decide) rfl ?_
  refine g_iload_n d_Model_build_159 rfl ?_
  refine g_if_eq (tgt := 361) d_Model_build_160 (by decide) (fun c_160 => absurd c_160 (by decide)) (fun c_160 => ?_)
  refine g_aload_n d_Model_build_163 rfl ?_
  refine w_get (k := 48) fl_Model_108 (by decide) rfl d_Model_build_164 ?_
  refine g_iload_n d_Model_build_167 rfl ?_
  refine w_ald (j := 31) (q := D) (x := nI A) hmn (by decide) (by decide) (nI_hi (by omega)) (by show _ < 520; omega) h31 d_Model_build_168 ?_
  refine g_istore d_Model_build_169 (by decide) rfl ?_
  refine g_aload_n d_Model_build_171 rfl ?_
  refine w_get (k := 49) fl_Model_111 (by decide) rfl d_Model_build_172 ?_
  refine g_iload_n d_Model_build_175 rfl ?_
  refine w_ald (j := 32) (q := D) (x := nI K) hmn (by decide) (by decide) (nI_hi (by omega)) (by show _ < 520; omega) h32 d_Model_build_176 ?_
  refine g_istore d_Model_build_177 (by decide) rfl ?_
  refine g_aload_n d_Model_build_179 rfl ?_
  refine w_get (k := 50) fl_Model_114 (by decide) rfl d_Model_build_180 ?_
  refine g_iload_n d_Model_build_183 rfl ?_
  refine g_iconst (v := (-1)) d_Model_build_184 (by decide) ?_
  refine w_ast (j := 33) (q := D) hmn (by decide) (by decide) (nI_hi (by omega)) (by show _ < 520; omega) d_Model_build_185 ?_
  refine g_iload d_Model_build_186 rfl ?_
  refine g_if_eq (tgt := 201) d_Model_build_188 (by decide) (fun c_188 => ?_) (fun c_188 => ?_)
  · refine g_aload_n d_Model_build_201 rfl ?_
    refine g_iload_n d_Model_build_202 rfl ?_
    refine g_aload_n d_Model_build_203 rfl ?_
    refine w_get (k := 23) (x := .int (s.1 23)) fl_Model_234 (by decide) rfl d_Model_build_204 ?_
    refine g_icmp_le (tgt := 214) d_Model_build_207 (by decide) (fun c_207 => ?_) (fun c_207 => ?_)
    · refine g_aload_n d_Model_build_214 rfl ?_
      refine w_get (k := 23) (x := .int (s.1 23)) fl_Model_234 (by decide) rfl d_Model_build_215 ?_
      refine w_put (k := 23) fl_Model_234 (by decide) rfl rfl rfl rfl (Nat.le_of_ble_eq_true rfl) d_Model_build_218 ?_
      have e_ : (if s.1 23 < wy then wy else s.1 23) = s.1 23 := by rw [gt_if, if_neg (fun q => q c_207)]
      rw [e_] at kk
      exact kk
    · refine g_iload_n d_Model_build_210 rfl ?_
      refine g_goto (tgt := 218) d_Model_build_211 (by decide) ?_
      refine w_put (k := 23) fl_Model_234 (by decide) rfl rfl rfl rfl (Nat.le_of_ble_eq_true rfl) d_Model_build_218 ?_
      have e_ : (if s.1 23 < wy then wy else s.1 23) = wy := by rw [gt_if, if_pos c_207]
      rw [e_] at kk
      exact kk
  · refine g_aload_n d_Model_build_191 rfl ?_
    refine w_get (k := 42) fl_Model_94 (by decide) rfl d_Model_build_192 ?_
    refine g_iload d_Model_build_195 rfl ?_
    refine w_ald (j := 27) (q := A) (x := s.2 27 A) hmn (by decide) (by decide) (nI_hi (by omega)) (by show _ < 41640; omega) rfl d_Model_build_197 ?_
    refine g_if_ne (tgt := 221) d_Model_build_198 (by decide) (fun c_198 => ?_) (fun c_198 => ?_)
    · exact absurd c_198 (fun y => y (hz.resolve_left c_188))
    refine g_aload_n d_Model_build_201 rfl ?_
    refine g_iload_n d_Model_build_202 rfl ?_
    refine g_aload_n d_Model_build_203 rfl ?_
    refine w_get (k := 23) (x := .int (s.1 23)) fl_Model_234 (by decide) rfl d_Model_build_204 ?_
    refine g_icmp_le (tgt := 214) d_Model_build_207 (by decide) (fun c_207 => ?_) (fun c_207 => ?_)
    · refine g_aload_n d_Model_build_214 rfl ?_
      refine w_get (k := 23) (x := .int (s.1 23)) fl_Model_234 (by decide) rfl d_Model_build_215 ?_
      refine w_put (k := 23) fl_Model_234 (by decide) rfl rfl rfl rfl (Nat.le_of_ble_eq_true rfl) d_Model_build_218 ?_
      have e_ : (if s.1 23 < wy then wy else s.1 23) = s.1 23 := by rw [gt_if, if_neg (fun q => q c_207)]
      rw [e_] at kk
      exact kk
    · refine g_iload_n d_Model_build_210 rfl ?_
      refine g_goto (tgt := 218) d_Model_build_211 (by decide) ?_
      refine w_put (k := 23) fl_Model_234 (by decide) rfl rfl rfl rfl (Nat.le_of_ble_eq_true rfl) d_Model_build_218 ?_
      have e_ : (if s.1 23 < wy then wy else s.1 23) = wy := by rw [gt_if, if_pos c_207]
      rw [e_] at kk
      exact kk
set_option maxHeartbeats 400000 in
set_option maxRecDepth 100000 in
theorem m_W_b_f (hmn : m < n) {D A : Nat} {wy : Int32} (h22 : ¬ s.1 22 + 1 = 1) (kk : GT E Y_Model_build (d + 5) G0 361 [(0, .ref m), (1, .int (nI D)), (2, .int (wy)), (3, .int (1)), (4, .int (0))] [] (mW E G m n (wF s 22 (s.1 22 + 1))) Q) : GT E Y_Model_build (d + 5) G0 221 [(0, .ref m), (1, .int (nI D)), (2, .int wy), (3, .int 1), (4, .int 0), (5, .int (nI A)), (6, .int (nI 0))] [] (mW E G m n s) Q := by
  refine g_iload d_Model_build_221 rfl ?_
  refine g_if_ne (tgt := 251) d_Model_build_223 (by decide) (fun c_223 => ?_) (fun c_223 => ?_)
  · exact absurd c_223 (fun y => y rfl)
  refine g_aload_n d_Model_build_226 rfl ?_
  refine g_dup d_Model_build_227 rfl ?_
  refine w_get (k := 22) (x := .int (s.1 22)) fl_Model_231 (by decide) rfl d_Model_build_228 ?_
  refine g_iconst (v := 1) d_Model_build_231 (by decide) ?_
  refine g_iadd d_Model_build_232 ?_
  refine w_put (k := 22) fl_Model_231 (by decide) rfl rfl rfl rfl (Nat.le_of_ble_eq_true rfl) d_Model_build_233 ?_
  refine g_aload_n d_Model_build_236 rfl ?_
  refine w_get (k := 22) (x := .int ((s.1 22) + (1))) fl_Model_231 (by decide) rfl d_Model_build_237 ?_
  refine g_iconst (v := 1) d_Model_build_240 (by decide) ?_
  refine g_icmp_ne (tgt := 361) d_Model_build_241 (by decide) (fun c_241 => ?_) (fun c_241 => ?_)
  rotate_left
  · exact absurd c_241 h22
  exact g_weak (lv := [(0, .ref (m)), (1, .int (nI D)), (2, .int (wy)), (3, .int (1)), (4, .int (0)), (5, .int (nI A)), (6, .int (nI 0))]) (by simp) (by simp) (kk)
set_option maxHeartbeats 400000 in
set_option maxRecDepth 100000 in
theorem m_W_b_f1 (hmn : m < n) {D A : Nat} {wy : Int32} (h22 : s.1 22 + 1 = 1) (kk : GT E Y_Model_build (d + 5) G0 245 [(0, .ref m), (1, .int (nI D)), (2, .int wy), (3, .int 1), (4, .int 0), (5, .int (nI A)), (6, .int (nI 0))] [.ref m] (mW E G m n (wF s 22 (s.1 22 + 1))) Q) : GT E Y_Model_build (d + 5) G0 221 [(0, .ref m), (1, .int (nI D)), (2, .int wy), (3, .int 1), (4, .int 0), (5, .int (nI A)), (6, .int (nI 0))] [] (mW E G m n s) Q := by
  refine g_iload d_Model_build_221 rfl ?_
  refine g_if_ne (tgt := 251) d_Model_build_223 (by decide) (fun c_223 => ?_) (fun c_223 => ?_)
  · exact absurd c_223 (fun y => y rfl)
  refine g_aload_n d_Model_build_226 rfl ?_
  refine g_dup d_Model_build_227 rfl ?_
  refine w_get (k := 22) (x := .int (s.1 22)) fl_Model_231 (by decide) rfl d_Model_build_228 ?_
  refine g_iconst (v := 1) d_Model_build_231 (by decide) ?_
  refine g_iadd d_Model_build_232 ?_
  refine w_put (k := 22) fl_Model_231 (by decide) rfl rfl rfl rfl (Nat.le_of_ble_eq_true rfl) d_Model_build_233 ?_
  refine g_aload_n d_Model_build_236 rfl ?_
  refine w_get (k := 22) (x := .int ((s.1 22) + (1))) fl_Model_231 (by decide) rfl d_Model_build_237 ?_
  refine g_iconst (v := 1) d_Model_build_240 (by decide) ?_
  refine g_icmp_ne (tgt := 361) d_Model_build_241 (by decide) (fun c_241 => ?_) (fun c_241 => ?_)
  · exact absurd c_241 (fun y => y h22)
  refine g_aload_n d_Model_build_244 rfl ?_
  exact kk
set_option maxHeartbeats 400000 in
set_option maxRecDepth 100000 in
theorem m_W_b_f2 (hmn : m < n) {D A : Nat} {wy : Int32} (kk : GT E Y_Model_build (d + 5) G0 361 [(0, .ref m), (1, .int (nI D)), (2, .int (wy)), (3, .int (1)), (4, .int (0))] [] (mW E G m n s) Q) : GT E Y_Model_build (d + 5) G0 248 [(0, .ref m), (1, .int (nI D)), (2, .int wy), (3, .int 1), (4, .int 0), (5, .int (nI A)), (6, .int (nI 0))] [] (mW E G m n s) Q := by
  refine g_goto (tgt := 361) d_Model_build_248 (by decide) ?_
  exact g_weak (lv := [(0, .ref (m)), (1, .int (nI D)), (2, .int (wy)), (3, .int (1)), (4, .int (0)), (5, .int (nI A)), (6, .int (nI 0))]) (by simp) (by simp) (kk)
set_option maxHeartbeats 400000 in
set_option maxRecDepth 100000 in
theorem m_W_b_t (hmn : m < n) {D A K : Nat} {wy : Int32} {c : Nat} (hc : s.2 26 A = nI c) (bc : c < 20) (K1 : 1 ≤ K) (bA : A < 41640) (bK : K < 1000) (h27 : s.2 27 A = 0) (hg : s.2 12 c = 0) (kk : GT E Y_Model_build (d + 5) G0 361 [(0, .ref m), (1, .int (nI D)), (2, .int (wy)), (3, .int (1)), (4, .int (0))] [] (mW E G m n (wF (wF s 21 (s.1 21 + 1)) 24 (s.1 24 ||| 1 <<< (nI c &&& 31)))) Q) : GT E Y_Model_build (d + 5) G0 221 [(0, .ref m), (1, .int (nI D)), (2, .int wy), (3, .int 1), (4, .int 0), (5, .int (nI A)), (6, .int (nI K))] [] (mW E G m n s) Q := by
  refine g_iload d_Model_build_221 rfl ?_
  refine g_if_ne (tgt := 251) d_Model_build_223 (by decide) (fun c_223 => ?_) (fun c_223 => ?_)
  rotate_left
  · exact absurd c_223 (nI_ne (a := K) (b := 0) (by omega) (by omega) (by omega))
  refine g_aload_n d_Model_build_251 rfl ?_
  refine w_get (k := 42) fl_Model_94 (by decide) rfl d_Model_build_252 ?_
  refine g_iload d_Model_build_255 rfl ?_
  refine w_ald (j := 27) (q := A) (x := s.2 27 A) hmn (by decide) (by decide) (nI_hi (by omega)) (by show _ < 41640; omega) rfl d_Model_build_257 ?_
  refine g_if_ne (tgt := 334) d_Model_build_258 (by decide) (fun c_258 => ?_) (fun c_258 => ?_)
  · exact absurd c_258 (fun y => y h27)
  refine g_aload_n d_Model_build_261 rfl ?_
  refine g_dup d_Model_build_262 rfl ?_
  refine w_get (k := 21) (x := .int (s.1 21)) fl_Model_228 (by decide) rfl d_Model_build_263 ?_
  refine g_iconst (v := 1) d_Model_build_266 (by decide) ?_
  refine g_iadd d_Model_build_267 ?_
  refine w_put (k := 21) fl_Model_228 (by decide) rfl rfl rfl rfl (Nat.le_of_ble_eq_true rfl) d_Model_build_268 ?_
  refine g_aload_n d_Model_build_271 rfl ?_
  refine g_dup d_Model_build_272 rfl ?_
  refine w_get (k := 24) (x := .int (s.1 24)) fl_Model_237 (by decide) rfl d_Model_build_273 ?_
  refine g_iconst (v := 1) d_Model_build_276 (by decide) ?_
  refine g_aload_n d_Model_build_277 rfl ?_
  refine w_get (k := 41) fl_Model_91 (by decide) rfl d_Model_build_278 ?_
  refine g_iload d_Model_build_281 rfl ?_
  refine w_ald (j := 26) (q := A) (x := nI c) hmn (by decide) (by decide) (nI_hi (by omega)) (by show _ < 41640; omega) hc d_Model_build_283 ?_
  refine g_ishl d_Model_build_284 ?_
  refine g_ior d_Model_build_285 ?_
  refine w_put (k := 24) fl_Model_237 (by decide) rfl rfl rfl rfl (Nat.le_of_ble_eq_true rfl) d_Model_build_286 ?_
  refine g_aload_n d_Model_build_289 rfl ?_
  refine w_get (k := 18) fl_Model_46 (by decide) rfl d_Model_build_290 ?_
  refine g_aload_n d_Model_build_293 rfl ?_
  refine w_get (k := 41) fl_Model_91 (by decide) rfl d_Model_build_294 ?_
  refine g_iload d_Model_build_297 rfl ?_
  refine w_ald (j := 26) (q := A) (x := nI c) hmn (by decide) (by decide) (nI_hi (by omega)) (by show _ < 41640; omega) hc d_Model_build_299 ?_
  refine w_zld (j := 12) (q := c) (x := s.2 12 c) hmn (by decide) (by decide) (nI_hi (by omega)) (by show _ < 20; omega) rfl d_Model_build_300 ?_
  refine g_if_eq (tgt := 361) d_Model_build_301 (by decide) (fun c_301 => ?_) (fun c_301 => ?_)
  rotate_left
  · exact absurd c_301 (fun y => y hg)
  exact g_weak (lv := [(0, .ref (m)), (1, .int (nI D)), (2, .int (wy)), (3, .int (1)), (4, .int (0)), (5, .int (nI A)), (6, .int (nI K))]) (by simp) (by simp) (kk)
set_option maxHeartbeats 400000 in
set_option maxRecDepth 100000 in
theorem m_W_b_g (hmn : m < n) {D A K : Nat} {wy : Int32} {c : Nat} (hc : s.2 26 A = nI c) (bc : c < 20) (K1 : 1 ≤ K) (bA : A < 41640) (bK : K < 1000) (h27 : s.2 27 A = 0) (hg : ¬ s.2 12 c = 0) (kk : GT E Y_Model_build (d + 5) G0 325 [(0, .ref m), (1, .int (nI D)), (2, .int wy), (3, .int 1), (4, .int 0), (5, .int (nI A)), (6, .int (nI K))] [.int (nI c), .int (nI K), .int (nI A), .ref m] (mW E G m n (wF (wF (wF s 21 (s.1 21 + 1)) 24 (s.1 24 ||| 1 <<< (nI c &&& 31))) 46 (nI A + nI K))) Q) : GT E Y_Model_build (d + 5) G0 221 [(0, .ref m), (1, .int (nI D)), (2, .int wy), (3, .int 1), (4, .int 0), (5, .int (nI A)), (6, .int (nI K))] [] (mW E G m n s) Q := by
  refine g_iload d_Model_build_221 rfl ?_
  refine g_if_ne (tgt := 251) d_Model_build_223 (by decide) (fun c_223 => ?_) (fun c_223 => ?_)
  rotate_left
  · exact absurd c_223 (nI_ne (a := K) (b := 0) (by omega) (by omega) (by omega))
  refine g_aload_n d_Model_build_251 rfl ?_
  refine w_get (k := 42) fl_Model_94 (by decide) rfl d_Model_build_252 ?_
  refine g_iload d_Model_build_255 rfl ?_
  refine w_ald (j := 27) (q := A) (x := s.2 27 A) hmn (by decide) (by decide) (nI_hi (by omega)) (by show _ < 41640; omega) rfl d_Model_build_257 ?_
  refine g_if_ne (tgt := 334) d_Model_build_258 (by decide) (fun c_258 => ?_) (fun c_258 => ?_)
  · exact absurd c_258 (fun y => y h27)
  refine g_aload_n d_Model_build_261 rfl ?_
  refine g_dup d_Model_build_262 rfl ?_
  refine w_get (k := 21) (x := .int (s.1 21)) fl_Model_228 (by decide) rfl d_Model_build_263 ?_
  refine g_iconst (v := 1) d_Model_build_266 (by decide) ?_
  refine g_iadd d_Model_build_267 ?_
  refine w_put (k := 21) fl_Model_228 (by decide) rfl rfl rfl rfl (Nat.le_of_ble_eq_true rfl) d_Model_build_268 ?_
  refine g_aload_n d_Model_build_271 rfl ?_
  refine g_dup d_Model_build_272 rfl ?_
  refine w_get (k := 24) (x := .int (s.1 24)) fl_Model_237 (by decide) rfl d_Model_build_273 ?_
  refine g_iconst (v := 1) d_Model_build_276 (by decide) ?_
  refine g_aload_n d_Model_build_277 rfl ?_
  refine w_get (k := 41) fl_Model_91 (by decide) rfl d_Model_build_278 ?_
  refine g_iload d_Model_build_281 rfl ?_
  refine w_ald (j := 26) (q := A) (x := nI c) hmn (by decide) (by decide) (nI_hi (by omega)) (by show _ < 41640; omega) hc d_Model_build_283 ?_
  refine g_ishl d_Model_build_284 ?_
  refine g_ior d_Model_build_285 ?_
  refine w_put (k := 24) fl_Model_237 (by decide) rfl rfl rfl rfl (Nat.le_of_ble_eq_true rfl) d_Model_build_286 ?_
  refine g_aload_n d_Model_build_289 rfl ?_
  refine w_get (k := 18) fl_Model_46 (by decide) rfl d_Model_build_290 ?_
  refine g_aload_n d_Model_build_293 rfl ?_
  refine w_get (k := 41) fl_Model_91 (by decide) rfl d_Model_build_294 ?_
  refine g_iload d_Model_build_297 rfl ?_
  refine w_ald (j := 26) (q := A) (x := nI c) hmn (by decide) (by decide) (nI_hi (by omega)) (by show _ < 41640; omega) hc d_Model_build_299 ?_
  refine w_zld (j := 12) (q := c) (x := s.2 12 c) hmn (by decide) (by decide) (nI_hi (by omega)) (by show _ < 20; omega) rfl d_Model_build_300 ?_
  refine g_if_eq (tgt := 361) d_Model_build_301 (by decide) (fun c_301 => ?_) (fun c_301 => ?_)
  · exact absurd c_301 hg
  refine g_aload_n d_Model_build_304 rfl ?_
  refine g_iload d_Model_build_305 rfl ?_
  refine g_iload d_Model_build_307 rfl ?_
  refine g_iadd d_Model_build_309 ?_
  refine w_put (k := 46) fl_Model_192 (by decide) rfl rfl rfl rfl (Nat.le_of_ble_eq_true rfl) d_Model_build_310 ?_
  refine g_aload_n d_Model_build_313 rfl ?_
  refine g_iload d_Model_build_314 rfl ?_
  refine g_iload d_Model_build_316 rfl ?_
  refine g_aload_n d_Model_build_318 rfl ?_
  refine w_get (k := 41) fl_Model_91 (by decide) rfl d_Model_build_319 ?_
  refine g_iload d_Model_build_322 rfl ?_
  refine w_ald (j := 26) (q := A) (x := nI c) hmn (by decide) (by decide) (nI_hi (by omega)) (by show _ < 41640; omega) hc d_Model_build_324 ?_
  exact kk
set_option maxHeartbeats 400000 in
set_option maxRecDepth 100000 in
theorem m_W_b_g2 (hmn : m < n) {D A K : Nat} {wy : Int32} (kk : GT E Y_Model_build (d + 5) G0 361 [(0, .ref m), (1, .int (nI D)), (2, .int (wy)), (3, .int (1)), (4, .int (1))] [] (mW E G m n s) Q) : GT E Y_Model_build (d + 5) G0 328 [(0, .ref m), (1, .int (nI D)), (2, .int wy), (3, .int 1), (4, .int 0), (5, .int (nI A)), (6, .int (nI K))] [] (mW E G m n s) Q := by
  refine g_iconst (v := 1) d_Model_build_328 (by decide) ?_
  refine g_istore d_Model_build_329 (by decide) rfl ?_
  refine g_goto (tgt := 361) d_Model_build_331 (by decide) ?_
  exact g_weak (lv := [(0, .ref (m)), (1, .int (nI D)), (2, .int (wy)), (3, .int (1)), (4, .int (1)), (5, .int (nI A)), (6, .int (nI K))]) (by simp) (by simp) (kk)
set_option maxHeartbeats 400000 in
set_option maxRecDepth 100000 in
theorem m_W_b_k (hmn : m < n) {D A K : Nat} {wy : Int32} (bD : D < 520) (h47 : s.1 47 = 0) (h31 : s.2 31 D = nI A) (h32 : s.2 32 D = nI K) (bA : A < 41640) (bK : K < 1000) (K1 : 1 ≤ K) (h27 : ¬ s.2 27 A = 0) (h20 : ¬ s.1 20 = 1000) (kk : GT E Y_Model_build (d + 5) G0 355 [(0, .ref m), (1, .int (nI D)), (2, .int wy), (3, .int 1), (4, .int 0), (5, .int (nI A)), (6, .int (nI K))] [.int wy, .int (nI D), .ref m] (mW E G m n (wA s 33 D (-1))) Q) : GT E Y_Model_build (d + 5) G0 145 [(0, .ref m), (1, .int (nI D)), (2, .int (wy)), (3, .int (1))] [] (mW E G m n s) Q := by
  refine g_iload_n d_Model_build_145 rfl ?_
  refine g_if_lt (tgt := 474) d_Model_build_146 (by decide) (fun c_146 => ?_) (fun c_146 => ?_)
  · exact absurd c_146 (fun y => absurd y (nI_pos (by omega)))
  refine g_aload_n d_Model_build_149 rfl ?_
  refine w_get (k := 47) (x := .int (s.1 47)) fl_Model_195 (by decide) rfl d_Model_build_150 ?_
  refine g_if_ne (tgt := 474) d_Model_build_153 (by decide) (fun c_153 => ?_) (fun c_153 => ?_)
  · exact absurd c_153 (fun y => y h47)
  refine g_iconst (v := 0) d_Model_build_156 (by decide) ?_
  refine g_istore d_Model_build_157 (by decide) rfl ?_
  refine g_iload_n d_Model_build_159 rfl ?_
  refine g_if_eq (tgt := 361) d_Model_build_160 (by decide) (fun c_160 => absurd c_160 (by decide)) (fun c_160 => ?_)
  refine g_aload_n d_Model_build_163 rfl ?_
  refine w_get (k := 48) fl_Model_108 (by decide) rfl d_Model_build_164 ?_
  refine g_iload_n d_Model_build_167 rfl ?_
  refine w_ald (j := 31) (q := D) (x := nI A) hmn (by decide) (by decide) (nI_hi (by omega)) (by show _ < 520; omega) h31 d_Model_build_168 ?_
  refine g_istore d_Model_build_169 (by decide) rfl ?_
  refine g_aload_n d_Model_build_171 rfl ?_
  refine w_get (k := 49) fl_Model_111 (by decide) rfl d_Model_build_172 ?_
  refine g_iload_n d_Model_build_175 rfl ?_
  refine w_ald (j := 32) (q := D) (x := nI K) hmn (by decide) (by decide) (nI_hi (by omega)) (by show _ < 520; omega) h32 d_Model_build_176 ?_
  refine g_istore d_Model_build_177 (by decide) rfl ?_
  refine g_aload_n d_Model_build_179 rfl ?_
  refine w_get (k := 50) fl_Model_114 (by decide) rfl d_Model_build_180 ?_
  refine g_iload_n d_Model_build_183 rfl ?_
  refine g_iconst (v := (-1)) d_Model_build_184 (by decide) ?_
  refine w_ast (j := 33) (q := D) hmn (by decide) (by decide) (nI_hi (by omega)) (by show _ < 520; omega) d_Model_build_185 ?_
  refine g_iload d_Model_build_186 rfl ?_
  refine g_if_eq (tgt := 201) d_Model_build_188 (by decide) (fun c_188 => ?_) (fun c_188 => ?_)
  · exact absurd c_188 (nI_ne (a := K) (b := 0) (by omega) (by omega) (by omega))
  refine g_aload_n d_Model_build_191 rfl ?_
  refine w_get (k := 42) fl_Model_94 (by decide) rfl d_Model_build_192 ?_
  refine g_iload d_Model_build_195 rfl ?_
  refine w_ald (j := 27) (q := A) (x := s.2 27 A) hmn (by decide) (by decide) (nI_hi (by omega)) (by show _ < 41640; omega) rfl d_Model_build_197 ?_
  refine g_if_ne (tgt := 221) d_Model_build_198 (by decide) (fun c_198 => ?_) (fun c_198 => ?_)
  rotate_left
  · exact absurd c_198 h27
  refine g_iload d_Model_build_221 rfl ?_
  refine g_if_ne (tgt := 251) d_Model_build_223 (by decide) (fun c_223 => ?_) (fun c_223 => ?_)
  rotate_left
  · exact absurd c_223 (nI_ne (a := K) (b := 0) (by omega) (by omega) (by omega))
  refine g_aload_n d_Model_build_251 rfl ?_
  refine w_get (k := 42) fl_Model_94 (by decide) rfl d_Model_build_252 ?_
  refine g_iload d_Model_build_255 rfl ?_
  refine w_ald (j := 27) (q := A) (x := s.2 27 A) hmn (by decide) (by decide) (nI_hi (by omega)) (by show _ < 41640; omega) rfl d_Model_build_257 ?_
  refine g_if_ne (tgt := 334) d_Model_build_258 (by decide) (fun c_258 => ?_) (fun c_258 => ?_)
  rotate_left
  · exact absurd c_258 h27
  refine g_aload_n d_Model_build_334 rfl ?_
  refine w_get (k := 20) (x := .int (s.1 20)) fl_Model_225 (by decide) rfl d_Model_build_335 ?_
  refine g_sipush (v := 1000) d_Model_build_338 (by decide) ?_
  refine g_icmp_ne (tgt := 352) d_Model_build_341 (by decide) (fun c_341 => ?_) (fun c_341 => ?_)
  rotate_left
  · exact absurd c_341 h20
  refine g_aload_n d_Model_build_352 rfl ?_
  refine g_iload_n d_Model_build_353 rfl ?_
  refine g_iload_n d_Model_build_354 rfl ?_
  exact kk
set_option maxHeartbeats 400000 in
set_option maxRecDepth 100000 in
theorem m_W_b_k0 (hmn : m < n) {D A K : Nat} {wy : Int32} (bD : D < 520) (h47 : s.1 47 = 0) (h31 : s.2 31 D = nI A) (h32 : s.2 32 D = nI K) (bA : A < 41640) (bK : K < 1000) (K1 : 1 ≤ K) (h27 : ¬ s.2 27 A = 0) (h20 : s.1 20 = 1000) (kk : GT E Y_Model_build (d + 5) G0 361 [(0, .ref m), (1, .int (nI D)), (2, .int (wy)), (3, .int (1)), (4, .int (0))] [] (mW E G m n (wF (wA s 33 D (-1)) 47 1)) Q) : GT E Y_Model_build (d + 5) G0 145 [(0, .ref m), (1, .int (nI D)), (2, .int (wy)), (3, .int (1))] [] (mW E G m n s) Q := by
  refine g_iload_n d_Model_build_145 rfl ?_
  refine g_if_lt (tgt := 474) d_Model_build_146 (by decide) (fun c_146 => ?_) (fun c_146 => ?_)
  · exact absurd c_146 (fun y => absurd y (nI_pos (by omega)))
  refine g_aload_n d_Model_build_149 rfl ?_
  refine w_get (k := 47) (x := .int (s.1 47)) fl_Model_195 (by decide) rfl d_Model_build_150 ?_
  refine g_if_ne (tgt := 474) d_Model_build_153 (by decide) (fun c_153 => ?_) (fun c_153 => ?_)
  · exact absurd c_153 (fun y => y h47)
  refine g_iconst (v := 0) d_Model_build_156 (by decide) ?_
  refine g_istore d_Model_build_157 (by decide) rfl ?_
  refine g_iload_n d_Model_build_159 rfl ?_
  refine g_if_eq (tgt := 361) d_Model_build_160 (by decide) (fun c_160 => absurd c_160 (by decide)) (fun c_160 => ?_)
  refine g_aload_n d_Model_build_163 rfl ?_
  refine w_get (k := 48) fl_Model_108 (by decide) rfl d_Model_build_164 ?_
  refine g_iload_n d_Model_build_167 rfl ?_
  refine w_ald (j := 31) (q := D) (x := nI A) hmn (by decide) (by decide) (nI_hi (by omega)) (by show _ < 520; omega) h31 d_Model_build_168 ?_
  refine g_istore d_Model_build_169 (by decide) rfl ?_
  refine g_aload_n d_Model_build_171 rfl ?_
  refine w_get (k := 49) fl_Model_111 (by decide) rfl d_Model_build_172 ?_
  refine g_iload_n d_Model_build_175 rfl ?_
  refine w_ald (j := 32) (q := D) (x := nI K) hmn (by decide) (by decide) (nI_hi (by omega)) (by show _ < 520; omega) h32 d_Model_build_176 ?_
  refine g_istore d_Model_build_177 (by decide) rfl ?_
  refine g_aload_n d_Model_build_179 rfl ?_
  refine w_get (k := 50) fl_Model_114 (by decide) rfl d_Model_build_180 ?_
  refine g_iload_n d_Model_build_183 rfl ?_
  refine g_iconst (v := (-1)) d_Model_build_184 (by decide) ?_
  refine w_ast (j := 33) (q := D) hmn (by decide) (by decide) (nI_hi (by omega)) (by show _ < 520; omega) d_Model_build_185 ?_
  refine g_iload d_Model_build_186 rfl ?_
  refine g_if_eq (tgt := 201) d_Model_build_188 (by decide) (fun c_188 => ?_) (fun c_188 => ?_)
  · exact absurd c_188 (nI_ne (a := K) (b := 0) (by omega) (by omega) (by omega))
  refine g_aload_n d_Model_build_191 rfl ?_
  refine w_get (k := 42) fl_Model_94 (by decide) rfl d_Model_build_192 ?_
  refine g_iload d_Model_build_195 rfl ?_
  refine w_ald (j := 27) (q := A) (x := s.2 27 A) hmn (by decide) (by decide) (nI_hi (by omega)) (by show _ < 41640; omega) rfl d_Model_build_197 ?_
  refine g_if_ne (tgt := 221) d_Model_build_198 (by decide) (fun c_198 => ?_) (fun c_198 => ?_)
  rotate_left
  · exact absurd c_198 h27
  refine g_iload d_Model_build_221 rfl ?_
  refine g_if_ne (tgt := 251) d_Model_build_223 (by decide) (fun c_223 => ?_) (fun c_223 => ?_)
  rotate_left
  · exact absurd c_223 (nI_ne (a := K) (b := 0) (by omega) (by omega) (by omega))
  refine g_aload_n d_Model_build_251 rfl ?_
  refine w_get (k := 42) fl_Model_94 (by decide) rfl d_Model_build_252 ?_
  refine g_iload d_Model_build_255 rfl ?_
  refine w_ald (j := 27) (q := A) (x := s.2 27 A) hmn (by decide) (by decide) (nI_hi (by omega)) (by show _ < 41640; omega) rfl d_Model_build_257 ?_
  refine g_if_ne (tgt := 334) d_Model_build_258 (by decide) (fun c_258 => ?_) (fun c_258 => ?_)
  rotate_left
  · exact absurd c_258 h27
  refine g_aload_n d_Model_build_334 rfl ?_
  refine w_get (k := 20) (x := .int (s.1 20)) fl_Model_225 (by decide) rfl d_Model_build_335 ?_
  refine g_sipush (v := 1000) d_Model_build_338 (by decide) ?_
  refine g_icmp_ne (tgt := 352) d_Model_build_341 (by decide) (fun c_341 => ?_) (fun c_341 => ?_)
  · exact absurd c_341 (fun y => y h20)
  refine g_aload_n d_Model_build_344 rfl ?_
  refine g_iconst (v := 1) d_Model_build_345 (by decide) ?_
  refine w_put (k := 47) fl_Model_195 (by decide) rfl rfl rfl rfl (Nat.le_of_ble_eq_true rfl) d_Model_build_346 ?_
  refine g_goto (tgt := 361) d_Model_build_349 (by decide) ?_
  exact g_weak (lv := [(0, .ref (m)), (1, .int (nI D)), (2, .int (wy)), (3, .int (1)), (4, .int (0)), (5, .int (nI A)), (6, .int (nI K))]) (by simp) (by simp) (kk)
set_option maxHeartbeats 400000 in
set_option maxRecDepth 100000 in
theorem m_W_b_k2 (hmn : m < n) {D A K : Nat} {wy : Int32} (kk : GT E Y_Model_build (d + 5) G0 361 [(0, .ref m), (1, .int (nI D)), (2, .int (wy + 1)), (3, .int (1)), (4, .int (0))] [] (mW E G m n s) Q) : GT E Y_Model_build (d + 5) G0 358 [(0, .ref m), (1, .int (nI D)), (2, .int wy), (3, .int 1), (4, .int 0), (5, .int (nI A)), (6, .int (nI K))] [] (mW E G m n s) Q := by
  refine g_iinc (v := wy + 1) d_Model_build_358 rfl (by rfl) (by decide) rfl ?_
  exact g_weak (lv := [(0, .ref (m)), (1, .int (nI D)), (2, .int (wy + 1)), (3, .int (1)), (4, .int (0)), (5, .int (nI A)), (6, .int (nI K))]) (by simp) (by simp) (kk)
set_option maxHeartbeats 400000 in
set_option maxRecDepth 100000 in
theorem m_W_b_r (hmn : m < n) {dd wy fr : Int32} (h47 : s.1 47 = 0) (kk : Q (.inl (some (.int (s.1 20)))) (mW E G m n (wF (wF s 0 0) 19 1))) : GT E Y_Model_build (d + 5) G0 474 [(0, .ref m), (1, .int (dd)), (2, .int (wy)), (3, .int (fr))] [] (mW E G m n s) Q := by
  refine g_aload_n d_Model_build_474 rfl ?_
  refine g_aload_n d_Model_build_475 rfl ?_
  refine w_get (k := 47) (x := .int (s.1 47)) fl_Model_195 (by decide) rfl d_Model_build_476 ?_
  refine g_if_eq (tgt := 486) d_Model_build_479 (by decide) (fun c_479 => ?_) (fun c_479 => ?_)
  rotate_left
  · exact absurd c_479 (fun y => y h47)
  refine g_iconst (v := 0) d_Model_build_486 (by decide) ?_
  refine c_Vr (as := [.int (0)]) kv_Model_refuses ml_Model_153 rfl mw_f (m_W_refuses0 (s := s) hmn) rfl (Nat.le_of_ble_eq_true rfl) rfl d_Model_build_487 rfl ?_
  refine g_if_eq (tgt := 495) d_Model_build_490 (by decide) (fun c_490 => ?_) (fun c_490 => absurd c_490 (by decide))
  refine g_aload_n d_Model_build_495 rfl ?_
  refine g_iconst (v := 1) d_Model_build_496 (by decide) ?_
  refine w_put (k := 19) fl_Model_184 (by decide) rfl rfl rfl rfl (Nat.le_of_ble_eq_true rfl) d_Model_build_497 ?_
  refine g_aload_n d_Model_build_500 rfl ?_
  refine w_get (k := 20) (x := .int (s.1 20)) fl_Model_225 (by decide) rfl d_Model_build_501 ?_
  refine g_iret rfl d_Model_build_504 ?_
  exact kk
set_option maxHeartbeats 400000 in
set_option maxRecDepth 100000 in
theorem m_W_b_r2 (hmn : m < n) {dd wy fr : Int32} (h47 : ¬ s.1 47 = 0) (kk : Q (.inl (some (.int 0))) (mW E G m n (wF s 0 2))) : GT E Y_Model_build (d + 5) G0 474 [(0, .ref m), (1, .int (dd)), (2, .int (wy)), (3, .int (fr))] [] (mW E G m n s) Q := by
  refine g_aload_n d_Model_build_474 rfl ?_
  refine g_aload_n d_Model_build_475 rfl ?_
  refine w_get (k := 47) (x := .int (s.1 47)) fl_Model_195 (by decide) rfl d_Model_build_476 ?_
  refine g_if_eq (tgt := 486) d_Model_build_479 (by decide) (fun c_479 => ?_) (fun c_479 => ?_)
  · exact absurd c_479 h47
  refine g_iconst (v := 2) d_Model_build_482 (by decide) ?_
  refine g_goto (tgt := 487) d_Model_build_483 (by decide) ?_
  refine c_Vr (as := [.int (2)]) kv_Model_refuses ml_Model_153 rfl mw_f (m_W_refuses2 (s := s) hmn) rfl (Nat.le_of_ble_eq_true rfl) rfl d_Model_build_487 rfl ?_
  refine g_if_eq (tgt := 495) d_Model_build_490 (by decide) (fun c_490 => absurd c_490 (by decide)) (fun c_490 => ?_)
  refine g_iconst (v := 0) d_Model_build_493 (by decide) ?_
  refine g_iret rfl d_Model_build_494 ?_
  exact kk
end MU
