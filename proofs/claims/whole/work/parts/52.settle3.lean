/-! The reference: settle, its outer steps -/
section MO
variable {E : gE} {d : Nat} {G G0 : gS} {m n : Nat} {s : mS} {Q : gO → gS → Prop}
set_option maxHeartbeats 400000 in
set_option maxRecDepth 100000 in
theorem m_W_settle_p (hmn : m < n) {q1 q2 q3 r k : Int32} {R : Nat} (hr : r.toInt = (R : Int)) (bR : R < 41640) (kk : GT E Y_Model_settle (d + 1) G0 5 [(0, .ref m), (1, .int q1), (2, .int q2), (3, .int (q3))] [] (mW E G m n s) Q) : GT E Y_Model_settle (d + 1) G0 22 [(0, .ref m), (1, .int q1), (2, .int q2), (3, .int (q3)), (4, .int r), (5, .int (k)), (6, .int (1))] [] (mW E G m n s) Q := by
  refine g_iload d_Model_settle_22 rfl ?_
  refine g_aload_n d_Model_settle_24 rfl ?_
  refine w_get (k := 42) fl_Model_94 (by decide) rfl d_Model_settle_25 ?_
  refine g_iload d_Model_settle_28 rfl ?_
  refine w_ald (j := 27) (q := R) (x := s.2 27 (R)) hmn (by decide) (by decide) hr (by show _ < 41640; omega) rfl d_Model_settle_30 ?_
  refine g_icmp_ge (tgt := 288) d_Model_settle_31 (by decide) (fun c_31 => ?_) (fun c_31 => ?_)
  · refine g_iload d_Model_settle_288 rfl ?_
    refine g_if_eq (tgt := 296) d_Model_settle_290 (by decide) (fun c_290 => absurd c_290 (by decide)) (fun c_290 => ?_)
    refine g_goto (tgt := 5) d_Model_settle_293 (by decide) ?_
    exact g_weak (lv := [(0, .ref (m)), (1, .int (q1)), (2, .int (q2)), (3, .int (q3)), (4, .int (r)), (5, .int (k)), (6, .int (1))]) (by simp) (by simp) kk
  · refine g_iload d_Model_settle_34 rfl ?_
    refine g_if_ne (tgt := 288) d_Model_settle_36 (by decide) (fun c_36 => ?_) (fun c_36 => absurd c_36 (by decide))
    refine g_iload d_Model_settle_288 rfl ?_
    refine g_if_eq (tgt := 296) d_Model_settle_290 (by decide) (fun c_290 => absurd c_290 (by decide)) (fun c_290 => ?_)
    refine g_goto (tgt := 5) d_Model_settle_293 (by decide) ?_
    exact g_weak (lv := [(0, .ref (m)), (1, .int (q1)), (2, .int (q2)), (3, .int (q3)), (4, .int (r)), (5, .int (k)), (6, .int (1))]) (by simp) (by simp) kk
set_option maxHeartbeats 400000 in
set_option maxRecDepth 100000 in
theorem m_W_settle_t (hmn : m < n) {q1 q2 q3 : Int32} (hz : ¬ q3 ≤ 0) (kk : GT E Y_Model_settle (d + 1) G0 22 [(0, .ref m), (1, .int q1), (2, .int q2), (3, .int (q3)), (4, .int (q2 + q3 - 1)), (5, .int (0)), (6, .int (0))] [] (mW E G m n s) Q) : GT E Y_Model_settle (d + 1) G0 5 [(0, .ref m), (1, .int q1), (2, .int q2), (3, .int (q3))] [] (mW E G m n s) Q := by
  refine g_iload_n d_Model_settle_5 rfl ?_
  refine g_if_le (tgt := 339) d_Model_settle_6 (by decide) (fun c_6 => ?_) (fun c_6 => ?_)
  · exact absurd c_6 hz
  refine g_iload_n d_Model_settle_9 rfl ?_
  refine g_iload_n d_Model_settle_10 rfl ?_
  refine g_iadd d_Model_settle_11 ?_
  refine g_iconst (v := 1) d_Model_settle_12 (by decide) ?_
  refine g_isub d_Model_settle_13 ?_
  refine g_istore d_Model_settle_14 (by decide) rfl ?_
  refine g_iconst (v := 0) d_Model_settle_16 (by decide) ?_
  refine g_istore d_Model_settle_17 (by decide) rfl ?_
  refine g_iconst (v := 0) d_Model_settle_19 (by decide) ?_
  refine g_istore d_Model_settle_20 (by decide) rfl ?_
  exact kk
set_option maxHeartbeats 400000 in
set_option maxRecDepth 100000 in
theorem m_W_settle_z (hmn : m < n) {q1 q2 q3 : Int32} (hz : q3 ≤ 0) (kk : Q (.inl none) (mW E G m n s)) : GT E Y_Model_settle (d + 1) G0 5 [(0, .ref m), (1, .int q1), (2, .int q2), (3, .int (q3))] [] (mW E G m n s) Q := by
  refine g_iload_n d_Model_settle_5 rfl ?_
  refine g_if_le (tgt := 339) d_Model_settle_6 (by decide) (fun c_6 => ?_) (fun c_6 => ?_)
  rotate_left
  · exact absurd c_6 (fun y => y hz)
  refine g_vret rfl d_Model_settle_339 ?_
  exact kk
set_option maxHeartbeats 400000 in
set_option maxRecDepth 100000 in
theorem m_W_settle_o (hmn : m < n) {q1 q2 q3 r k : Int32} {R T : Nat} (hr : r.toInt = (R : Int)) (bR : R < 41640) (hk : s.2 27 R ≤ k) (hT : (s.1 46).toInt = (T : Int)) (bT : T < 41640) (hne : R ≠ T) (hO : ¬ s.2 27 R < 0) (bO : tn (s.2 27 R) ≤ 26) (k1 : s.1 46 - q1 = 80 → Q (.inl none) (mW E G m n (wF s 47 1))) (k2 : ¬ s.1 46 - q1 = 80 → GT E Y_Model_settle (d + 1) G0 5 [(0, .ref m), (1, .int q1), (2, .int q2), (3, .int (q3 + (-1)))] [] (mW E G m n (wF (rCopy s R T) 46 (s.1 46 + 1))) Q) : GT E Y_Model_settle (d + 1) G0 22 [(0, .ref m), (1, .int q1), (2, .int q2), (3, .int (q3)), (4, .int r), (5, .int (k)), (6, .int (0))] [] (mW E G m n s) Q := by
  refine g_iload d_Model_settle_22 rfl ?_
  refine g_aload_n d_Model_settle_24 rfl ?_
  refine w_get (k := 42) fl_Model_94 (by decide) rfl d_Model_settle_25 ?_
  refine g_iload d_Model_settle_28 rfl ?_
  refine w_ald (j := 27) (q := R) (x := s.2 27 (R)) hmn (by decide) (by decide) hr (by show _ < 41640; omega) rfl d_Model_settle_30 ?_
  refine g_icmp_ge (tgt := 288) d_Model_settle_31 (by decide) (fun c_31 => ?_) (fun c_31 => ?_)
  rotate_left
  · exact absurd c_31 (fun y => y hk)
  refine g_iload d_Model_settle_288 rfl ?_
  refine g_if_eq (tgt := 296) d_Model_settle_290 (by decide) (fun c_290 => ?_) (fun c_290 => absurd c_290 (by decide))
  refine g_aload_n d_Model_settle_296 rfl ?_
  refine w_get (k := 46) (x := .int (s.1 46)) fl_Model_192 (by decide) rfl d_Model_settle_297 ?_
  refine g_iload_n d_Model_settle_300 rfl ?_
  refine g_isub d_Model_settle_301 ?_
  refine g_bipush (v := 80) d_Model_settle_302 (by decide) ?_
  refine g_icmp_ne (tgt := 313) d_Model_settle_304 (by decide) (fun c_304 => ?_) (fun c_304 => ?_)
  · refine g_aload_n d_Model_settle_313 rfl ?_
    refine g_iload d_Model_settle_314 rfl ?_
    refine g_aload_n d_Model_settle_316 rfl ?_
    refine w_get (k := 46) (x := .int (s.1 46)) fl_Model_192 (by decide) rfl d_Model_settle_317 ?_
    refine c_Vr (as := [.int (r), .int (s.1 46)]) kv_Model_copyRow ml_Model_188 rfl mw_f (m_W_copyRow (s := s) hmn (F := R) (T := T) hr hT bR bT hne hO bO) rfl (Nat.le_of_ble_eq_true rfl) rfl d_Model_settle_320 rfl ?_
    refine g_aload_n d_Model_settle_323 rfl ?_
    refine g_dup d_Model_settle_324 rfl ?_
    refine w_get (k := 46) (x := .int (s.1 46)) fl_Model_192 (by decide) rfl d_Model_settle_325 ?_
    refine g_iconst (v := 1) d_Model_settle_328 (by decide) ?_
    refine g_iadd d_Model_settle_329 ?_
    refine w_put (k := 46) fl_Model_192 (by decide) rfl rfl rfl rfl (Nat.le_of_ble_eq_true rfl) d_Model_settle_330 ?_
    refine g_iinc (v := q3 + (-1)) d_Model_settle_333 rfl (by rfl) (by decide) rfl ?_
    refine g_goto (tgt := 5) d_Model_settle_336 (by decide) ?_
    exact g_weak (lv := [(0, .ref (m)), (1, .int (q1)), (2, .int (q2)), (3, .int (q3 + (-1))), (4, .int (r)), (5, .int (k)), (6, .int (0))]) (by simp) (by simp) (k2 c_304)
  · refine g_aload_n d_Model_settle_307 rfl ?_
    refine g_iconst (v := 1) d_Model_settle_308 (by decide) ?_
    refine w_put (k := 47) fl_Model_195 (by decide) rfl rfl rfl rfl (Nat.le_of_ble_eq_true rfl) d_Model_settle_309 ?_
    refine g_vret rfl d_Model_settle_312 ?_
    exact k1 (by first | exact c_304 | exact Classical.byContradiction (fun h => c_304 h))
set_option maxHeartbeats 400000 in
set_option maxRecDepth 100000 in
theorem m_W_settle_i (hmn : m < n) {q1 : Int32} (kk : GT E Y_Model_settle (d + 1) (mW E G m n s) 5 [(0, .ref m), (1, .int q1), (2, .int 41600), (3, .int (1))] [] (mW E G m n s) Q) : GM E Y_Model_settle (d + 1) [.ref m, .int q1] (mW E G m n s) Q := by
  refine g_entry (by decide) (by simp [Value.category]) (Nat.le_of_ble_eq_true rfl) ?_
  refine g_ldc cn_Model_187 d_Model_settle_0 ?_
  refine g_istore_n d_Model_settle_2 (by decide) rfl ?_
  refine g_iconst (v := 1) d_Model_settle_3 (by decide) ?_
  refine g_istore_n d_Model_settle_4 (by decide) rfl ?_
  exact kk
end MO
