/-! The reference: make, put together -/
section MF
variable {E : gE} {d : Nat} {G G0 : gS} {m n : Nat} {s : mS}
/-- make, once it is known to be good: the node with its parts -/
def rMkN (s : mS) (t c v M z e : Int32) (b : Nat) : mS := wR (rNode (wF s 0 0) 2 t c z e) 6 (cpy ((rNode (wF s 0 0) 2 t c z e).2 6) (4 * tn (s.1 5)) (tn M) (fun j => rPl (rNode (wF s 0 0) 2 t c z e) v (b + j)))
def rMkD (s : mS) (t c v M z e : Int32) (b : Nat) : mS := if v = 0 then wF (rMkN s t c v M z e b) 14 (s.1 14 - M) else wF (rMkN s t c v M z e b) 15 (s.1 15 - M)
def rMakeT (s : mS) (t c v M z e g : Int32) (b : Nat) : Int32 × mS := if g = 0 ∨ ¬ z ≤ (if v = 0 then 24 else 60) then (0, wF s 0 2) else (rHt (rMkD s t c v M z e b) v + 1, rPush (rMkD s t c v M z e b) (s.1 5 + 1 - 1) v)
def rG (M H : Int32) : Int32 := if H < M then 0 else if 0 < M then 1 else if 40 ≤ H then 0 else 1
theorem rG_ok {M H : Int32} (hM : ¬ M < 0) (hH : ¬ H < 0) (bH : tn H ≤ 40) (h : ¬ rG M H = 0) : tn M ≤ tn H ∧ tn H - tn M < 40 := by
  have z : (0 : Int32).toInt = ((0 : Nat) : Int) := by decide
  have f : (40 : Int32).toInt = ((40 : Nat) : Int) := by decide
  have c1 : ¬ H < M := fun q => h (if_pos q)
  have a1 : ¬ tn H < tn M := fun q => c1 ((lt_hi (tn_hi hH) (tn_hi hM)).mpr q)
  by_cases c2 : 0 < M
  · have := (lt_hi z (tn_hi hM)).mp c2
    omega
  · have c3 : ¬ 40 ≤ H := fun q => h ((if_neg c1).trans ((if_neg c2).trans (if_pos q)))
    have a3 : ¬ 40 ≤ tn H := fun q => c3 ((le_hi f (tn_hi hH)).mpr q)
    omega
def rMake (s : mS) (t c v : Int32) : Int32 × mS := if ¬ rIsM s t c then (0, wF s 0 1) else
  rMakeT (wF s 0 0) t c v (s.2 1 (rAt t c))
    (rMk (wF s 0 0) v (tn (rHt s v) - tn (s.2 1 (rAt t c))) (rAt t c) (rG (s.2 1 (rAt t c)) (rHt s v)) (tn (s.2 1 (rAt t c)))).2.1
    (rMk (wF s 0 0) v (tn (rHt s v) - tn (s.2 1 (rAt t c))) (rAt t c) (rG (s.2 1 (rAt t c)) (rHt s v)) (tn (s.2 1 (rAt t c)))).2.2
    (rMk (wF s 0 0) v (tn (rHt s v) - tn (s.2 1 (rAt t c))) (rAt t c) (rG (s.2 1 (rAt t c)) (rHt s v)) (tn (s.2 1 (rAt t c)))).1
    (tn (rHt s v) - tn (s.2 1 (rAt t c)))
set_option maxHeartbeats 400000 in
set_option maxRecDepth 100000 in
theorem m_W_make_t (hmn : m < n) {t c v q4 M H g z e : Int32} (hM : ¬ M < 0) (bM : tn M ≤ 4) (hH : ¬ H < 0) (bH : tn H ≤ 40) (hMH : ¬ g = 0 → tn M ≤ tn H ∧ tn H - tn M < 40) (hHs : H = rHt s v) (h5 : ¬ s.1 5 < 0) (b5 : tn (s.1 5) < 700) : GT E Y_Model_make (d + 1) G0 201 [(0, .ref m), (1, .int t), (2, .int c), (3, .int v), (4, .int q4), (5, .int M), (6, .int H), (7, .int g), (8, .int z), (9, .int e)] [] (mW E G m n s) (rIs (some (.int (rMakeT s t c v M z e g (tn H - tn M)).1)) (mW E G m n (rMakeT s t c v M z e g (tn H - tn M)).2)) := by
  refine g_aload_n d_Model_make_201 rfl ?_
  refine g_iload d_Model_make_202 rfl ?_
  refine g_if_eq (tgt := 223) d_Model_make_204 (by decide) (fun c_204 => ?_) (fun c_204 => ?_)
  · refine g_iconst (v := 2) d_Model_make_223 (by decide) ?_
    refine g_goto (tgt := 228) d_Model_make_224 (by decide) ?_
    refine c_Vr (as := [.int (2)]) kv_Model_refuses ml_Model_153 rfl mw_f (m_W_refuses2 (s := s) hmn) rfl (Nat.le_of_ble_eq_true rfl) rfl d_Model_make_228 rfl ?_
    refine g_if_eq (tgt := 236) d_Model_make_231 (by decide) (fun c_231 => absurd c_231 (by decide)) (fun c_231 => ?_)
    refine g_iconst (v := 0) d_Model_make_234 (by decide) ?_
    refine g_iret rfl d_Model_make_235 ?_
    have e_ : rMakeT s t c v M z e g (tn H - tn M) = (0, (wF s 0 (2))) := by simp only [rMakeT, c_204, not_true_eq_false, not_false_eq_true, and_true, true_and, and_false, false_and, and_self, or_true, true_or, or_false, false_or, or_self, if_true, if_false, ite_true, ite_false]
    rw [e_]
    exact ⟨rfl, rfl⟩
  · refine g_iload d_Model_make_207 rfl ?_
    refine g_iload_n d_Model_make_209 rfl ?_
    refine g_if_eq (tgt := 218) d_Model_make_210 (by decide) (fun c_210 => ?_) (fun c_210 => ?_)
    · refine g_bipush (v := 24) d_Model_make_218 (by decide) ?_
      refine g_icmp_le (tgt := 227) d_Model_make_220 (by decide) (fun c_220 => ?_) (fun c_220 => ?_)
      · refine g_iconst (v := 0) d_Model_make_227 (by decide) ?_
        refine c_Vr (as := [.int (0)]) kv_Model_refuses ml_Model_153 rfl mw_f (m_W_refuses0 (s := s) hmn) rfl (Nat.le_of_ble_eq_true rfl) rfl d_Model_make_228 rfl ?_
        refine g_if_eq (tgt := 236) d_Model_make_231 (by decide) (fun c_231 => ?_) (fun c_231 => absurd c_231 (by decide))
        refine g_aload_n d_Model_make_236 rfl ?_
        refine g_iconst (v := 2) d_Model_make_237 (by decide) ?_
        refine g_iload_n d_Model_make_238 rfl ?_
        refine g_iload_n d_Model_make_239 rfl ?_
        refine g_iload d_Model_make_240 rfl ?_
        refine g_iload d_Model_make_242 rfl ?_
        refine c_Vr (as := [.int (2), .int (t), .int (c), .int (z), .int (e)]) kv_Model_node ml_Model_169 rfl mw_f (m_W_node (s := (wF s 0 (0))) hmn h5 b5 (2) (t) (c) (z) (e)) rfl (Nat.le_of_ble_eq_true rfl) rfl d_Model_make_244 rfl ?_
        refine g_istore d_Model_make_247 (by decide) rfl ?_
        refine g_iconst (v := 0) d_Model_make_249 (by decide) ?_
        refine g_istore d_Model_make_250 (by decide) rfl ?_
        have hN : (s.1 5 + 1 - 1).toInt = ((tn (s.1 5) : Nat) : Int) := (sub_hi (add_hi (tn_hi h5) i1 (by omega)) i1 (by omega))
        have hG := hMH c_204
        have hD : rHt (rMkD s t c v M z e (tn H - tn M)) v = H - M := by
          rw [hHs]
          simp only [rHt, rMkD, if_pos c_210]
          rfl
        rw [← wC_0 (s := (rNode (wF s 0 0) 2 t c z e)) (j := 6) (b := 4 * tn (s.1 5)) (g := fun j => rPl (rNode (wF s 0 0) 2 t c z e) v (tn H - tn M + j))]
        refine m_W_make_l2 (s := (rNode (wF s 0 0) 2 t c z e)) (b := tn H - tn M) (K := tn (s.1 5)) hmn hN b5 hM bM hH bH hG.1 rfl ?_ (tn M + 1) 0 (by omega) (by omega)
        refine g_iload_n d_Model_make_310 rfl ?_
        refine g_if_eq (tgt := 328) d_Model_make_311 (by decide) (fun c_311 => ?_) (fun c_311 => ?_)
        rotate_left
        · exact absurd c_311 (fun q => q c_210)
        refine g_aload_n d_Model_make_328 rfl ?_
        refine g_dup d_Model_make_329 rfl ?_
        refine w_get (k := 14) (x := .int (s.1 14)) fl_Model_166 (by decide) rfl d_Model_make_330 ?_
        refine g_iload d_Model_make_333 rfl ?_
        refine g_isub d_Model_make_335 ?_
        refine w_put (k := 14) fl_Model_166 (by decide) rfl rfl rfl rfl (Nat.le_of_ble_eq_true rfl) d_Model_make_336 ?_
        show GT E Y_Model_make (d + 1) G0 339 _ [] (mW E G m n (wF (rMkN s t c v M z e (tn H - tn M)) 14 (s.1 14 - M))) _
        have eD : wF (rMkN s t c v M z e (tn H - tn M)) 14 (s.1 14 - M) = (rMkD s t c v M z e (tn H - tn M)) := by simp only [rMkD, if_pos c_210]
        rw [eD]
        refine g_aload_n d_Model_make_339 rfl ?_
        refine g_iload d_Model_make_340 rfl ?_
        refine g_iload_n d_Model_make_342 rfl ?_
        
        refine c_Vr (as := [.int (s.1 5 + 1 - 1), .int (v)]) kv_Model_push ml_Model_173 rfl mw_f (m_W_push (s := (rMkD s t c v M z e (tn H - tn M))) (v := v) hmn (by rw [hD]; exact nlt_hi (sub_hi (tn_hi hH) (tn_hi hM) hG.1)) (by rw [hD, tn_eqk (sub_hi (tn_hi hH) (tn_hi hM) hG.1)]; exact hG.2) (s.1 5 + 1 - 1)) rfl (Nat.le_of_ble_eq_true rfl) rfl d_Model_make_343 rfl ?_
        refine g_iret rfl d_Model_make_346 ?_
        have e_ : rMakeT s t c v M z e g (tn H - tn M) = (rHt (rMkD s t c v M z e (tn H - tn M)) v + 1, (rPush (rMkD s t c v M z e (tn H - tn M)) (s.1 5 + 1 - 1) v)) := by simp only [rMakeT, if_pos c_210, c_204, c_220, not_true_eq_false, not_false_eq_true, and_true, true_and, and_false, false_and, and_self, or_true, true_or, or_false, false_or, or_self, if_true, if_false, ite_true, ite_false]
        rw [e_]
        exact ⟨rfl, rfl⟩
      · refine g_iconst (v := 2) d_Model_make_223 (by decide) ?_
        refine g_goto (tgt := 228) d_Model_make_224 (by decide) ?_
        refine c_Vr (as := [.int (2)]) kv_Model_refuses ml_Model_153 rfl mw_f (m_W_refuses2 (s := s) hmn) rfl (Nat.le_of_ble_eq_true rfl) rfl d_Model_make_228 rfl ?_
        refine g_if_eq (tgt := 236) d_Model_make_231 (by decide) (fun c_231 => absurd c_231 (by decide)) (fun c_231 => ?_)
        refine g_iconst (v := 0) d_Model_make_234 (by decide) ?_
        refine g_iret rfl d_Model_make_235 ?_
        have e_ : rMakeT s t c v M z e g (tn H - tn M) = (0, (wF s 0 (2))) := by simp only [rMakeT, if_pos c_210, c_204, c_220, not_true_eq_false, not_false_eq_true, and_true, true_and, and_false, false_and, and_self, or_true, true_or, or_false, false_or, or_self, if_true, if_false, ite_true, ite_false]
        rw [e_]
        exact ⟨rfl, rfl⟩
    · refine g_bipush (v := 60) d_Model_make_213 (by decide) ?_
      refine g_goto (tgt := 220) d_Model_make_215 (by decide) ?_
      refine g_icmp_le (tgt := 227) d_Model_make_220 (by decide) (fun c_220 => ?_) (fun c_220 => ?_)
      · refine g_iconst (v := 0) d_Model_make_227 (by decide) ?_
        refine c_Vr (as := [.int (0)]) kv_Model_refuses ml_Model_153 rfl mw_f (m_W_refuses0 (s := s) hmn) rfl (Nat.le_of_ble_eq_true rfl) rfl d_Model_make_228 rfl ?_
        refine g_if_eq (tgt := 236) d_Model_make_231 (by decide) (fun c_231 => ?_) (fun c_231 => absurd c_231 (by decide))
        refine g_aload_n d_Model_make_236 rfl ?_
        refine g_iconst (v := 2) d_Model_make_237 (by decide) ?_
        refine g_iload_n d_Model_make_238 rfl ?_
        refine g_iload_n d_Model_make_239 rfl ?_
        refine g_iload d_Model_make_240 rfl ?_
        refine g_iload d_Model_make_242 rfl ?_
        refine c_Vr (as := [.int (2), .int (t), .int (c), .int (z), .int (e)]) kv_Model_node ml_Model_169 rfl mw_f (m_W_node (s := (wF s 0 (0))) hmn h5 b5 (2) (t) (c) (z) (e)) rfl (Nat.le_of_ble_eq_true rfl) rfl d_Model_make_244 rfl ?_
        refine g_istore d_Model_make_247 (by decide) rfl ?_
        refine g_iconst (v := 0) d_Model_make_249 (by decide) ?_
        refine g_istore d_Model_make_250 (by decide) rfl ?_
        have hN : (s.1 5 + 1 - 1).toInt = ((tn (s.1 5) : Nat) : Int) := (sub_hi (add_hi (tn_hi h5) i1 (by omega)) i1 (by omega))
        have hG := hMH c_204
        have hD : rHt (rMkD s t c v M z e (tn H - tn M)) v = H - M := by
          rw [hHs]
          simp only [rHt, rMkD, if_neg c_210]
          rfl
        rw [← wC_0 (s := (rNode (wF s 0 0) 2 t c z e)) (j := 6) (b := 4 * tn (s.1 5)) (g := fun j => rPl (rNode (wF s 0 0) 2 t c z e) v (tn H - tn M + j))]
        refine m_W_make_l2 (s := (rNode (wF s 0 0) 2 t c z e)) (b := tn H - tn M) (K := tn (s.1 5)) hmn hN b5 hM bM hH bH hG.1 rfl ?_ (tn M + 1) 0 (by omega) (by omega)
        refine g_iload_n d_Model_make_310 rfl ?_
        refine g_if_eq (tgt := 328) d_Model_make_311 (by decide) (fun c_311 => ?_) (fun c_311 => ?_)
        · exact absurd c_311 c_210
        refine g_aload_n d_Model_make_314 rfl ?_
        refine g_dup d_Model_make_315 rfl ?_
        refine w_get (k := 15) (x := .int (s.1 15)) fl_Model_163 (by decide) rfl d_Model_make_316 ?_
        refine g_iload d_Model_make_319 rfl ?_
        refine g_isub d_Model_make_321 ?_
        refine w_put (k := 15) fl_Model_163 (by decide) rfl rfl rfl rfl (Nat.le_of_ble_eq_true rfl) d_Model_make_322 ?_
        refine g_goto (tgt := 339) d_Model_make_325 (by decide) ?_
        show GT E Y_Model_make (d + 1) G0 339 _ [] (mW E G m n (wF (rMkN s t c v M z e (tn H - tn M)) 15 (s.1 15 - M))) _
        have eD : wF (rMkN s t c v M z e (tn H - tn M)) 15 (s.1 15 - M) = (rMkD s t c v M z e (tn H - tn M)) := by simp only [rMkD, if_neg c_210]
        rw [eD]
        refine g_aload_n d_Model_make_339 rfl ?_
        refine g_iload d_Model_make_340 rfl ?_
        refine g_iload_n d_Model_make_342 rfl ?_
        
        refine c_Vr (as := [.int (s.1 5 + 1 - 1), .int (v)]) kv_Model_push ml_Model_173 rfl mw_f (m_W_push (s := (rMkD s t c v M z e (tn H - tn M))) (v := v) hmn (by rw [hD]; exact nlt_hi (sub_hi (tn_hi hH) (tn_hi hM) hG.1)) (by rw [hD, tn_eqk (sub_hi (tn_hi hH) (tn_hi hM) hG.1)]; exact hG.2) (s.1 5 + 1 - 1)) rfl (Nat.le_of_ble_eq_true rfl) rfl d_Model_make_343 rfl ?_
        refine g_iret rfl d_Model_make_346 ?_
        have e_ : rMakeT s t c v M z e g (tn H - tn M) = (rHt (rMkD s t c v M z e (tn H - tn M)) v + 1, (rPush (rMkD s t c v M z e (tn H - tn M)) (s.1 5 + 1 - 1) v)) := by simp only [rMakeT, if_neg c_210, c_204, c_220, not_true_eq_false, not_false_eq_true, and_true, true_and, and_false, false_and, and_self, or_true, true_or, or_false, false_or, or_self, if_true, if_false, ite_true, ite_false]
        rw [e_]
        exact ⟨rfl, rfl⟩
      · refine g_iconst (v := 2) d_Model_make_223 (by decide) ?_
        refine g_goto (tgt := 228) d_Model_make_224 (by decide) ?_
        refine c_Vr (as := [.int (2)]) kv_Model_refuses ml_Model_153 rfl mw_f (m_W_refuses2 (s := s) hmn) rfl (Nat.le_of_ble_eq_true rfl) rfl d_Model_make_228 rfl ?_
        refine g_if_eq (tgt := 236) d_Model_make_231 (by decide) (fun c_231 => absurd c_231 (by decide)) (fun c_231 => ?_)
        refine g_iconst (v := 0) d_Model_make_234 (by decide) ?_
        refine g_iret rfl d_Model_make_235 ?_
        have e_ : rMakeT s t c v M z e g (tn H - tn M) = (0, (wF s 0 (2))) := by simp only [rMakeT, if_neg c_210, c_204, c_220, not_true_eq_false, not_false_eq_true, and_true, true_and, and_false, false_and, and_self, or_true, true_or, or_false, false_or, or_self, if_true, if_false, ite_true, ite_false]
        rw [e_]
        exact ⟨rfl, rfl⟩
set_option maxHeartbeats 400000 in
set_option maxRecDepth 100000 in
theorem m_W_make (hmn : m < n) (h5 : ¬ s.1 5 < 0) (b5 : tn (s.1 5) < 700) {v : Int32} (h14 : ¬ rHt s v < 0) (b14 : rHt s v ≤ 40) (ht : ∀ k, k < 16 → s.2 0 k ≤ 9) (hk : ∀ k, k < 128 → ¬ s.2 1 k < 0 ∧ s.2 1 k ≤ 4) (hp : ∀ k, k < tn (rHt s v) → ¬ rPl s v k < 0 ∧ tn (rPl s v k) < 700) (t c : Int32) : GM E Y_Model_make (d + 2) [.ref m, .int t, .int c, .int v] (mW E G m n s) (rIs (some (.int (rMake s t c v).1)) (mW E G m n (rMake s t c v).2)) := by
  refine g_entry (by decide) (by simp [Value.category]) (Nat.le_of_ble_eq_true rfl) ?_
  refine g_aload_n d_Model_make_0 rfl ?_
  refine g_aload_n d_Model_make_1 rfl ?_
  refine g_iload_n d_Model_make_2 rfl ?_
  refine g_iload_n d_Model_make_3 rfl ?_
  refine c_Vr (as := [.int (t), .int (c)]) kv_Model_isMaker ml_Model_156 rfl mw_f (m_W_isMaker hmn (s := s) t c) rfl (Nat.le_of_ble_eq_true rfl) rfl d_Model_make_4 rfl ?_
  refine g_if_eq (tgt := 14) d_Model_make_7 (by decide) (fun c_7 => ?_) (fun c_7 => ?_)
  · have c_7 := b32_f c_7
    refine g_iconst (v := 1) d_Model_make_14 (by decide) ?_
    refine c_Vr (as := [.int (1)]) kv_Model_refuses ml_Model_153 rfl mw_f (m_W_refuses1 (s := s) hmn) rfl (Nat.le_of_ble_eq_true rfl) rfl d_Model_make_15 rfl ?_
    refine g_if_eq (tgt := 23) d_Model_make_18 (by decide) (fun c_18 => absurd c_18 (by decide)) (fun c_18 => ?_)
    refine g_iconst (v := 0) d_Model_make_21 (by decide) ?_
    refine g_iret rfl d_Model_make_22 ?_
    have e : rMake s t c v = (0, (wF s 0 (1))) := by first | (simp only [rMake, c_7, not_true_eq_false, not_false_eq_true, and_true, true_and, and_false, false_and, and_self, or_true, true_or, or_false, false_or, or_self, if_true, if_false, ite_true, ite_false]; done) | (simp [rMake, c_7]; done) | (simp_all [rMake]; done)
    rw [e]
    exact ⟨rfl, rfl⟩
  · have c_7 := b32_t c_7
    have hm_ := c_7
    refine g_iconst (v := 0) d_Model_make_10 (by decide) ?_
    refine g_goto (tgt := 15) d_Model_make_11 (by decide) ?_
    refine c_Vr (as := [.int (0)]) kv_Model_refuses ml_Model_153 rfl mw_f (m_W_refuses0 (s := s) hmn) rfl (Nat.le_of_ble_eq_true rfl) rfl d_Model_make_15 rfl ?_
    refine g_if_eq (tgt := 23) d_Model_make_18 (by decide) (fun c_18 => ?_) (fun c_18 => absurd c_18 (by decide))
    refine g_bipush (v := 8) d_Model_make_23 (by decide) ?_
    refine g_iload_n d_Model_make_25 rfl ?_
    refine g_imul d_Model_make_26 ?_
    refine g_iload_n d_Model_make_27 rfl ?_
    refine g_iadd d_Model_make_28 ?_
    refine g_istore d_Model_make_29 (by decide) rfl ?_
    refine g_aload_n d_Model_make_31 rfl ?_
    refine w_get (k := 2) fl_Model_13 (by decide) rfl d_Model_make_32 ?_
    refine g_iload d_Model_make_35 rfl ?_
    refine w_ald (j := 1) (q := rAt t c) (x := s.2 1 (rAt t c)) hmn (by decide) (by decide) (rAt_hi hm_.1.1 hm_.1.2.1 hm_.2.1 (rM_c hm_ ht)).1 (rAt_hi hm_.1.1 hm_.1.2.1 hm_.2.1 (rM_c hm_ ht)).2 rfl d_Model_make_37 ?_
    refine g_istore d_Model_make_38 (by decide) rfl ?_
    refine g_aload_n d_Model_make_40 rfl ?_
    refine g_iload_n d_Model_make_41 rfl ?_
    refine c_Vr (as := [.int (v)]) kv_Model_height ml_Model_177 rfl mw_f (m_W_height hmn (s := (wF s 0 (0))) v) rfl (Nat.le_of_ble_eq_true rfl) rfl d_Model_make_42 rfl ?_
    refine g_istore d_Model_make_45 (by decide) rfl ?_
    
    refine g_iload d_Model_make_47 rfl ?_
    refine g_iload d_Model_make_49 rfl ?_
    refine g_icmp_lt (tgt := 70) d_Model_make_51 (by decide) (fun c_51 => ?_) (fun c_51 => ?_)
    · refine g_iconst (v := 0) d_Model_make_70 (by decide) ?_
      refine g_istore d_Model_make_71 (by decide) rfl ?_
      refine g_iconst (v := 1) d_Model_make_73 (by decide) ?_
      refine g_istore d_Model_make_74 (by decide) rfl ?_
      refine g_iconst (v := 0) d_Model_make_76 (by decide) ?_
      refine g_istore d_Model_make_77 (by decide) rfl ?_
      refine g_iconst (v := 0) d_Model_make_79 (by decide) ?_
      refine g_istore d_Model_make_80 (by decide) rfl ?_
      replace c_51 : (rHt s v) < (s.2 1 (rAt t c)) := c_51
      have hM := (hk _ (rAt_hi hm_.1.1 hm_.1.2.1 hm_.2.1 (rM_c hm_ ht)).2).1
      have bM := tn_ly hM (hk _ (rAt_hi hm_.1.1 hm_.1.2.1 hm_.2.1 (rM_c hm_ ht)).2).2 i4
      have eg : rG (s.2 1 (rAt t c)) (rHt s v) = 0 := by simp only [rG, c_51, not_true_eq_false, not_false_eq_true, and_true, true_and, and_false, false_and, and_self, or_true, true_or, or_false, false_or, or_self, if_true, if_false, ite_true, ite_false]
      have e0 : rMk (wF s 0 0) v (tn (rHt s v) - tn (s.2 1 (rAt t c))) (rAt t c) (rG (s.2 1 (rAt t c)) (rHt s v)) 0 = (0, 1, 0) := by rw [eg]; rfl
      have e1 : rMake s t c v = rMakeT (wF s 0 0) t c v (s.2 1 (rAt t c)) (rMk (wF s 0 0) v (tn (rHt s v) - tn (s.2 1 (rAt t c))) (rAt t c) (rG (s.2 1 (rAt t c)) (rHt s v)) (tn (s.2 1 (rAt t c)))).2.1 (rMk (wF s 0 0) v (tn (rHt s v) - tn (s.2 1 (rAt t c))) (rAt t c) (rG (s.2 1 (rAt t c)) (rHt s v)) (tn (s.2 1 (rAt t c)))).2.2 (rMk (wF s 0 0) v (tn (rHt s v) - tn (s.2 1 (rAt t c))) (rAt t c) (rG (s.2 1 (rAt t c)) (rHt s v)) (tn (s.2 1 (rAt t c)))).1 (tn (rHt s v) - tn (s.2 1 (rAt t c))) := if_neg (fun q => q hm_)
      rw [e1]
      have K := m_W_make_l1 (E := E) (d := d + 2) (G0 := mW E G m n s) (G := G) (s := wF s 0 0) (t := t) (c := c) (v := v) (g0 := rG (s.2 1 (rAt t c)) (rHt s v)) (b := (tn (rHt s v) - tn (s.2 1 (rAt t c)))) hmn (rAt_hi hm_.1.1 hm_.1.2.1 hm_.2.1 (rM_c hm_ ht)).1 (rAt_hi hm_.1.1 hm_.1.2.1 hm_.2.1 (rM_c hm_ ht)).2 hM bM h14 (tn_ly h14 b14 (by decide)) (fun q => (rG_ok hM h14 (tn_ly h14 b14 (by decide)) q).1) rfl hp (m_W_make_t (d := d + 1) (s := wF s 0 0) hmn hM bM h14 (tn_ly h14 b14 (by decide)) (fun q => rG_ok hM h14 (tn_ly h14 b14 (by decide)) (rMk_g q)) rfl h5 b5) (tn (s.2 1 (rAt t c)) + 1) 0 (by omega) (by omega)
      rw [e0] at K
      exact K
    · refine g_iload d_Model_make_54 rfl ?_
      refine g_if_gt (tgt := 66) d_Model_make_56 (by decide) (fun c_56 => ?_) (fun c_56 => ?_)
      · refine g_iconst (v := 1) d_Model_make_66 (by decide) ?_
        refine g_goto (tgt := 71) d_Model_make_67 (by decide) ?_
        refine g_istore d_Model_make_71 (by decide) rfl ?_
        refine g_iconst (v := 1) d_Model_make_73 (by decide) ?_
        refine g_istore d_Model_make_74 (by decide) rfl ?_
        refine g_iconst (v := 0) d_Model_make_76 (by decide) ?_
        refine g_istore d_Model_make_77 (by decide) rfl ?_
        refine g_iconst (v := 0) d_Model_make_79 (by decide) ?_
        refine g_istore d_Model_make_80 (by decide) rfl ?_
        replace c_51 : ¬ (rHt s v) < (s.2 1 (rAt t c)) := c_51
        have hM := (hk _ (rAt_hi hm_.1.1 hm_.1.2.1 hm_.2.1 (rM_c hm_ ht)).2).1
        have bM := tn_ly hM (hk _ (rAt_hi hm_.1.1 hm_.1.2.1 hm_.2.1 (rM_c hm_ ht)).2).2 i4
        have eg : rG (s.2 1 (rAt t c)) (rHt s v) = 1 := by simp only [rG, c_51, c_56, not_true_eq_false, not_false_eq_true, and_true, true_and, and_false, false_and, and_self, or_true, true_or, or_false, false_or, or_self, if_true, if_false, ite_true, ite_false]
        have e0 : rMk (wF s 0 0) v (tn (rHt s v) - tn (s.2 1 (rAt t c))) (rAt t c) (rG (s.2 1 (rAt t c)) (rHt s v)) 0 = (1, 1, 0) := by rw [eg]; rfl
        have e1 : rMake s t c v = rMakeT (wF s 0 0) t c v (s.2 1 (rAt t c)) (rMk (wF s 0 0) v (tn (rHt s v) - tn (s.2 1 (rAt t c))) (rAt t c) (rG (s.2 1 (rAt t c)) (rHt s v)) (tn (s.2 1 (rAt t c)))).2.1 (rMk (wF s 0 0) v (tn (rHt s v) - tn (s.2 1 (rAt t c))) (rAt t c) (rG (s.2 1 (rAt t c)) (rHt s v)) (tn (s.2 1 (rAt t c)))).2.2 (rMk (wF s 0 0) v (tn (rHt s v) - tn (s.2 1 (rAt t c))) (rAt t c) (rG (s.2 1 (rAt t c)) (rHt s v)) (tn (s.2 1 (rAt t c)))).1 (tn (rHt s v) - tn (s.2 1 (rAt t c))) := if_neg (fun q => q hm_)
        rw [e1]
        have K := m_W_make_l1 (E := E) (d := d + 2) (G0 := mW E G m n s) (G := G) (s := wF s 0 0) (t := t) (c := c) (v := v) (g0 := rG (s.2 1 (rAt t c)) (rHt s v)) (b := (tn (rHt s v) - tn (s.2 1 (rAt t c)))) hmn (rAt_hi hm_.1.1 hm_.1.2.1 hm_.2.1 (rM_c hm_ ht)).1 (rAt_hi hm_.1.1 hm_.1.2.1 hm_.2.1 (rM_c hm_ ht)).2 hM bM h14 (tn_ly h14 b14 (by decide)) (fun q => (rG_ok hM h14 (tn_ly h14 b14 (by decide)) q).1) rfl hp (m_W_make_t (d := d + 1) (s := wF s 0 0) hmn hM bM h14 (tn_ly h14 b14 (by decide)) (fun q => rG_ok hM h14 (tn_ly h14 b14 (by decide)) (rMk_g q)) rfl h5 b5) (tn (s.2 1 (rAt t c)) + 1) 0 (by omega) (by omega)
        rw [e0] at K
        exact K
      · refine g_iload d_Model_make_59 rfl ?_
        refine g_bipush (v := 40) d_Model_make_61 (by decide) ?_
        refine g_icmp_ge (tgt := 70) d_Model_make_63 (by decide) (fun c_63 => ?_) (fun c_63 => ?_)
        · refine g_iconst (v := 0) d_Model_make_70 (by decide) ?_
          refine g_istore d_Model_make_71 (by decide) rfl ?_
          refine g_iconst (v := 1) d_Model_make_73 (by decide) ?_
          refine g_istore d_Model_make_74 (by decide) rfl ?_
          refine g_iconst (v := 0) d_Model_make_76 (by decide) ?_
          refine g_istore d_Model_make_77 (by decide) rfl ?_
          refine g_iconst (v := 0) d_Model_make_79 (by decide) ?_
          refine g_istore d_Model_make_80 (by decide) rfl ?_
          replace c_51 : ¬ (rHt s v) < (s.2 1 (rAt t c)) := c_51
          replace c_63 : 40 ≤ (rHt s v) := c_63
          have hM := (hk _ (rAt_hi hm_.1.1 hm_.1.2.1 hm_.2.1 (rM_c hm_ ht)).2).1
          have bM := tn_ly hM (hk _ (rAt_hi hm_.1.1 hm_.1.2.1 hm_.2.1 (rM_c hm_ ht)).2).2 i4
          have eg : rG (s.2 1 (rAt t c)) (rHt s v) = 0 := by simp only [rG, c_51, c_56, c_63, not_true_eq_false, not_false_eq_true, and_true, true_and, and_false, false_and, and_self, or_true, true_or, or_false, false_or, or_self, if_true, if_false, ite_true, ite_false]
          have e0 : rMk (wF s 0 0) v (tn (rHt s v) - tn (s.2 1 (rAt t c))) (rAt t c) (rG (s.2 1 (rAt t c)) (rHt s v)) 0 = (0, 1, 0) := by rw [eg]; rfl
          have e1 : rMake s t c v = rMakeT (wF s 0 0) t c v (s.2 1 (rAt t c)) (rMk (wF s 0 0) v (tn (rHt s v) - tn (s.2 1 (rAt t c))) (rAt t c) (rG (s.2 1 (rAt t c)) (rHt s v)) (tn (s.2 1 (rAt t c)))).2.1 (rMk (wF s 0 0) v (tn (rHt s v) - tn (s.2 1 (rAt t c))) (rAt t c) (rG (s.2 1 (rAt t c)) (rHt s v)) (tn (s.2 1 (rAt t c)))).2.2 (rMk (wF s 0 0) v (tn (rHt s v) - tn (s.2 1 (rAt t c))) (rAt t c) (rG (s.2 1 (rAt t c)) (rHt s v)) (tn (s.2 1 (rAt t c)))).1 (tn (rHt s v) - tn (s.2 1 (rAt t c))) := if_neg (fun q => q hm_)
          rw [e1]
          have K := m_W_make_l1 (E := E) (d := d + 2) (G0 := mW E G m n s) (G := G) (s := wF s 0 0) (t := t) (c := c) (v := v) (g0 := rG (s.2 1 (rAt t c)) (rHt s v)) (b := (tn (rHt s v) - tn (s.2 1 (rAt t c)))) hmn (rAt_hi hm_.1.1 hm_.1.2.1 hm_.2.1 (rM_c hm_ ht)).1 (rAt_hi hm_.1.1 hm_.1.2.1 hm_.2.1 (rM_c hm_ ht)).2 hM bM h14 (tn_ly h14 b14 (by decide)) (fun q => (rG_ok hM h14 (tn_ly h14 b14 (by decide)) q).1) rfl hp (m_W_make_t (d := d + 1) (s := wF s 0 0) hmn hM bM h14 (tn_ly h14 b14 (by decide)) (fun q => rG_ok hM h14 (tn_ly h14 b14 (by decide)) (rMk_g q)) rfl h5 b5) (tn (s.2 1 (rAt t c)) + 1) 0 (by omega) (by omega)
          rw [e0] at K
          exact K
        · refine g_iconst (v := 1) d_Model_make_66 (by decide) ?_
          refine g_goto (tgt := 71) d_Model_make_67 (by decide) ?_
          refine g_istore d_Model_make_71 (by decide) rfl ?_
          refine g_iconst (v := 1) d_Model_make_73 (by decide) ?_
          refine g_istore d_Model_make_74 (by decide) rfl ?_
          refine g_iconst (v := 0) d_Model_make_76 (by decide) ?_
          refine g_istore d_Model_make_77 (by decide) rfl ?_
          refine g_iconst (v := 0) d_Model_make_79 (by decide) ?_
          refine g_istore d_Model_make_80 (by decide) rfl ?_
          replace c_51 : ¬ (rHt s v) < (s.2 1 (rAt t c)) := c_51
          replace c_63 : ¬ 40 ≤ (rHt s v) := c_63
          have hM := (hk _ (rAt_hi hm_.1.1 hm_.1.2.1 hm_.2.1 (rM_c hm_ ht)).2).1
          have bM := tn_ly hM (hk _ (rAt_hi hm_.1.1 hm_.1.2.1 hm_.2.1 (rM_c hm_ ht)).2).2 i4
          have eg : rG (s.2 1 (rAt t c)) (rHt s v) = 1 := by simp only [rG, c_51, c_56, c_63, not_true_eq_false, not_false_eq_true, and_true, true_and, and_false, false_and, and_self, or_true, true_or, or_false, false_or, or_self, if_true, if_false, ite_true, ite_false]
          have e0 : rMk (wF s 0 0) v (tn (rHt s v) - tn (s.2 1 (rAt t c))) (rAt t c) (rG (s.2 1 (rAt t c)) (rHt s v)) 0 = (1, 1, 0) := by rw [eg]; rfl
          have e1 : rMake s t c v = rMakeT (wF s 0 0) t c v (s.2 1 (rAt t c)) (rMk (wF s 0 0) v (tn (rHt s v) - tn (s.2 1 (rAt t c))) (rAt t c) (rG (s.2 1 (rAt t c)) (rHt s v)) (tn (s.2 1 (rAt t c)))).2.1 (rMk (wF s 0 0) v (tn (rHt s v) - tn (s.2 1 (rAt t c))) (rAt t c) (rG (s.2 1 (rAt t c)) (rHt s v)) (tn (s.2 1 (rAt t c)))).2.2 (rMk (wF s 0 0) v (tn (rHt s v) - tn (s.2 1 (rAt t c))) (rAt t c) (rG (s.2 1 (rAt t c)) (rHt s v)) (tn (s.2 1 (rAt t c)))).1 (tn (rHt s v) - tn (s.2 1 (rAt t c))) := if_neg (fun q => q hm_)
          rw [e1]
          have K := m_W_make_l1 (E := E) (d := d + 2) (G0 := mW E G m n s) (G := G) (s := wF s 0 0) (t := t) (c := c) (v := v) (g0 := rG (s.2 1 (rAt t c)) (rHt s v)) (b := (tn (rHt s v) - tn (s.2 1 (rAt t c)))) hmn (rAt_hi hm_.1.1 hm_.1.2.1 hm_.2.1 (rM_c hm_ ht)).1 (rAt_hi hm_.1.1 hm_.1.2.1 hm_.2.1 (rM_c hm_ ht)).2 hM bM h14 (tn_ly h14 b14 (by decide)) (fun q => (rG_ok hM h14 (tn_ly h14 b14 (by decide)) q).1) rfl hp (m_W_make_t (d := d + 1) (s := wF s 0 0) hmn hM bM h14 (tn_ly h14 b14 (by decide)) (fun q => rG_ok hM h14 (tn_ly h14 b14 (by decide)) (rMk_g q)) rfl h5 b5) (tn (s.2 1 (rAt t c)) + 1) 0 (by omega) (by omega)
          rw [e0] at K
          exact K
end MF
