/-! The reference: otherRows, isWished -/
theorem d_Model_isWished_0 : decode Y_Model_isWished.2.1 0 = .ok (.iconst 0, 1) := by decide +kernel
theorem d_Model_isWished_1 : decode Y_Model_isWished.2.1 1 = .ok (.istore 5, 2) := by decide +kernel
theorem d_Model_isWished_3 : decode Y_Model_isWished.2.1 3 = .ok (.iconst 0, 1) := by decide +kernel
theorem d_Model_isWished_4 : decode Y_Model_isWished.2.1 4 = .ok (.istore 6, 2) := by decide +kernel
theorem d_Model_isWished_6 : decode Y_Model_isWished.2.1 6 = .ok (.iload 6, 2) := by decide +kernel
theorem d_Model_isWished_8 : decode Y_Model_isWished.2.1 8 = .ok (.iload_n 2, 1) := by decide +kernel
theorem d_Model_isWished_9 : decode Y_Model_isWished.2.1 9 = .ok (.if_icmp .ge 62, 3) := by decide +kernel
theorem d_Model_isWished_12 : decode Y_Model_isWished.2.1 12 = .ok (.aload_n 0, 1) := by decide +kernel
theorem d_Model_isWished_13 : decode Y_Model_isWished.2.1 13 = .ok (.iload_n 1, 1) := by decide +kernel
theorem d_Model_isWished_14 : decode Y_Model_isWished.2.1 14 = .ok (.iload 6, 2) := by decide +kernel
theorem d_Model_isWished_16 : decode Y_Model_isWished.2.1 16 = .ok (.iadd, 1) := by decide +kernel
theorem d_Model_isWished_17 : decode Y_Model_isWished.2.1 17 = .ok (.iload_n 3, 1) := by decide +kernel
theorem d_Model_isWished_18 : decode Y_Model_isWished.2.1 18 = .ok (.invokevirtual 205, 3) := by decide +kernel
theorem d_Model_isWished_21 : decode Y_Model_isWished.2.1 21 = .ok (.istore 7, 2) := by decide +kernel
theorem d_Model_isWished_23 : decode Y_Model_isWished.2.1 23 = .ok (.iload 5, 2) := by decide +kernel
theorem d_Model_isWished_25 : decode Y_Model_isWished.2.1 25 = .ok (.ifCond .ne 33, 3) := by decide +kernel
theorem d_Model_isWished_28 : decode Y_Model_isWished.2.1 28 = .ok (.iload 7, 2) := by decide +kernel
theorem d_Model_isWished_30 : decode Y_Model_isWished.2.1 30 = .ok (.ifCond .lt 32, 3) := by decide +kernel
theorem d_Model_isWished_33 : decode Y_Model_isWished.2.1 33 = .ok (.aload_n 0, 1) := by decide +kernel
theorem d_Model_isWished_34 : decode Y_Model_isWished.2.1 34 = .ok (.getfield 25, 3) := by decide +kernel
theorem d_Model_isWished_37 : decode Y_Model_isWished.2.1 37 = .ok (.aload_n 0, 1) := by decide +kernel
theorem d_Model_isWished_38 : decode Y_Model_isWished.2.1 38 = .ok (.getfield 101, 3) := by decide +kernel
theorem d_Model_isWished_41 : decode Y_Model_isWished.2.1 41 = .ok (.bipush 26, 2) := by decide +kernel
theorem d_Model_isWished_43 : decode Y_Model_isWished.2.1 43 = .ok (.iload_n 1, 1) := by decide +kernel
theorem d_Model_isWished_44 : decode Y_Model_isWished.2.1 44 = .ok (.iload 6, 2) := by decide +kernel
theorem d_Model_isWished_46 : decode Y_Model_isWished.2.1 46 = .ok (.iadd, 1) := by decide +kernel
theorem d_Model_isWished_47 : decode Y_Model_isWished.2.1 47 = .ok (.imul, 1) := by decide +kernel
theorem d_Model_isWished_48 : decode Y_Model_isWished.2.1 48 = .ok (.iload 7, 2) := by decide +kernel
theorem d_Model_isWished_50 : decode Y_Model_isWished.2.1 50 = .ok (.iadd, 1) := by decide +kernel
theorem d_Model_isWished_51 : decode Y_Model_isWished.2.1 51 = .ok (.iaload, 1) := by decide +kernel
theorem d_Model_isWished_52 : decode Y_Model_isWished.2.1 52 = .ok (.iaload, 1) := by decide +kernel
theorem d_Model_isWished_53 : decode Y_Model_isWished.2.1 53 = .ok (.iload 4, 2) := by decide +kernel
theorem d_Model_isWished_55 : decode Y_Model_isWished.2.1 55 = .ok (.if_icmp .ne 7, 3) := by decide +kernel
theorem d_Model_isWished_58 : decode Y_Model_isWished.2.1 58 = .ok (.iconst 1, 1) := by decide +kernel
theorem d_Model_isWished_59 : decode Y_Model_isWished.2.1 59 = .ok (.goto 4, 3) := by decide +kernel
theorem d_Model_isWished_62 : decode Y_Model_isWished.2.1 62 = .ok (.iconst 0, 1) := by decide +kernel
theorem d_Model_isWished_63 : decode Y_Model_isWished.2.1 63 = .ok (.istore 5, 2) := by decide +kernel
theorem d_Model_isWished_65 : decode Y_Model_isWished.2.1 65 = .ok (.iinc 6 1, 3) := by decide +kernel
theorem d_Model_isWished_68 : decode Y_Model_isWished.2.1 68 = .ok (.goto (-62), 3) := by decide +kernel
theorem d_Model_isWished_71 : decode Y_Model_isWished.2.1 71 = .ok (.iload 5, 2) := by decide +kernel
theorem d_Model_isWished_73 : decode Y_Model_isWished.2.1 73 = .ok (.ireturn, 1) := by decide +kernel
section MH
variable {E : gE} {d : Nat} {G G0 : gS} {m n : Nat} {s : mS} {Q : gO → gS → Prop}
theorem rCopy_27 {F T R : Nat} (h : R ≠ T) : (rCopy s F T).2 27 R = s.2 27 R := by
  show upd ((wA s 26 T (s.2 26 F)).2 27) T (s.2 27 F) R = s.2 27 R
  exact if_neg h
/-- the rows from A on, k of them, that are not of case x, copied behind -/
def rOther (s : mS) (A : Nat) (x : Int32) : Nat → mS
  | 0 => s
  | k + 1 => if (rOther s A x k).2 26 (A + k) = x then rOther s A x k else wF (rCopy (rOther s A x k) (A + k) (tn ((rOther s A x k).1 46))) 46 ((rOther s A x k).1 46 + 1)
theorem rOther_inv {A K : Nat} {x : Int32} (h : ¬ s.1 46 < 0) (b : tn (s.1 46) + K < 41640) (a : A + K ≤ tn (s.1 46)) : ∀ k, k ≤ K → ¬ (rOther s A x k).1 46 < 0 ∧ tn (s.1 46) ≤ tn ((rOther s A x k).1 46) ∧ tn ((rOther s A x k).1 46) ≤ tn (s.1 46) + k ∧ ∀ R, R < A + K → (rOther s A x k).2 27 R = s.2 27 R := by
  intro k
  induction k with
  | zero => exact fun _ => ⟨h, Nat.le_refl _, Nat.le_refl _, fun _ _ => rfl⟩
  | succ k ih =>
    intro hk
    obtain ⟨p1, p2, p3, p4⟩ := ih (by omega)
    by_cases c : (rOther s A x k).2 26 (A + k) = x
    · have e : rOther s A x (k + 1) = rOther s A x k := if_pos c
      rw [e]
      exact ⟨p1, p2, by omega, p4⟩
    · have e : rOther s A x (k + 1) = wF (rCopy (rOther s A x k) (A + k) (tn ((rOther s A x k).1 46))) 46 ((rOther s A x k).1 46 + 1) := if_neg c
      have q := add_hi (tn_hi p1) i1 (by omega)
      have q2 := tn_eqk q
      rw [e]
      refine ⟨nlt_hi q, ?_, ?_, fun R hR => ?_⟩
      · show _ ≤ tn ((rOther s A x k).1 46 + 1)
        omega
      · show tn ((rOther s A x k).1 46 + 1) ≤ _
        omega
      · exact (rCopy_27 (by omega)).trans (p4 R hR)
set_option maxHeartbeats 400000 in
set_option maxRecDepth 100000 in
theorem m_W_other_l (hmn : m < n) {f q x : Int32} {A K : Nat} (hf : f.toInt = (A : Int)) (hq : q.toInt = (K : Int)) (h46 : ¬ s.1 46 < 0) (b46 : tn (s.1 46) + K < 41640) (a46 : A + K ≤ tn (s.1 46)) (hR : ∀ R, R < A + K → ¬ s.2 27 R < 0 ∧ tn (s.2 27 R) ≤ 26) : ∀ (w k : Nat), K + 1 ≤ k + w → k ≤ K → GT E Y_Model_otherRows (d + 1) G0 3 [(0, .ref m), (1, .int f), (2, .int q), (3, .int x), (4, .int (nI k))] [] (mW E G m n (rOther s A x k)) (rIs none (mW E G m n (rOther s A x K))) := by
  intro w
  induction w with
  | zero => intro k h1 h2; omega
  | succ w ih =>
    intro k hm hkN
    obtain ⟨p1, p2, p3, p4⟩ := rOther_inv (x := x) h46 b46 a46 k hkN
    refine g_iload d_Model_otherRows_3 rfl ?_
    refine g_iload_n d_Model_otherRows_5 rfl ?_
    refine g_icmp_ge (tgt := 50) d_Model_otherRows_6 (by decide) (fun c_6 => ?_) (fun c_6 => ?_)
    · refine g_vret rfl d_Model_otherRows_50 ?_
      have e : k = K := by have := (le_hi hq (nI_hi (n := k) (by omega))).mp c_6; omega
      subst e
      exact ⟨rfl, rfl⟩
    · have hk : k < K := Nat.not_le.mp (fun y => c_6 ((le_hi hq (nI_hi (n := k) (by omega))).mpr y))
      refine g_aload_n d_Model_otherRows_9 rfl ?_
      refine w_get (k := 41) fl_Model_91 (by decide) rfl d_Model_otherRows_10 ?_
      refine g_iload_n d_Model_otherRows_13 rfl ?_
      refine g_iload d_Model_otherRows_14 rfl ?_
      refine g_iadd d_Model_otherRows_16 ?_
      refine w_ald (j := 26) (q := A + k) (x := (rOther s A x k).2 26 (A + k)) hmn (by decide) (by decide) (add_hi hf (nI_hi (n := k) (by omega)) (by omega)) (by show _ < 41640; omega) rfl d_Model_otherRows_17 ?_
      refine g_iload_n d_Model_otherRows_18 rfl ?_
      refine g_icmp_eq (tgt := 44) d_Model_otherRows_19 (by decide) (fun c_19 => ?_) (fun c_19 => ?_)
      · refine g_iinc (v := nI k + 1) d_Model_otherRows_44 rfl (by rfl) (by decide) rfl ?_
        refine g_goto (tgt := 3) d_Model_otherRows_47 (by decide) ?_
        have e : rOther s A x (k + 1) = rOther s A x k := if_pos c_19
        have K_ := ih (k + 1) (by omega) (by omega)
        rw [e] at K_
        rw [nI_1]
        exact K_
      · refine g_aload_n d_Model_otherRows_22 rfl ?_
        refine g_iload_n d_Model_otherRows_23 rfl ?_
        refine g_iload d_Model_otherRows_24 rfl ?_
        refine g_iadd d_Model_otherRows_26 ?_
        refine g_aload_n d_Model_otherRows_27 rfl ?_
        refine w_get (k := 46) (x := .int ((rOther s A x k).1 46)) fl_Model_192 (by decide) rfl d_Model_otherRows_28 ?_
        refine c_Vr (as := [.int ((f) + (nI k)), .int ((rOther s A x k).1 46)]) kv_Model_copyRow ml_Model_188 rfl mw_f (m_W_copyRow (s := rOther s A x k) hmn (F := A + k) (T := tn ((rOther s A x k).1 46)) (add_hi hf (nI_hi (n := k) (by omega)) (by omega)) (tn_hi p1) (by omega) (by omega) (by omega) (by rw [p4 _ (by omega)]; exact (hR _ (by omega)).1) (by rw [p4 _ (by omega)]; exact (hR _ (by omega)).2)) rfl (Nat.le_of_ble_eq_true rfl) rfl d_Model_otherRows_31 rfl ?_
        refine g_aload_n d_Model_otherRows_34 rfl ?_
        refine g_dup d_Model_otherRows_35 rfl ?_
        refine w_get (k := 46) (x := .int ((rOther s A x k).1 46)) fl_Model_192 (by decide) rfl d_Model_otherRows_36 ?_
        refine g_iconst (v := 1) d_Model_otherRows_39 (by decide) ?_
        refine g_iadd d_Model_otherRows_40 ?_
        refine w_put (k := 46) fl_Model_192 (by decide) rfl rfl rfl rfl (Nat.le_of_ble_eq_true rfl) d_Model_otherRows_41 ?_
        refine g_iinc (v := nI k + 1) d_Model_otherRows_44 rfl (by rfl) (by decide) rfl ?_
        refine g_goto (tgt := 3) d_Model_otherRows_47 (by decide) ?_
        have e : rOther s A x (k + 1) = wF (rCopy (rOther s A x k) (A + k) (tn ((rOther s A x k).1 46))) 46 ((rOther s A x k).1 46 + 1) := if_neg c_19
        have K_ := ih (k + 1) (by omega) (by omega)
        rw [e] at K_
        rw [nI_1]
        exact K_
set_option maxHeartbeats 400000 in
set_option maxRecDepth 100000 in
theorem m_W_otherRows (hmn : m < n) {f q x : Int32} {A K : Nat} (hf : f.toInt = (A : Int)) (hq : q.toInt = (K : Int)) (h46 : ¬ s.1 46 < 0) (b46 : tn (s.1 46) + K < 41640) (a46 : A + K ≤ tn (s.1 46)) (hR : ∀ R, R < A + K → ¬ s.2 27 R < 0 ∧ tn (s.2 27 R) ≤ 26) : GM E Y_Model_otherRows (d + 1) [.ref m, .int f, .int q, .int x] (mW E G m n s) (rIs none (mW E G m n (rOther s A x K))) := by
  refine g_entry (by decide) (by simp [Value.category]) (Nat.le_of_ble_eq_true rfl) ?_
  refine g_iconst (v := 0) d_Model_otherRows_0 (by decide) ?_
  refine g_istore d_Model_otherRows_1 (by decide) rfl ?_
  exact m_W_other_l (s := s) hmn hf hq h46 b46 a46 hR (K + 1) 0 (by omega) (by omega)
abbrev rWs (s : mS) (R : Nat) (p : Int32) : Int32 := rWish s R p (tn (s.2 27 R))
theorem rWish_lt {R : Nat} {p : Int32} : ∀ k, k < 2 ^ 31 → ¬ rWish s R p k < 0 → tn (rWish s R p k) < k := by
  intro k
  induction k with
  | zero =>
    intro _ h
    have e : rWish s R p 0 < 0 := (by decide : (-1 : Int32) < 0)
    exact absurd e h
  | succ k ih =>
    intro hk h
    by_cases c : s.2 28 (26 * R + k) = p
    · have e : rWish s R p (k + 1) = nI k := if_pos c
      rw [e, tn_eqk (nI_hi (by omega))]
      omega
    · have e : rWish s R p (k + 1) = rWish s R p k := if_neg c
      rw [e] at h ⊢
      have := ih (by omega) h
      omega
/-- does a row from A on, k of them, wish x at p -/
def rIsW (s : mS) (A : Nat) (p x : Int32) : Nat → Int32
  | 0 => 0
  | k + 1 => if ¬ rIsW s A p x k = 0 then 1 else if rWs s (A + k) p < 0 then 0 else if s.2 5 (tn (s.2 29 (26 * (A + k) + tn (rWs s (A + k) p)))) = x then 1 else 0
theorem rIsW_n {A : Nat} {p x : Int32} : ∀ k, narrow .boolean (.int (rIsW s A p x k)) = .int (rIsW s A p x k) := by
  intro k
  have h : rIsW s A p x k = 0 ∨ rIsW s A p x k = 1 := by
    cases k with
    | zero => exact Or.inl rfl
    | succ k =>
      simp only [rIsW]
      split
      · exact Or.inr rfl
      · split
        · exact Or.inl rfl
        · split
          · exact Or.inr rfl
          · exact Or.inl rfl
  cases h with
  | inl h => rw [h]; rfl
  | inr h => rw [h]; rfl
set_option maxHeartbeats 400000 in
set_option maxRecDepth 100000 in
theorem m_W_isW_l (hmn : m < n) {f q p x : Int32} {A K : Nat} (hf : f.toInt = (A : Int)) (hq : q.toInt = (K : Int)) (hR : ∀ R, R < A + K → ¬ s.2 27 R < 0 ∧ tn (s.2 27 R) ≤ 26) (hW : ∀ R, R < A + K → ∀ j, j < tn (s.2 27 R) → ¬ s.2 29 (26 * R + j) < 0 ∧ tn (s.2 29 (26 * R + j)) < 700) (bA : A + K ≤ 41640) : ∀ (w k : Nat), K + 1 ≤ k + w → k ≤ K → GT E Y_Model_isWished (d + 1) G0 6 [(0, .ref m), (1, .int f), (2, .int q), (3, .int p), (4, .int x), (5, .int (rIsW s A p x k)), (6, .int (nI k))] [] (mW E G m n s) (rIs (some (.int (rIsW s A p x K))) (mW E G m n s)) := by
  intro w
  induction w with
  | zero => intro k h1 h2; omega
  | succ w ih =>
    intro k hm hkN
    refine g_iload d_Model_isWished_6 rfl ?_
    refine g_iload_n d_Model_isWished_8 rfl ?_
    refine g_icmp_ge (tgt := 71) d_Model_isWished_9 (by decide) (fun c_9 => ?_) (fun c_9 => ?_)
    · refine g_iload d_Model_isWished_71 rfl ?_
      refine g_zret rfl (rIsW_n _) d_Model_isWished_73 ?_
      have e : k = K := by have := (le_hi hq (nI_hi (n := k) (by omega))).mp c_9; omega
      subst e
      exact ⟨rfl, rfl⟩
    · have hk : k < K := Nat.not_le.mp (fun y => c_9 ((le_hi hq (nI_hi (n := k) (by omega))).mpr y))
      refine g_aload_n d_Model_isWished_12 rfl ?_
      refine g_iload_n d_Model_isWished_13 rfl ?_
      refine g_iload d_Model_isWished_14 rfl ?_
      refine g_iadd d_Model_isWished_16 ?_
      refine g_iload_n d_Model_isWished_17 rfl ?_
      refine c_Vr (as := [.int ((f) + (nI k)), .int (p)]) kv_Model_wish ml_Model_205 rfl mw_f (m_W_wish (s := s) (p := p) (F := A + k) hmn (add_hi hf (nI_hi (n := k) (by omega)) (by omega)) (by omega) (hR _ (by omega)).1 (hR _ (by omega)).2) rfl (Nat.le_of_ble_eq_true rfl) rfl d_Model_isWished_18 rfl ?_
      refine g_istore d_Model_isWished_21 (by decide) rfl ?_
      refine g_iload d_Model_isWished_23 rfl ?_
      refine g_if_ne (tgt := 58) d_Model_isWished_25 (by decide) (fun c_25 => ?_) (fun c_25 => ?_)
      · refine g_iconst (v := 1) d_Model_isWished_58 (by decide) ?_
        refine g_goto (tgt := 63) d_Model_isWished_59 (by decide) ?_
        refine g_istore d_Model_isWished_63 (by decide) rfl ?_
        refine g_iinc (v := nI k + 1) d_Model_isWished_65 rfl (by rfl) (by decide) rfl ?_
        refine g_goto (tgt := 6) d_Model_isWished_68 (by decide) ?_
        have e : rIsW s A p x (k + 1) = 1 := by simp only [rIsW, c_25, not_true_eq_false, not_false_eq_true, and_true, true_and, and_false, false_and, and_self, or_true, true_or, or_false, false_or, or_self, if_true, if_false, ite_true, ite_false]
        have K_ := ih (k + 1) (by omega) (by omega)
        rw [e] at K_
        rw [nI_1]
        exact g_weak (lv := [(0, .ref (m)), (1, .int (f)), (2, .int (q)), (3, .int (p)), (4, .int (x)), (5, .int (1)), (6, .int (nI (k + 1))), (7, .int (rWs s (A + k) p))]) (by simp) (by simp) K_
      · refine g_iload d_Model_isWished_28 rfl ?_
        refine g_if_lt (tgt := 62) d_Model_isWished_30 (by decide) (fun c_30 => ?_) (fun c_30 => ?_)
        · refine g_iconst (v := 0) d_Model_isWished_62 (by decide) ?_
          refine g_istore d_Model_isWished_63 (by decide) rfl ?_
          refine g_iinc (v := nI k + 1) d_Model_isWished_65 rfl (by rfl) (by decide) rfl ?_
          refine g_goto (tgt := 6) d_Model_isWished_68 (by decide) ?_
          have e : rIsW s A p x (k + 1) = 0 := by simp only [rIsW, c_25, c_30, not_true_eq_false, not_false_eq_true, and_true, true_and, and_false, false_and, and_self, or_true, true_or, or_false, false_or, or_self, if_true, if_false, ite_true, ite_false]
          have K_ := ih (k + 1) (by omega) (by omega)
          rw [e] at K_
          rw [nI_1]
          exact g_weak (lv := [(0, .ref (m)), (1, .int (f)), (2, .int (q)), (3, .int (p)), (4, .int (x)), (5, .int (0)), (6, .int (nI (k + 1))), (7, .int (rWs s (A + k) p))]) (by simp) (by simp) K_
        · have hw : tn (rWs s (A + k) p) < tn (s.2 27 (A + k)) := rWish_lt (s := s) (R := A + k) (p := p) (tn (s.2 27 (A + k))) (by have := (hR (A + k) (by omega)).2; omega) c_30
          have hb := (hR (A + k) (by omega)).2
          have hv := hW (A + k) (by omega) _ hw
          refine g_aload_n d_Model_isWished_33 rfl ?_
          refine w_get (k := 8) fl_Model_25 (by decide) rfl d_Model_isWished_34 ?_
          refine g_aload_n d_Model_isWished_37 rfl ?_
          refine w_get (k := 44) fl_Model_101 (by decide) rfl d_Model_isWished_38 ?_
          refine g_bipush (v := 26) d_Model_isWished_41 (by decide) ?_
          refine g_iload_n d_Model_isWished_43 rfl ?_
          refine g_iload d_Model_isWished_44 rfl ?_
          refine g_iadd d_Model_isWished_46 ?_
          refine g_imul d_Model_isWished_47 ?_
          refine g_iload d_Model_isWished_48 rfl ?_
          refine g_iadd d_Model_isWished_50 ?_
          refine w_ald (j := 29) (q := 26 * (A + k) + tn (rWs s (A + k) p)) (x := s.2 29 (26 * (A + k) + tn (rWs s (A + k) p))) hmn (by decide) (by decide) (add_hi (mul_hi (m := 26) (by decide) (add_hi hf (nI_hi (n := k) (by omega)) (by omega)) (by omega)) (tn_hi c_30) (by omega)) (by show _ < 1082640; omega) rfl d_Model_isWished_51 ?_
          refine w_ald (j := 5) (q := tn (s.2 29 (26 * (A + k) + tn (rWs s (A + k) p)))) (x := s.2 5 (tn (s.2 29 (26 * (A + k) + tn (rWs s (A + k) p))))) hmn (by decide) (by decide) (tn_hi hv.1) hv.2 rfl d_Model_isWished_52 ?_
          refine g_iload d_Model_isWished_53 rfl ?_
          refine g_icmp_ne (tgt := 62) d_Model_isWished_55 (by decide) (fun c_55 => ?_) (fun c_55 => ?_)
          · refine g_iconst (v := 0) d_Model_isWished_62 (by decide) ?_
            refine g_istore d_Model_isWished_63 (by decide) rfl ?_
            refine g_iinc (v := nI k + 1) d_Model_isWished_65 rfl (by rfl) (by decide) rfl ?_
            refine g_goto (tgt := 6) d_Model_isWished_68 (by decide) ?_
            have e : rIsW s A p x (k + 1) = 0 := by simp only [rIsW, c_25, c_30, c_55, not_true_eq_false, not_false_eq_true, and_true, true_and, and_false, false_and, and_self, or_true, true_or, or_false, false_or, or_self, if_true, if_false, ite_true, ite_false]
            have K_ := ih (k + 1) (by omega) (by omega)
            rw [e] at K_
            rw [nI_1]
            exact g_weak (lv := [(0, .ref (m)), (1, .int (f)), (2, .int (q)), (3, .int (p)), (4, .int (x)), (5, .int (0)), (6, .int (nI (k + 1))), (7, .int (rWs s (A + k) p))]) (by simp) (by simp) K_
          · refine g_iconst (v := 1) d_Model_isWished_58 (by decide) ?_
            refine g_goto (tgt := 63) d_Model_isWished_59 (by decide) ?_
            refine g_istore d_Model_isWished_63 (by decide) rfl ?_
            refine g_iinc (v := nI k + 1) d_Model_isWished_65 rfl (by rfl) (by decide) rfl ?_
            refine g_goto (tgt := 6) d_Model_isWished_68 (by decide) ?_
            have e : rIsW s A p x (k + 1) = 1 := by simp only [rIsW, c_25, c_30, c_55, not_true_eq_false, not_false_eq_true, and_true, true_and, and_false, false_and, and_self, or_true, true_or, or_false, false_or, or_self, if_true, if_false, ite_true, ite_false]
            have K_ := ih (k + 1) (by omega) (by omega)
            rw [e] at K_
            rw [nI_1]
            exact g_weak (lv := [(0, .ref (m)), (1, .int (f)), (2, .int (q)), (3, .int (p)), (4, .int (x)), (5, .int (1)), (6, .int (nI (k + 1))), (7, .int (rWs s (A + k) p))]) (by simp) (by simp) K_
set_option maxHeartbeats 400000 in
set_option maxRecDepth 100000 in
theorem m_W_isWished (hmn : m < n) {f q p x : Int32} {A K : Nat} (hf : f.toInt = (A : Int)) (hq : q.toInt = (K : Int)) (hR : ∀ R, R < A + K → ¬ s.2 27 R < 0 ∧ tn (s.2 27 R) ≤ 26) (hW : ∀ R, R < A + K → ∀ j, j < tn (s.2 27 R) → ¬ s.2 29 (26 * R + j) < 0 ∧ tn (s.2 29 (26 * R + j)) < 700) (bA : A + K ≤ 41640) : GM E Y_Model_isWished (d + 1) [.ref m, .int f, .int q, .int p, .int x] (mW E G m n s) (rIs (some (.int (rIsW s A p x K))) (mW E G m n s)) := by
  refine g_entry (by decide) (by simp [Value.category]) (Nat.le_of_ble_eq_true rfl) ?_
  refine g_iconst (v := 0) d_Model_isWished_0 (by decide) ?_
  refine g_istore d_Model_isWished_1 (by decide) rfl ?_
  refine g_iconst (v := 0) d_Model_isWished_3 (by decide) ?_
  refine g_istore d_Model_isWished_4 (by decide) rfl ?_
  exact m_W_isW_l hmn hf hq hR hW bA (K + 1) 0 (by omega) (by omega)
end MH
