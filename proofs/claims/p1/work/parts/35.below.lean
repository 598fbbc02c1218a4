/-! The reference: below, other; how often a loop over wished numbers goes -/
theorem d_Model_below_0 : decode Y_Model_below.2.1 0 = .ok (.iconst 0, 1) := by decide +kernel
theorem d_Model_below_1 : decode Y_Model_below.2.1 1 = .ok (.istore 5, 2) := by decide +kernel
theorem d_Model_below_3 : decode Y_Model_below.2.1 3 = .ok (.aload_n 0, 1) := by decide +kernel
theorem d_Model_below_4 : decode Y_Model_below.2.1 4 = .ok (.iload_n 1, 1) := by decide +kernel
theorem d_Model_below_5 : decode Y_Model_below.2.1 5 = .ok (.iload_n 2, 1) := by decide +kernel
theorem d_Model_below_6 : decode Y_Model_below.2.1 6 = .ok (.iload_n 3, 1) := by decide +kernel
theorem d_Model_below_7 : decode Y_Model_below.2.1 7 = .ok (.iconst 0, 1) := by decide +kernel
theorem d_Model_below_8 : decode Y_Model_below.2.1 8 = .ok (.iconst 1, 1) := by decide +kernel
theorem d_Model_below_9 : decode Y_Model_below.2.1 9 = .ok (.invokevirtual 217, 3) := by decide +kernel
theorem d_Model_below_12 : decode Y_Model_below.2.1 12 = .ok (.istore 6, 2) := by decide +kernel
theorem d_Model_below_14 : decode Y_Model_below.2.1 14 = .ok (.aload_n 0, 1) := by decide +kernel
theorem d_Model_below_15 : decode Y_Model_below.2.1 15 = .ok (.getfield 132, 3) := by decide +kernel
theorem d_Model_below_18 : decode Y_Model_below.2.1 18 = .ok (.iconst 0, 1) := by decide +kernel
theorem d_Model_below_19 : decode Y_Model_below.2.1 19 = .ok (.iaload, 1) := by decide +kernel
theorem d_Model_below_20 : decode Y_Model_below.2.1 20 = .ok (.iconst 1, 1) := by decide +kernel
theorem d_Model_below_21 : decode Y_Model_below.2.1 21 = .ok (.if_icmp .ne 28, 3) := by decide +kernel
theorem d_Model_below_24 : decode Y_Model_below.2.1 24 = .ok (.iload 6, 2) := by decide +kernel
theorem d_Model_below_26 : decode Y_Model_below.2.1 26 = .ok (.iload 4, 2) := by decide +kernel
theorem d_Model_below_28 : decode Y_Model_below.2.1 28 = .ok (.if_icmp .ge 21, 3) := by decide +kernel
theorem d_Model_below_31 : decode Y_Model_below.2.1 31 = .ok (.iinc 5 1, 3) := by decide +kernel
theorem d_Model_below_34 : decode Y_Model_below.2.1 34 = .ok (.aload_n 0, 1) := by decide +kernel
theorem d_Model_below_35 : decode Y_Model_below.2.1 35 = .ok (.iload_n 1, 1) := by decide +kernel
theorem d_Model_below_36 : decode Y_Model_below.2.1 36 = .ok (.iload_n 2, 1) := by decide +kernel
theorem d_Model_below_37 : decode Y_Model_below.2.1 37 = .ok (.iload_n 3, 1) := by decide +kernel
theorem d_Model_below_38 : decode Y_Model_below.2.1 38 = .ok (.iload 6, 2) := by decide +kernel
theorem d_Model_below_40 : decode Y_Model_below.2.1 40 = .ok (.iconst 0, 1) := by decide +kernel
theorem d_Model_below_41 : decode Y_Model_below.2.1 41 = .ok (.invokevirtual 217, 3) := by decide +kernel
theorem d_Model_below_44 : decode Y_Model_below.2.1 44 = .ok (.istore 6, 2) := by decide +kernel
theorem d_Model_below_46 : decode Y_Model_below.2.1 46 = .ok (.goto (-32), 3) := by decide +kernel
theorem d_Model_below_49 : decode Y_Model_below.2.1 49 = .ok (.iload 5, 2) := by decide +kernel
theorem d_Model_below_51 : decode Y_Model_below.2.1 51 = .ok (.ireturn, 1) := by decide +kernel
theorem d_Model_other_0 : decode Y_Model_other.2.1 0 = .ok (.iconst 0, 1) := by decide +kernel
theorem d_Model_other_1 : decode Y_Model_other.2.1 1 = .ok (.istore 4, 2) := by decide +kernel
theorem d_Model_other_3 : decode Y_Model_other.2.1 3 = .ok (.aload_n 0, 1) := by decide +kernel
theorem d_Model_other_4 : decode Y_Model_other.2.1 4 = .ok (.iload_n 1, 1) := by decide +kernel
theorem d_Model_other_5 : decode Y_Model_other.2.1 5 = .ok (.iload_n 2, 1) := by decide +kernel
theorem d_Model_other_6 : decode Y_Model_other.2.1 6 = .ok (.iload_n 3, 1) := by decide +kernel
theorem d_Model_other_7 : decode Y_Model_other.2.1 7 = .ok (.iload 4, 2) := by decide +kernel
theorem d_Model_other_9 : decode Y_Model_other.2.1 9 = .ok (.invokevirtual 221, 3) := by decide +kernel
theorem d_Model_other_12 : decode Y_Model_other.2.1 12 = .ok (.ifCond .eq 9, 3) := by decide +kernel
theorem d_Model_other_15 : decode Y_Model_other.2.1 15 = .ok (.iinc 4 1, 3) := by decide +kernel
theorem d_Model_other_18 : decode Y_Model_other.2.1 18 = .ok (.goto (-15), 3) := by decide +kernel
theorem d_Model_other_21 : decode Y_Model_other.2.1 21 = .ok (.iload 4, 2) := by decide +kernel
theorem d_Model_other_23 : decode Y_Model_other.2.1 23 = .ok (.ireturn, 1) := by decide +kernel
section ML
variable {E : gE} {d : Nat} {G G0 : gS} {m n : Nat} {s : mS} {Q : gO → gS → Prop}
def cn (f : Nat → Bool) : Nat → Nat
  | 0 => 0
  | k + 1 => cn f k + (if f k then 1 else 0)
theorem cn_le {f g : Nat → Bool} : ∀ K, (∀ k, k < K → f k = true → g k = true) → cn f K ≤ cn g K := by
  intro K
  induction K with
  | zero => intro _; exact Nat.le_refl _
  | succ K ih =>
    intro h
    have a := ih (fun k hk => h k (by omega))
    have b := h K (by omega)
    simp only [cn]
    cases hf : f K with
    | false => simp; omega
    | true => simp [b hf]; omega
theorem cn_lt {f g : Nat → Bool} {j : Nat} : ∀ K, (∀ k, k < K → f k = true → g k = true) → j < K → g j = true → f j = false → cn f K < cn g K := by
  intro K
  induction K with
  | zero => intro _ h; omega
  | succ K ih =>
    intro h hj h1 h2
    have b := h K (by omega)
    simp only [cn]
    by_cases e : j = K
    · subst e
      have a := cn_le j (fun k hk => h k (by omega))
      simp only [h1, h2]
      simp
      omega
    · have a := ih (fun k hk => h k (by omega)) (by omega) h1 h2
      cases hf : f K with
      | false => simp; omega
      | true => simp [b hf]; omega
theorem cn_bd {f : Nat → Bool} : ∀ K, cn f K ≤ K := by
  intro K
  induction K with
  | zero => exact Nat.le_refl _
  | succ K ih =>
    simp only [cn]
    split <;> omega
theorem rWs_A {T p : Int32} {R : Nat} : rWs (wA s 39 0 T) R p = rWs s R p := rWish_c (s := s) (s' := wA s 39 0 T) rfl _
theorem rWv_A {T p : Int32} {R : Nat} : rWv (wA s 39 0 T) R p = rWv s R p := by
  show s.2 5 (tn (s.2 29 (26 * R + tn (rWs (wA s 39 0 T) R p)))) = s.2 5 (tn (s.2 29 (26 * R + tn (rWs s R p))))
  rw [rWs_A]
theorem rAb_A {T p y al : Int32} {A : Nat} : ∀ k, rAb (wA s 39 0 T) A p y al k = rAb s A p y al k := by
  intro k
  induction k with
  | zero => rfl
  | succ k ih =>
    show (if ¬ 0 ≤ rWs (wA s 39 0 T) (A + k) p then rAb (wA s 39 0 T) A p y al k else if al = 0 ∧ rWv (wA s 39 0 T) (A + k) p ≤ y then rAb (wA s 39 0 T) A p y al k else if ¬ (rAb (wA s 39 0 T) A p y al k).2 = 0 ∧ (rAb (wA s 39 0 T) A p y al k).1 ≤ rWv (wA s 39 0 T) (A + k) p then rAb (wA s 39 0 T) A p y al k else (rWv (wA s 39 0 T) (A + k) p, 1)) = (if ¬ 0 ≤ rWs s (A + k) p then rAb s A p y al k else if al = 0 ∧ rWv s (A + k) p ≤ y then rAb s A p y al k else if ¬ (rAb s A p y al k).2 = 0 ∧ (rAb s A p y al k).1 ≤ rWv s (A + k) p then rAb s A p y al k else (rWv s (A + k) p, 1))
    rw [rWs_A, rWv_A, ih]
/-- what above answers, with 1, is wished by a row, and above y unless al -/
theorem rAb_is {A : Nat} {p y al : Int32} : ∀ k, (rAb s A p y al k).2 = 1 → ∃ j, j < k ∧ 0 ≤ rWs s (A + j) p ∧ rWv s (A + j) p = (rAb s A p y al k).1 ∧ (al = 0 → ¬ rWv s (A + j) p ≤ y) := by
  intro k
  induction k with
  | zero =>
    intro h
    have e : (0 : Int32) = 1 := h
    exact absurd e (by decide)
  | succ k ih =>
    have old : (rAb s A p y al k).2 = 1 → ∃ j, j < k + 1 ∧ 0 ≤ rWs s (A + j) p ∧ rWv s (A + j) p = (rAb s A p y al k).1 ∧ (al = 0 → ¬ rWv s (A + j) p ≤ y) := by
      intro h
      obtain ⟨j, a, b⟩ := ih h
      exact ⟨j, by omega, b⟩
    by_cases c1 : 0 ≤ rWs s (A + k) p
    · by_cases c2 : al = 0 ∧ rWv s (A + k) p ≤ y
      · have e : rAb s A p y al (k + 1) = rAb s A p y al k := (if_neg (fun q => q c1)).trans (if_pos c2)
        rw [e]
        exact old
      · by_cases c3 : ¬ (rAb s A p y al k).2 = 0 ∧ (rAb s A p y al k).1 ≤ rWv s (A + k) p
        · have e : rAb s A p y al (k + 1) = rAb s A p y al k := (if_neg (fun q => q c1)).trans ((if_neg c2).trans (if_pos c3))
          rw [e]
          exact old
        · have e : rAb s A p y al (k + 1) = (rWv s (A + k) p, 1) := (if_neg (fun q => q c1)).trans ((if_neg c2).trans (if_neg c3))
          rw [e]
          exact fun _ => ⟨k, by omega, c1, rfl, fun q r => c2 ⟨q, r⟩⟩
    · have e : rAb s A p y al (k + 1) = rAb s A p y al k := if_pos c1
      rw [e]
      exact old
/-- how many rows wish a number above y -/
def cAb (s : mS) (A : Nat) (p y : Int32) (K : Nat) : Nat := cn (fun k => decide (0 ≤ rWs s (A + k) p ∧ ¬ rWv s (A + k) p ≤ y)) K
theorem cAb_lt {A K : Nat} {p y : Int32} (h : (rAb s A p y 0 K).2 = 1) : cAb s A p (rAb s A p y 0 K).1 K < cAb s A p y K := by
  obtain ⟨j, h1, h2, h3, h4⟩ := rAb_is K h
  have hy : ¬ (rAb s A p y 0 K).1 ≤ y := h3 ▸ h4 rfl
  refine cn_lt (j := j) K (fun k hk q => ?_) h1 ?_ ?_
  · have q' := of_decide_eq_true q
    exact decide_eq_true ⟨q'.1, fun r => hy (Int32.le_trans (Int32.le_of_lt (Int32.not_le.mp q'.2)) r)⟩
  · exact decide_eq_true ⟨h2, h4 rfl⟩
  · exact decide_eq_false (fun r => r.2 (h3 ▸ Int32.le_refl _))
theorem m_W_aboveA (hmn : m < n) {T p y al : Int32} {f q : Int32} {A K : Nat} (hf : f.toInt = (A : Int)) (hq : q.toInt = (K : Int)) (hR : ∀ R, R < A + K → ¬ s.2 27 R < 0 ∧ tn (s.2 27 R) ≤ 26) (hW : ∀ R, R < A + K → ∀ j, j < tn (s.2 27 R) → ¬ s.2 29 (26 * R + j) < 0 ∧ tn (s.2 29 (26 * R + j)) < 700) (bA : A + K ≤ 41640) : GM E Y_Model_above (d + 1) [.ref m, .int f, .int q, .int p, .int y, .int al] (mW E G m n (wA s 39 0 T)) (rIs (some (.int (rAb s A p y al K).1)) (mW E G m n (wA s 39 0 (rAb s A p y al K).2))) := by
  have K_ := m_W_above (E := E) (d := d) (G := G) (s := wA s 39 0 T) (p := p) (y := y) (al := al) hmn hf hq hR hW bA
  rw [rAb_A, wA_A] at K_
  exact K_
/-- below: from v on, told t, counted c -/
def rBel (s : mS) (A K : Nat) (p x : Int32) : Nat → Int32 → Int32 → Int32 → Int32 × Int32
  | 0, _, t, c => (c, t)
  | w + 1, v, t, c => if ¬ t = 1 ∨ x ≤ v then (c, t) else rBel s A K p x w (rAb s A p v 0 K).1 (rAb s A p v 0 K).2 (c + 1)
set_option maxHeartbeats 400000 in
set_option maxRecDepth 100000 in
theorem m_W_below_l (hmn : m < n) {p x : Int32} {f q : Int32} {A K : Nat} (hf : f.toInt = (A : Int)) (hq : q.toInt = (K : Int)) (hR : ∀ R, R < A + K → ¬ s.2 27 R < 0 ∧ tn (s.2 27 R) ≤ 26) (hW : ∀ R, R < A + K → ∀ j, j < tn (s.2 27 R) → ¬ s.2 29 (26 * R + j) < 0 ∧ tn (s.2 29 (26 * R + j)) < 700) (bA : A + K ≤ 41640) : ∀ (w : Nat) (v t c : Int32), 1 ≤ w → (t = 1 → cAb s A p v K + 2 ≤ w) → GT E Y_Model_below (d + 2) G0 14 [(0, .ref m), (1, .int f), (2, .int q), (3, .int p), (4, .int x), (5, .int c), (6, .int v)] [] (mW E G m n (wA s 39 0 t)) (rIs (some (.int (rBel s A K p x w v t c).1)) (mW E G m n (wA s 39 0 (rBel s A K p x w v t c).2))) := by
  intro w
  induction w with
  | zero => intro v t c h1 h2; omega
  | succ w ih =>
    intro v t c h1 h2
    refine g_aload_n d_Model_below_14 rfl ?_
    refine w_get (k := 57) fl_Model_132 (by decide) rfl d_Model_below_15 ?_
    refine g_iconst (v := 0) d_Model_below_18 (by decide) ?_
    refine w_ald (j := 39) (q := 0) (x := t) hmn (by decide) (by decide) (by decide) (by decide) rfl d_Model_below_19 ?_
    refine g_iconst (v := 1) d_Model_below_20 (by decide) ?_
    refine g_icmp_ne (tgt := 49) d_Model_below_21 (by decide) (fun c_21 => ?_) (fun c_21 => ?_)
    · refine g_iload d_Model_below_49 rfl ?_
      refine g_iret rfl d_Model_below_51 ?_
      have e : rBel s A K p x (w + 1) v t c = (c, t) := if_pos (Or.inl c_21)
      rw [e]
      exact ⟨rfl, rfl⟩
    · refine g_iload d_Model_below_24 rfl ?_
      refine g_iload d_Model_below_26 rfl ?_
      refine g_icmp_ge (tgt := 49) d_Model_below_28 (by decide) (fun c_28 => ?_) (fun c_28 => ?_)
      · refine g_iload d_Model_below_49 rfl ?_
        refine g_iret rfl d_Model_below_51 ?_
        have e : rBel s A K p x (w + 1) v t c = (c, t) := if_pos (Or.inr c_28)
        rw [e]
        exact ⟨rfl, rfl⟩
      · refine g_iinc (v := c + 1) d_Model_below_31 rfl (by rfl) (by decide) rfl ?_
        refine g_aload_n d_Model_below_34 rfl ?_
        refine g_iload_n d_Model_below_35 rfl ?_
        refine g_iload_n d_Model_below_36 rfl ?_
        refine g_iload_n d_Model_below_37 rfl ?_
        refine g_iload d_Model_below_38 rfl ?_
        refine g_iconst (v := 0) d_Model_below_40 (by decide) ?_
        refine c_Vr (as := [.int (f), .int (q), .int (p), .int (v), .int (0)]) kv_Model_above ml_Model_217 rfl mw_f (m_W_aboveA (d := d) (s := s) (T := t) (p := p) (y := v) (al := 0) hmn hf hq hR hW bA) rfl (Nat.le_of_ble_eq_true rfl) rfl d_Model_below_41 rfl ?_
        refine g_istore d_Model_below_44 (by decide) rfl ?_
        refine g_goto (tgt := 14) d_Model_below_46 (by decide) ?_
        have e : rBel s A K p x (w + 1) v t c = rBel s A K p x w (rAb s A p v 0 K).1 (rAb s A p v 0 K).2 (c + 1) := if_neg (fun y => y.elim (fun z => z c_21) c_28)
        rw [e]
        have h3 := h2 c_21
        exact ih _ _ _ (by omega) (fun y => by have := cAb_lt y; omega)
set_option maxHeartbeats 400000 in
set_option maxRecDepth 100000 in
theorem m_W_below (hmn : m < n) {p x : Int32} {f q : Int32} {A K : Nat} (hf : f.toInt = (A : Int)) (hq : q.toInt = (K : Int)) (hR : ∀ R, R < A + K → ¬ s.2 27 R < 0 ∧ tn (s.2 27 R) ≤ 26) (hW : ∀ R, R < A + K → ∀ j, j < tn (s.2 27 R) → ¬ s.2 29 (26 * R + j) < 0 ∧ tn (s.2 29 (26 * R + j)) < 700) (bA : A + K ≤ 41640) : GM E Y_Model_below (d + 2) [.ref m, .int f, .int q, .int p, .int x] (mW E G m n s) (rIs (some (.int (rBel s A K p x (K + 2) (rAb s A p 0 1 K).1 (rAb s A p 0 1 K).2 0).1)) (mW E G m n (wA s 39 0 (rBel s A K p x (K + 2) (rAb s A p 0 1 K).1 (rAb s A p 0 1 K).2 0).2))) := by
  refine g_entry (by decide) (by simp [Value.category]) (Nat.le_of_ble_eq_true rfl) ?_
  refine g_iconst (v := 0) d_Model_below_0 (by decide) ?_
  refine g_istore d_Model_below_1 (by decide) rfl ?_
  refine g_aload_n d_Model_below_3 rfl ?_
  refine g_iload_n d_Model_below_4 rfl ?_
  refine g_iload_n d_Model_below_5 rfl ?_
  refine g_iload_n d_Model_below_6 rfl ?_
  refine g_iconst (v := 0) d_Model_below_7 (by decide) ?_
  refine g_iconst (v := 1) d_Model_below_8 (by decide) ?_
  refine c_Vr (as := [.int (f), .int (q), .int (p), .int (0), .int (1)]) kv_Model_above ml_Model_217 rfl mw_f (m_W_above (d := d) (s := s) (p := p) (y := 0) (al := 1) hmn hf hq hR hW bA) rfl (Nat.le_of_ble_eq_true rfl) rfl d_Model_below_9 rfl ?_
  refine g_istore d_Model_below_12 (by decide) rfl ?_
  exact m_W_below_l (s := s) hmn hf hq hR hW bA (K + 2) _ _ _ (by omega) (fun _ => by have := cn_bd (f := fun k => decide (0 ≤ rWs s (A + k) p ∧ ¬ rWv s (A + k) p ≤ (rAb s A p 0 1 K).1)) K; show cn _ K + 2 ≤ K + 2; omega)
/-- how many rows wish v or more -/
def cGe (s : mS) (A : Nat) (p v : Int32) (K : Nat) : Nat := cn (fun k => decide (0 ≤ rWs s (A + k) p ∧ v ≤ rWv s (A + k) p)) K
theorem rIsW_is {A : Nat} {p x : Int32} : ∀ k, ¬ rIsW s A p x k = 0 → ∃ j, j < k ∧ 0 ≤ rWs s (A + j) p ∧ rWv s (A + j) p = x := by
  intro k
  induction k with
  | zero => intro h; exact absurd rfl h
  | succ k ih =>
    intro h
    by_cases c0 : ¬ rIsW s A p x k = 0
    · obtain ⟨j, a, b⟩ := ih c0
      exact ⟨j, by omega, b⟩
    · by_cases c1 : rWs s (A + k) p < 0
      · exact absurd ((if_neg c0).trans (if_pos c1)) h
      · by_cases c2 : rWv s (A + k) p = x
        · exact ⟨k, by omega, Int32.not_lt.mp c1, c2⟩
        · exact absurd ((if_neg c0).trans ((if_neg c1).trans (if_neg c2))) h
theorem cGe_lt {A K w : Nat} {p : Int32} (hw : w + 1 < 2 ^ 31) (h : ¬ rIsW s A p (nI w) K = 0) : cGe s A p (nI (w + 1)) K < cGe s A p (nI w) K := by
  obtain ⟨j, h1, h2, h3⟩ := rIsW_is K h
  have a := nI_hi (n := w) (by omega)
  have b := nI_hi (n := w + 1) hw
  have l : nI w ≤ nI (w + 1) := (le_hi a b).mpr (by omega)
  refine cn_lt (j := j) K (fun k hk q => ?_) h1 ?_ ?_
  · have q' := of_decide_eq_true q
    exact decide_eq_true ⟨q'.1, Int32.le_trans l q'.2⟩
  · exact decide_eq_true ⟨h2, h3 ▸ Int32.le_refl _⟩
  · refine decide_eq_false (fun r => ?_)
    have := (le_hi b a).mp (h3 ▸ r.2)
    omega
/-- the least number that no row wishes, from v on -/
def rOth (s : mS) (A K : Nat) (p : Int32) : Nat → Nat → Nat
  | 0, v => v
  | w + 1, v => if rIsW s A p (nI v) K = 0 then v else rOth s A K p w (v + 1)
set_option maxHeartbeats 400000 in
set_option maxRecDepth 100000 in
theorem m_W_other_n (hmn : m < n) {p : Int32} {f q : Int32} {A K : Nat} (hf : f.toInt = (A : Int)) (hq : q.toInt = (K : Int)) (hR : ∀ R, R < A + K → ¬ s.2 27 R < 0 ∧ tn (s.2 27 R) ≤ 26) (hW : ∀ R, R < A + K → ∀ j, j < tn (s.2 27 R) → ¬ s.2 29 (26 * R + j) < 0 ∧ tn (s.2 29 (26 * R + j)) < 700) (bA : A + K ≤ 41640) : ∀ (w v : Nat), v + w < 2 ^ 31 → cGe s A p (nI v) K + 1 ≤ w → GT E Y_Model_other (d + 2) G0 3 [(0, .ref m), (1, .int f), (2, .int q), (3, .int p), (4, .int (nI v))] [] (mW E G m n s) (rIs (some (.int (nI (rOth s A K p w v)))) (mW E G m n s)) := by
  intro w
  induction w with
  | zero => intro v h1 h2; omega
  | succ w ih =>
    intro v h1 h2
    refine g_aload_n d_Model_other_3 rfl ?_
    refine g_iload_n d_Model_other_4 rfl ?_
    refine g_iload_n d_Model_other_5 rfl ?_
    refine g_iload_n d_Model_other_6 rfl ?_
    refine g_iload d_Model_other_7 rfl ?_
    refine c_Vr (as := [.int (f), .int (q), .int (p), .int (nI v)]) kv_Model_isWished ml_Model_221 rfl mw_f (m_W_isWished (d := d) (s := s) (p := p) (x := nI v) hmn hf hq hR hW bA) rfl (Nat.le_of_ble_eq_true rfl) rfl d_Model_other_9 rfl ?_
    refine g_if_eq (tgt := 21) d_Model_other_12 (by decide) (fun c_12 => ?_) (fun c_12 => ?_)
    · refine g_iload d_Model_other_21 rfl ?_
      refine g_iret rfl d_Model_other_23 ?_
      have e : rOth s A K p (w + 1) v = v := if_pos c_12
      rw [e]
      exact ⟨rfl, rfl⟩
    · refine g_iinc (v := nI v + 1) d_Model_other_15 rfl (by rfl) (by decide) rfl ?_
      refine g_goto (tgt := 3) d_Model_other_18 (by decide) ?_
      have e : rOth s A K p (w + 1) v = rOth s A K p w (v + 1) := if_neg c_12
      rw [e, nI_1]
      have h3 := cGe_lt (by omega) c_12
      exact ih (v + 1) (by omega) (by omega)
set_option maxHeartbeats 400000 in
set_option maxRecDepth 100000 in
theorem m_W_other (hmn : m < n) {p : Int32} {f q : Int32} {A K : Nat} (hf : f.toInt = (A : Int)) (hq : q.toInt = (K : Int)) (hR : ∀ R, R < A + K → ¬ s.2 27 R < 0 ∧ tn (s.2 27 R) ≤ 26) (hW : ∀ R, R < A + K → ∀ j, j < tn (s.2 27 R) → ¬ s.2 29 (26 * R + j) < 0 ∧ tn (s.2 29 (26 * R + j)) < 700) (bA : A + K ≤ 41640) : GM E Y_Model_other (d + 2) [.ref m, .int f, .int q, .int p] (mW E G m n s) (rIs (some (.int (nI (rOth s A K p (K + 1) 0)))) (mW E G m n s)) := by
  refine g_entry (by decide) (by simp [Value.category]) (Nat.le_of_ble_eq_true rfl) ?_
  refine g_iconst (v := 0) d_Model_other_0 (by decide) ?_
  refine g_istore d_Model_other_1 (by decide) rfl ?_
  exact m_W_other_n (s := s) hmn hf hq hR hW bA (K + 1) 0 (by omega) (by have := cn_bd (f := fun k => decide (0 ≤ rWs s (A + k) p ∧ nI 0 ≤ rWv s (A + k) p)) K; show cn _ K + 1 ≤ K + 1; omega)
end ML
