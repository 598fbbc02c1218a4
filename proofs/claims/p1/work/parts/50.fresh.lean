/-! One call on a fresh object -/
section FR
variable {E : gE} {d D a m n w : Nat} {G G' : gS} {s s' : mS} {c : cS} {fo : Nat → Int64} {J : gS → Prop} {YM : gY} {aM : List Value}
theorem mw_c (h : mW E G m n s = G) (e : G'.1 = G.1) : mW E G' m n s = G' := by
  refine Prod.ext ?_ rfl
  have h1 : (mW E G m n s).1 = G.1 := congrArg Prod.fst h
  have h2 : (mW E G' m n s).1 = (mW E G m n s).1 := by
    simp only [mW]
    rw [e]
  rw [h2, h1, e]
theorem xw_c (h : xW E G a c = G) (e : G'.1 = G.1) : xW E G' a c = G' := by
  refine Prod.ext ?_ rfl
  have h1 : (xW E G a c).1 = G.1 := congrArg Prod.fst h
  have h2 : (xW E G' a c).1 = (xW E G a c).1 := by
    simp only [xW]
    rw [e]
  rw [h2, h1, e]
theorem mw_gup {y : va_E} (h : mW E G m n s = G) (hw : w ≠ m) (hw2 : w < n ∨ n + 40 ≤ w) : mW E (gUp G w y) m n s = gUp G w y := by
  refine Prod.ext (funext fun q => ?_) rfl
  have h1 : (mW E G m n s).1 q = G.1 q := congrFun (congrArg Prod.fst h) q
  simp only [mW, gUp, va_up] at h1 ⊢
  by_cases e : q = w
  · subst e
    rw [if_neg hw, if_neg (by omega)]
  · rw [if_neg e]
    exact h1
/-- the reference's call, and what the law compares behind it -/
theorem s_ref {k v : Int32} (hmn : m < n) (hw : w ≠ m) (hw2 : w < n ∨ n + 40 ≤ w) (hm : mW E G m n s = G) (ho : G.1 w = some (gAJ E 1 fo)) (R : GM E YM D aM (mW E G m n s) (rIs (some (.int v)) (mW E G m n s'))) (hc : s'.1 0 = k) (hv : k = 0 → fo 0 = v.toInt64) (hJ : J (mW E G m n s')) :
    (∃ fs, G.1 m = some (.inr (13, fs))) ∧ GM E YM D aM G (fun o G2 => ∃ v : Int32, o = .inl (some (.int v)) ∧ sE E D m w k v G2 ∧ J G2) := by
  refine ⟨⟨mFs n s.1, by rw [← hm]; exact mw_f⟩, ?_⟩
  rw [hm] at R
  refine R.mono (fun o G2 h => ?_)
  obtain ⟨rfl, rfl⟩ := h
  refine ⟨v, rfl, ⟨⟨mFs n s'.1, mw_f⟩, ?_, fo, ?_, hv⟩, hJ⟩
  · have K := m_W_thrown (E := E) (d := D) (G := G) (s := s') hmn
    rw [hc] at K
    exact K
  · rw [mw_o hw hw2]
    exact ho
/-- behind an exception of the class -/
theorem s_thr {k v : Int32} (h : lIs E a G c s fo) (e : G'.1 = G.1) (R : GM E YM D aM (mW E G' (a + 24) (a + 25) s) (rIs (some (.int v)) (mW E G' (a + 24) (a + 25) s'))) (hc : s'.1 0 = k) (hz : ¬ k = 0) (hJ : J (mW E G' (a + 24) (a + 25) s')) :
    (∃ fs, G'.1 (a + 24) = some (.inr (13, fs))) ∧ GM E YM D aM G' (fun o G2 => ∃ v : Int32, o = .inl (some (.int v)) ∧ sE E D (a + 24) (a + 65) k v G2 ∧ J G2) :=
  s_ref (n := a + 25) (fo := fo) (by omega) (by omega) (by omega) (mw_c h.2.1 e) (by rw [e]; exact h.2.2) R hc (fun q => absurd q hz) hJ
/-- behind an answer of the class -/
theorem s_ok {v : Int32} (h : lIs E a G c s fo) (R : GM E YM D aM (mW E (gUp G (a + 65) (gAJ E 1 (vp_updL fo 0 v.toInt64))) (a + 24) (a + 25) s) (rIs (some (.int v)) (mW E (gUp G (a + 65) (gAJ E 1 (vp_updL fo 0 v.toInt64))) (a + 24) (a + 25) s'))) (hc : s'.1 0 = 0) (hJ : J (mW E (gUp G (a + 65) (gAJ E 1 (vp_updL fo 0 v.toInt64))) (a + 24) (a + 25) s')) :
    (∃ fs, (gUp G (a + 65) (gAJ E 1 (vp_updL fo 0 v.toInt64))).1 (a + 24) = some (.inr (13, fs))) ∧ GM E YM D aM (gUp G (a + 65) (gAJ E 1 (vp_updL fo 0 v.toInt64))) (fun o G2 => ∃ v : Int32, o = .inl (some (.int v)) ∧ sE E D (a + 24) (a + 65) 0 v G2 ∧ J G2) :=
  s_ref (n := a + 25) (fo := vp_updL fo 0 v.toInt64) (by omega) (by omega) (by omega) (mw_gup h.2.1 (by omega) (by omega)) (gUp_at h.2.2) R hc (fun _ => by simp [vp_updL]) hJ
theorem s_dir {v : Int32} (h : lIs E a G c s fo) (R : GM E YM D aM (mW E G (a + 24) (a + 25) s) (rIs (some (.int v)) (mW E G (a + 24) (a + 25) s'))) (hJ : J (mW E G (a + 24) (a + 25) s')) :
    (∃ fs, G.1 (a + 24) = some (.inr (13, fs))) ∧ GM E YM D aM G (fun o G2 => o = .inl (some (.int v)) ∧ J G2) := by
  refine ⟨⟨mFs (a + 25) s.1, by rw [← h.2.1]; exact mw_f⟩, ?_⟩
  rw [h.2.1] at R
  refine R.mono (fun o G2 h => ?_)
  obtain ⟨rfl, rfl⟩ := h
  exact ⟨rfl, hJ⟩
theorem lIs_a (h : lIs E a G c s fo) : ∃ fs, G.1 a = some (.inr (12, fs)) := ⟨_, by rw [← h.1]; exact x_at (k := 0) (by decide) rfl⟩
theorem tIs_l {C : String} {v : Option Value} (h : tIs C G (.inl v) G') : False := by cases h.1
theorem tIs_r {C K : String} (h : tIs C G (.inr K) G') : K = C ∧ G'.1 = G.1 := ⟨by cases h.1; rfl, h.2.1⟩
-- a fresh object
theorem s0_f (k : Nat) : s0.1 k = 0 := by
  show upd (fun _ => (0 : Int32)) 54 0 k = 0
  unfold upd
  split <;> rfl
theorem s0_a {j : Nat} (k : Nat) (h : j ≠ 38) : s0.2 j k = 0 := by
  show (if j = 38 then fillF (fun _ => (0 : Int32)) 8 (-1) else fun _ => 0) k = 0
  rw [if_neg h]
theorem s0_b {k : Nat} (h : k < 8) : s0.2 38 k = -1 := if_pos h
theorem c0_n (k : Nat) : (c0 E).1 k = 0 := rfl
theorem c0_t {k : Nat} (h : k < 16) : (c0 E).2.1 0 k = -1 := if_pos h
theorem c0_told (x : Int32) : ¬ tTold ((c0 E).2.1 0) x := fun h => h.2 (c0_t (tn_lt h.1.1 h.1.2 (by decide)))
theorem c0_has (x q : Int32) : ¬ tHas ((c0 E).2.1 0) x q := fun h => c0_told x h.1
theorem s0_T (t : Int32) : ¬ rIsT s0 t := fun h => h.2.2 (by rw [s0_a _ (by decide)]; decide)
theorem s0_M (t q : Int32) : ¬ rIsM s0 t q := fun h => s0_T t h.1
theorem s0_5 : ¬ s0.1 5 < 0 := by rw [s0_f]; decide
theorem s0_5b : tn (s0.1 5) < 700 := by rw [s0_f]; decide
theorem s0_14 : ¬ s0.1 14 < 0 := by rw [s0_f]; decide
theorem s0_14b : s0.1 14 ≤ 40 := by rw [s0_f]; decide
theorem s0_h (v : Int32) : rHt s0 v = 0 := by
  unfold rHt
  split
  · exact s0_f 14
  · exact s0_f 15
theorem s0_pl {P : Nat → Prop} (v : Int32) : ∀ k, k < tn (rHt s0 v) → P k := fun k h => by
  rw [s0_h] at h
  exact absurd h (by simp [tn])
theorem s0_p9 {P : Nat → Prop} : ∀ k, k < tn (s0.1 14) → P k := fun k h => by
  rw [s0_f] at h
  exact absurd h (by simp [tn])
theorem i78 {x : Int32} : (¬ x < 0 ∧ ¬ 8 ≤ x) ↔ ¬ (x < 0 ∨ ¬ x ≤ 7) := by
  rw [not_or, Classical.not_not]
  refine and_congr Iff.rfl ?_
  rw [Int32.le_iff_toInt_le, Int32.le_iff_toInt_le, show (8 : Int32).toInt = 8 by decide, show (7 : Int32).toInt = 7 by decide]
  omega
theorem i15 {x : Int32} : 15 < x ↔ 16 ≤ x := by
  rw [Int32.le_iff_toInt_le, Int32.lt_iff_toInt_lt, show (15 : Int32).toInt = 15 by decide, show (16 : Int32).toInt = 16 by decide]
  omega
theorem tBad_r {x n : Int32} : tBad x n ↔ (x < 0 ∨ 15 < x ∨ n < 0 ∨ ¬ n ≤ 8) := by
  unfold tBad
  rw [i15]
  by_cases e1 : x < 0
  · simp [e1]
  · by_cases e2 : 16 ≤ x
    · simp [e1, e2]
    · simp [e1, e2]
theorem p_fit (h : lIs E a G (c0 E) s0 (fun _ => 0)) (hF : gFit E G 1 6) : gFit E (xW E G a (c0 E)) 1 6 := by rw [h.1]; exact hF
abbrev pR (E : gE) (D a : Nat) (YM : gY) (aM : List Value) : Int32 → gS → Prop := fun k G1 => (∃ fs, G1.1 (a + 24) = some (.inr (13, fs))) ∧ GM E YM D aM G1 (fun o G2 => ∃ v : Int32, o = .inl (some (.int v)) ∧ sE E D (a + 24) (a + 65) k v G2 ∧ True)
theorem p_argument (h : lIs E a G (c0 E) s0 (fun _ => 0)) (hF : gFit E G 1 6) : s_argument E (d + 11) a (a + 24) (a + 65) G (fun _ => True) := by
  intro p0 p1 p2
  obtain ⟨fs, ha⟩ := lIs_a h
  have K := m_X_argument_no (E := E) (d := d) (p_fit h hF) p0 p1 p2 (c0_has p0 p1)
  rw [h.1] at K
  refine w_argument p0 p1 p2 (R := pR E (d + 11) a Y_Model_argument [.ref (a + 24), .int p0, .int p1, .int p2]) ha K (fun v G' hq => (tIs_l hq).elim) (fun C G' hq => Or.inl ⟨(tIs_r hq).1, ?_⟩)
  have R := m_W_argument (E := E) (d := d + 9) (G := G') (m := a + 24) (n := a + 25) (s := s0) (by omega) (fun k _ => by rw [s0_a _ (by decide)]; decide) (fun k _ => by rw [s0_a _ (by decide)]; decide) p0 p1 p2
  have e : rArgument s0 p0 p1 p2 = (0, wF s0 0 1) := if_pos (fun q => s0_M p0 p1 q.1)
  rw [e] at R
  exact s_thr h (tIs_r hq).2 R rfl (by decide) trivial
theorem p_any (h : lIs E a G (c0 E) s0 (fun _ => 0)) (hF : gFit E G 1 6) : s_any E (d + 11) a (a + 24) (a + 65) G (fun _ => True) := by
  intro p0
  obtain ⟨fs, ha⟩ := lIs_a h
  have K := m_X_any_no (E := E) (d := d) (p_fit h hF) p0 (c0_told p0)
  rw [h.1] at K
  refine w_any p0 (R := pR E (d + 11) a Y_Model_any [.ref (a + 24), .int p0]) ha K (fun v G' hq => (tIs_l hq).elim) (fun C G' hq => Or.inl ⟨(tIs_r hq).1, ?_⟩)
  have R := m_W_any (E := E) (d := d + 10) (G := G') (m := a + 24) (n := a + 25) (s := s0) (by omega) s0_5 s0_5b s0_14 s0_14b p0
  have e : rAny s0 p0 = (0, wF s0 0 1) := if_pos (s0_T p0)
  rw [e] at R
  exact s_thr h (tIs_r hq).2 R rfl (by decide) trivial
theorem p_number (h : lIs E a G (c0 E) s0 (fun _ => 0)) (hF : gFit E G 1 6) : s_number E (d + 11) a (a + 24) (a + 65) G (fun _ => True) := by
  intro p0 p1 p2 _
  obtain ⟨fs, ha⟩ := lIs_a h
  have K := m_X_number_no (E := E) (d := d) (p_fit h hF) p0 p1 p2 (fun q => by rw [c0_t (tn_lt q.1.1 q.1.2 (by decide))] at q; exact absurd q.2 (by decide))
  rw [h.1] at K
  refine w_number p0 p1 p2 (R := pR E (d + 11) a Y_Model_number [.ref (a + 24), .int p0, .int p1, .int p2]) ha K (fun v G' hq => (tIs_l hq).elim) (fun C G' hq => Or.inl ⟨(tIs_r hq).1, ?_⟩)
  have R := m_W_number (E := E) (d := d + 10) (G := G') (m := a + 24) (n := a + 25) (s := s0) (v := p2) (by omega) s0_5 s0_5b (by rw [s0_h]; decide) (by rw [s0_h]; decide) p0 p1
  have e : rNumber s0 p0 p1 p2 = (0, wF s0 0 1) := if_pos (Or.inl (s0_T p0))
  rw [e] at R
  exact s_thr h (tIs_r hq).2 R rfl (by decide) trivial
theorem p_make (h : lIs E a G (c0 E) s0 (fun _ => 0)) (hF : gFit E G 1 6) : s_make E (d + 11) a (a + 24) (a + 65) G (fun _ => True) := by
  intro p0 p1 p2 _
  obtain ⟨fs, ha⟩ := lIs_a h
  have K := m_X_make_no (E := E) (d := d) (p_fit h hF) p0 p1 p2 (c0_has p0 p1)
  rw [h.1] at K
  refine w_make p0 p1 p2 (R := pR E (d + 11) a Y_Model_make [.ref (a + 24), .int p0, .int p1, .int p2]) ha K (fun v G' hq => (tIs_l hq).elim) (fun C G' hq => Or.inl ⟨(tIs_r hq).1, ?_⟩)
  have R := m_W_make (E := E) (d := d + 9) (G := G') (m := a + 24) (n := a + 25) (s := s0) (v := p2) (by omega) s0_5 s0_5b (by rw [s0_h]; decide) (by rw [s0_h]; decide) (fun k _ => by rw [s0_a _ (by decide)]; decide) (fun k _ => by rw [s0_a _ (by decide)]; decide) (s0_pl p2) p0 p1
  have e : rMake s0 p0 p1 p2 = (0, wF s0 0 1) := if_pos (s0_M p0 p1)
  rw [e] at R
  exact s_thr h (tIs_r hq).2 R rfl (by decide) trivial
theorem p_either (h : lIs E a G (c0 E) s0 (fun _ => 0)) (hF : gFit E G 1 6) : s_either E (d + 11) a (a + 24) (a + 65) G (fun _ => True) := by
  obtain ⟨fs, ha⟩ := lIs_a h
  have K := m_X_either_no (E := E) (d := d) (p_fit h hF) (by rw [c0_n]; decide)
  rw [h.1] at K
  refine w_either (R := pR E (d + 11) a Y_Model_either [.ref (a + 24)]) ha K (fun v G' hq => (tIs_l hq).elim) (fun C G' hq => ⟨(tIs_r hq).1, ?_⟩)
  have R := m_W_either (E := E) (d := d + 10) (G := G') (m := a + 24) (n := a + 25) (s := s0) (by omega) s0_5 s0_5b s0_14 s0_14b s0_p9
  have e : rEither s0 = (0, wF s0 0 1) := if_pos (Or.inl (by rw [s0_f]; decide))
  rw [e] at R
  exact s_thr h (tIs_r hq).2 R rfl (by decide) trivial
theorem p_name (h : lIs E a G (c0 E) s0 (fun _ => 0)) (hF : gFit E G 1 6) : s_name E (d + 11) a (a + 24) (a + 65) G (fun _ => True) := by
  intro p0
  obtain ⟨fs, ha⟩ := lIs_a h
  have K := m_X_name_no (E := E) (d := d) (p_fit h hF) p0 (c0_n 4)
  rw [h.1] at K
  by_cases q0 : ¬ p0 < 0 ∧ ¬ 8 ≤ p0
  · rw [if_pos q0] at K
    refine w_name p0 (R := pR E (d + 11) a Y_Model_name [.ref (a + 24), .int p0]) ha K (fun v G' hq => (tIs_l hq).elim) (fun C G' hq => Or.inr ⟨(tIs_r hq).1, ?_⟩)
    have R := m_W_name (E := E) (d := d + 10) (G := G') (m := a + 24) (n := a + 25) (s := s0) (by omega) s0_5 s0_5b s0_14 s0_14b s0_p9 p0
    have e : rName s0 p0 = (0, wF s0 0 2) := by rw [rName, if_neg (fun f => f q0), if_pos (Or.inl (s0_f 14))]
    rw [e] at R
    exact s_thr h (tIs_r hq).2 R rfl (by decide) trivial
  · rw [if_neg q0] at K
    refine w_name p0 (R := pR E (d + 11) a Y_Model_name [.ref (a + 24), .int p0]) ha K (fun v G' hq => (tIs_l hq).elim) (fun C G' hq => Or.inl ⟨(tIs_r hq).1, ?_⟩)
    have R := m_W_name (E := E) (d := d + 10) (G := G') (m := a + 24) (n := a + 25) (s := s0) (by omega) s0_5 s0_5b s0_14 s0_14b s0_p9 p0
    have e : rName s0 p0 = (0, wF s0 0 1) := if_pos q0
    rw [e] at R
    exact s_thr h (tIs_r hq).2 R rfl (by decide) trivial
theorem p_addCase (h : lIs E a G (c0 E) s0 (fun _ => 0)) (hF : gFit E G 1 6) : s_addCase E (d + 11) a (a + 24) (a + 65) G (fun _ => True) := by
  intro p0 hp
  obtain ⟨fs, ha⟩ := lIs_a h
  have K := m_X_addCase_no (E := E) (d := d) (p_fit h hF) p0 (c0_n 4)
  rw [h.1] at K
  refine w_addCase p0 (R := pR E (d + 11) a Y_Model_addCase [.ref (a + 24), .int p0]) ha K (fun v G' hq => (tIs_l hq).elim) (fun C G' hq => ⟨(tIs_r hq).1, ?_⟩)
  have R := m_W_addCase (E := E) (d := d + 10) (G := G') (m := a + 24) (n := a + 25) (s := s0) (g := p0) (by omega) s0_14 s0_14b s0_p9 (by rw [s0_f]; decide) (fun f => absurd (s0_f 16) f) (by rcases hp with rfl | rfl <;> rfl)
  have e : rAddCase s0 p0 = (0, wF s0 0 1) := if_pos (Or.inl (by rw [s0_f]; decide))
  rw [e] at R
  exact s_thr h (tIs_r hq).2 R rfl (by decide) trivial
theorem p_build (h : lIs E a G (c0 E) s0 (fun _ => 0)) (hF : gFit E G 1 6) : s_build E (d + 11) a (a + 24) (a + 65) G (fun _ => True) := by
  obtain ⟨fs, ha⟩ := lIs_a h
  have K := m_X_build_no (E := E) (d := d) (p_fit h hF) (c0_n 3)
  rw [h.1] at K
  refine w_build (R := pR E (d + 11) a Y_Model_build [.ref (a + 24)]) ha K (fun v G' hq => (tIs_l hq).elim) (fun C G' hq => Or.inl ⟨(tIs_r hq).1, ?_⟩)
  have R := m_W_build_no (E := E) (d := d + 10) (G := G') (m := a + 24) (n := a + 25) (s := s0) (by omega) (s0_f 16)
  exact s_thr h (tIs_r hq).2 R rfl (by decide) trivial
theorem p_match (h : lIs E a G (c0 E) s0 (fun _ => 0)) (hF : gFit E G 1 6) : s_match E (d + 11) a (a + 24) (a + 65) G (fun _ => True) := by
  intro p0
  obtain ⟨fs, ha⟩ := lIs_a h
  have K := m_X_match_no (E := E) (d := d) (p_fit h hF) p0 (c0_n 5)
  rw [h.1] at K
  refine w_match p0 (R := pR E (d + 11) a Y_Model_match [.ref (a + 24), .int p0]) ha K (fun v G' hq => (tIs_l hq).elim) (fun C G' hq => ⟨(tIs_r hq).1, ?_⟩)
  have R := m_W_match_no (E := E) (d := d + 10) (G := G') (m := a + 24) (n := a + 25) (s := s0) (by omega) (s0_f 19) p0
  exact s_thr h (tIs_r hq).2 R rfl (by decide) trivial
theorem p_question (h : lIs E a G (c0 E) s0 (fun _ => 0)) (hF : gFit E G 1 6) : s_question E (d + 11) a (a + 24) (a + 65) G (fun _ => True) := by
  intro p0 p1
  obtain ⟨fs, ha⟩ := lIs_a h
  have K := m_X_question_no (E := E) (d := d) (p_fit h hF) p0 p1 (c0_n 1)
  rw [h.1] at K
  refine w_question p0 p1 (R := pR E (d + 11) a Y_Model_question [.ref (a + 24), .int p0, .int p1]) ha K (fun v G' hq => (tIs_l hq).elim) (fun C G' hq => ⟨(tIs_r hq).1, ?_⟩)
  have R := m_W_question (E := E) (d := d + 10) (G := G') (m := a + 24) (n := a + 25) (s := s0) (by omega) (by rw [s0_f]; decide) p0 p1
  have e : rQuestion s0 p0 p1 = (0, wF s0 0 1) := if_pos (Or.inl (s0_f 19))
  rw [e] at R
  exact s_thr h (tIs_r hq).2 R rfl (by decide) trivial
theorem p_bound (h : lIs E a G (c0 E) s0 (fun _ => 0)) (hF : gFit E G 1 6) : s_bound E (d + 11) a (a + 24) (a + 65) G (fun _ => True) := by
  intro p0
  obtain ⟨fs, ha⟩ := lIs_a h
  have K := m_X_bound_no (E := E) (d := d) (p_fit h hF) p0 (fun k _ => rfl)
  by_cases q0 : ¬ p0 < 0 ∧ ¬ 8 ≤ p0
  · rw [if_pos q0] at K
    replace K : GM E Y_Mill_bound (d + 10) [.ref a, .int p0] (xW E G a (c0 E)) (rIs (some (.int 0)) (xW E G a (c0 E))) := K
    rw [h.1] at K
    refine w_bound p0 (R := pR E (d + 11) a Y_Model_bound [.ref (a + 24), .int p0]) ha K (fun v G' hq => ?_) (fun C G' hq => by cases hq.1)
    obtain ⟨e1, rfl⟩ := hq
    cases e1
    refine ⟨0, fun _ => 0, rfl, h.2.2, ?_⟩
    have R := m_W_bound_no (E := E) (d := d + 10) (G := gUp G' (a + 65) (gAJ E 1 (vp_updL (fun _ => 0) 0 (0 : Int32).toInt64))) (m := a + 24) (n := a + 25) (s := s0) (by omega) (fun k hk => s0_b hk) p0
    rw [if_neg (i78.mp q0)] at R
    exact s_ok h R rfl trivial
  · rw [if_neg q0] at K
    replace K : GM E Y_Mill_bound (d + 10) [.ref a, .int p0] (xW E G a (c0 E)) (tIs "java/lang/IllegalArgumentException" (xW E G a (c0 E))) := K
    rw [h.1] at K
    refine w_bound p0 (R := pR E (d + 11) a Y_Model_bound [.ref (a + 24), .int p0]) ha K (fun v G' hq => (tIs_l hq).elim) (fun C G' hq => ⟨(tIs_r hq).1, ?_⟩)
    have R := m_W_bound_no (E := E) (d := d + 10) (G := G') (m := a + 24) (n := a + 25) (s := s0) (by omega) (fun k hk => s0_b hk) p0
    rw [if_pos (Classical.byContradiction (fun f => q0 (i78.mpr f)))] at R
    exact s_thr h (tIs_r hq).2 R rfl (by decide) trivial
theorem p_boundAt (h : lIs E a G (c0 E) s0 (fun _ => 0)) (hF : gFit E G 1 6) : s_boundAt E (d + 11) a (a + 24) (a + 65) G (fun _ => True) := by
  intro p0 p1
  obtain ⟨fs, ha⟩ := lIs_a h
  have K := m_X_boundAt_no (E := E) (d := d) (p_fit h hF) p0 p1 (fun k _ => rfl)
  by_cases q0 : ¬ p0 < 0 ∧ ¬ 8 ≤ p0
  · rw [if_pos q0] at K
    replace K : GM E Y_Mill_boundAt (d + 10) [.ref a, .int p0, .int p1] (xW E G a (c0 E)) (rIs (some (.int (-1))) (xW E G a (c0 E))) := K
    rw [h.1] at K
    refine w_boundAt p0 p1 (R := pR E (d + 11) a Y_Model_boundAt [.ref (a + 24), .int p0, .int p1]) ha K (fun v G' hq => ?_) (fun C G' hq => by cases hq.1)
    obtain ⟨e1, rfl⟩ := hq
    cases e1
    refine ⟨-1, fun _ => 0, rfl, h.2.2, ?_⟩
    have R := m_W_boundAt_no (E := E) (d := d + 10) (G := gUp G' (a + 65) (gAJ E 1 (vp_updL (fun _ => 0) 0 (-1 : Int32).toInt64))) (m := a + 24) (n := a + 25) (s := s0) (by omega) (fun k hk => s0_b hk) p0 p1
    rw [if_neg (i78.mp q0)] at R
    exact s_ok h R rfl trivial
  · rw [if_neg q0] at K
    replace K : GM E Y_Mill_boundAt (d + 10) [.ref a, .int p0, .int p1] (xW E G a (c0 E)) (tIs "java/lang/IllegalArgumentException" (xW E G a (c0 E))) := K
    rw [h.1] at K
    refine w_boundAt p0 p1 (R := pR E (d + 11) a Y_Model_boundAt [.ref (a + 24), .int p0, .int p1]) ha K (fun v G' hq => (tIs_l hq).elim) (fun C G' hq => ⟨(tIs_r hq).1, ?_⟩)
    have R := m_W_boundAt_no (E := E) (d := d + 10) (G := G') (m := a + 24) (n := a + 25) (s := s0) (by omega) (fun k hk => s0_b hk) p0 p1
    rw [if_pos (Classical.byContradiction (fun f => q0 (i78.mpr f)))] at R
    exact s_thr h (tIs_r hq).2 R rfl (by decide) trivial
theorem p_about (h : lIs E a G (c0 E) s0 (fun _ => 0)) (hF : gFit E G 1 6) : s_about E (d + 11) a (a + 24) (a + 65) G (fun _ => True) := by
  intro p0
  obtain ⟨fs, ha⟩ := lIs_a h
  have K := m_X_about (E := E) (d := d) (p_fit h hF) p0
  by_cases q0 : p0 < 0 ∨ ¬ p0 ≤ 6
  · rw [kAbout, if_pos q0] at K
    replace K : GM E Y_Mill_about (d + 10) [.ref a, .int p0] (xW E G a (c0 E)) (tIs "java/lang/IllegalArgumentException" (xW E G a (c0 E))) := K
    rw [h.1] at K
    refine w_about p0 (R := pR E (d + 11) a Y_Model_about [.ref (a + 24), .int p0]) ha K (fun v G' hq => (tIs_l hq).elim) (fun C G' hq => ⟨(tIs_r hq).1, ?_⟩)
    have R := m_W_about (E := E) (d := d + 10) (G := G') (m := a + 24) (n := a + 25) (s := s0) (by omega) p0
    have e : rAbout s0 p0 = (0, wF s0 0 1) := if_pos q0
    rw [e] at R
    exact s_thr h (tIs_r hq).2 R rfl (by decide) trivial
  · have e0 : kAbout (c0 E) p0 = .inr (0, c0 E) := by
      rw [kAbout, if_neg q0]
      simp only [c0_n, ite_self, if_true]
    rw [e0] at K
    replace K : GM E Y_Mill_about (d + 10) [.ref a, .int p0] (xW E G a (c0 E)) (rIs (some (.int 0)) (xW E G a (c0 E))) := K
    rw [h.1] at K
    refine w_about p0 (R := pR E (d + 11) a Y_Model_about [.ref (a + 24), .int p0]) ha K (fun v G' hq => ?_) (fun C G' hq => by cases hq.1)
    obtain ⟨e1, rfl⟩ := hq
    cases e1
    refine ⟨0, fun _ => 0, rfl, h.2.2, ?_⟩
    have R := m_W_about (E := E) (d := d + 10) (G := gUp G' (a + 65) (gAJ E 1 (vp_updL (fun _ => 0) 0 (0 : Int32).toInt64))) (m := a + 24) (n := a + 25) (s := s0) (by omega) p0
    have e : rAbout s0 p0 = (0, wF s0 0 0) := by
      rw [rAbout, if_neg q0]
      simp only [s0_f, ite_self, if_true]
    rw [e] at R
    exact s_ok h R rfl trivial
theorem p_pop (h : lIs E a G (c0 E) s0 (fun _ => 0)) (hF : gFit E G 1 6) : s_pop E (d + 11) a (a + 24) (a + 65) G (fun _ => True) := by
  intro p0 hp
  have K : GM E Y_Mill_pop (d + 11) [.ref a, .int p0] G (rIs (some (.int 0)) G) := by
    rcases hp with rfl | rfl
    · have K := m_X_pop_no0 (E := E) (d := d + 1) (G := G) (a := a) (c := c0 E) (c0_n 4)
      rw [h.1] at K
      exact K
    · have K := m_X_pop_no1 (E := E) (d := d + 1) (G := G) (a := a) (c := c0 E) (c0_n 5)
      rw [h.1] at K
      exact K
  refine K.mono (fun o G1 hq => ?_)
  obtain ⟨rfl, rfl⟩ := hq
  have R := m_W_pop (E := E) (d := d + 10) (G := G1) (m := a + 24) (n := a + 25) (s := s0) (v := p0) (by omega) (by rw [s0_h]; decide) (by rw [s0_h]; decide) (s0_pl p0)
  have e : rPop s0 p0 = (0, wF s0 0 0) := if_pos (s0_h p0)
  rw [e] at R
  exact ⟨0, rfl, s_dir h R trivial⟩
theorem p_asked (h : lIs E a G (c0 E) s0 (fun _ => 0)) (hF : gFit E G 1 6) : s_asked E (d + 11) a (a + 24) (a + 65) G (fun _ => True) := by
  intro p0
  have K := m_X_asked (E := E) (d := d + 10) (G := G) (a := a) (c := c0 E) (by rw [c0_n]; decide) p0
  have e0 : kAt ((c0 E).1 21) ((c0 E).2.1 6) p0 = -1 := by
    rw [c0_n]
    exact if_neg (fun q => q.1 (Int32.not_le.mp q.2))
  rw [e0, h.1] at K
  refine K.mono (fun o G1 hq => ?_)
  obtain ⟨rfl, rfl⟩ := hq
  have R := m_W_asked (E := E) (d := d + 11) (G := G1) (m := a + 24) (n := a + 25) (s := s0) (by omega) (by rw [s0_f]; decide) p0
  rw [if_neg (by rw [s0_f]; exact fun q => q.1 (Int32.not_le.mp q.2))] at R
  exact ⟨-1, rfl, s_dir h R trivial⟩
theorem p_missing (h : lIs E a G (c0 E) s0 (fun _ => 0)) (hF : gFit E G 1 6) : s_missing E (d + 11) a (a + 24) (a + 65) G (fun _ => True) := by
  intro p0
  have K := m_X_missing (E := E) (d := d + 10) (G := G) (a := a) (c := c0 E) (by rw [c0_n]; decide) p0
  rw [if_pos (c0_n 1), h.1] at K
  refine K.mono (fun o G1 hq => ?_)
  obtain ⟨rfl, rfl⟩ := hq
  have R := m_W_missing (E := E) (d := d + 11) (G := G1) (m := a + 24) (n := a + 25) (s := s0) (by omega) (by rw [s0_f]; decide) p0
  rw [if_neg (fun q => q.1 (s0_f 19))] at R
  exact ⟨-1, rfl, s_dir h R trivial⟩
theorem p_unused (h : lIs E a G (c0 E) s0 (fun _ => 0)) (hF : gFit E G 1 6) : s_unused E (d + 11) a (a + 24) (a + 65) G (fun _ => True) := by
  intro p0
  have K := m_X_unused_no (E := E) (d := d + 1) (G := G) (a := a) (c := c0 E) (c0_n 1) p0
  rw [h.1] at K
  refine K.mono (fun o G1 hq => ?_)
  obtain ⟨rfl, rfl⟩ := hq
  have R := m_W_unused (E := E) (d := d + 11) (G := G1) (m := a + 24) (n := a + 25) (s := s0) (by omega) (by rw [s0_f]; decide) (by rw [s0_f]; decide) p0
  have e : rUn s0 21 0 p0 = -1 := by
    unfold rUn
    simp [s0_f]
  rw [e] at R
  exact ⟨-1, rfl, s_dir h R trivial⟩
theorem p_clear (h : lIs E a G (c0 E) s0 (fun _ => 0)) (hF : gFit E G 1 6) : s_clear E (d + 11) a (a + 24) (a + 65) G (fun _ => True) := by
  have K := m_X_clear0 (E := E) (d := d + 1) (G := G) (a := a) (c := c0 E) (c0_n 23)
  rw [h.1] at K
  refine K.mono (fun o G1 hq => ?_)
  obtain ⟨rfl, rfl⟩ := hq
  have hm : mW E (xW E G a (kClear (c0 E))) (a + 24) (a + 25) s0 = xW E G a (kClear (c0 E)) := by
    rw [xw_mw (by omega) (by omega), h.2.1]
  refine ⟨rfl, ⟨_, by rw [← hm]; exact mw_f⟩, ?_⟩
  have R := m_W_clear (E := E) (d := d + 10) (G := xW E G a (kClear (c0 E))) (m := a + 24) (n := a + 25) (s := s0) (by omega)
  rw [hm] at R
  refine R.mono (fun o G2 h2 => ?_)
  exact ⟨h2.1, trivial⟩
theorem p_type (h : lIs E a G (c0 E) s0 (fun _ => 0)) (hF : gFit E G 1 6) : s_type E (d + 11) a (a + 24) (a + 65) G (fun _ => True) := by
  intro p0 p1
  obtain ⟨fs, ha⟩ := lIs_a h
  have K := m_X_type (E := E) (d := d) (p_fit h hF) p0 p1
  have fin : ∀ (G' : gS) (k : Int32), mW E G' (a + 24) (a + 25) s0 = G' → (rType s0 p0 p1).1 0 = k → (∃ fs, G'.1 (a + 24) = some (.inr (13, fs))) ∧ GM E Y_Model_type (d + 11) [.ref (a + 24), .int p0, .int p1] G' (fun o G2 => o = .inl none ∧ (∃ fs, G2.1 (a + 24) = some (.inr (13, fs))) ∧ GM E Y_Model_thrown (d + 11) [.ref (a + 24)] G2 (rIs (some (.int k)) G2) ∧ True) := by
    intro G' k hm hk
    have R := m_W_type (E := E) (d := d + 10) (G := G') (m := a + 24) (n := a + 25) (s := s0) (by omega) p0 p1
    refine ⟨⟨_, by rw [← hm]; exact mw_f⟩, ?_⟩
    rw [hm] at R
    refine R.mono (fun o G2 h2 => ?_)
    obtain ⟨rfl, rfl⟩ := h2
    have T := m_W_thrown (E := E) (d := d + 11) (G := G') (m := a + 24) (n := a + 25) (s := rType s0 p0 p1) (by omega)
    rw [hk] at T
    exact ⟨rfl, ⟨_, mw_f⟩, T, trivial⟩
  by_cases q0 : tBad p0 p1
  · rw [kType, if_pos q0] at K
    replace K : GM E Y_Mill_type (d + 10) [.ref a, .int p0, .int p1] (xW E G a (c0 E)) (tIs "java/lang/IllegalArgumentException" (xW E G a (c0 E))) := K
    rw [h.1] at K
    refine w_type p0 p1 ha K (fun v G' hq => (tIs_l hq).elim) (fun C G' hq => Or.inl ⟨(tIs_r hq).1, ?_⟩)
    exact fin G' 1 (mw_c h.2.1 (tIs_r hq).2) (by rw [rType, if_pos (tBad_r.mp q0)]; rfl)
  · rw [kType, if_neg q0, if_neg (fun f => f.elim (fun z => z (c0_n 0)) (c0_told p0))] at K
    replace K : GM E Y_Mill_type (d + 10) [.ref a, .int p0, .int p1] (xW E G a (c0 E)) (rIs none (xW E G a (cA (c0 E) 0 (tn p0) p1))) := K
    rw [h.1] at K
    refine w_type p0 p1 ha K (fun v G' hq => ?_) (fun C G' hq => by cases hq.1)
    obtain ⟨e1, rfl⟩ := hq
    cases e1
    refine ⟨rfl, fin _ 0 (by rw [xw_mw (by omega) (by omega), h.2.1]) ?_⟩
    rw [rType, if_neg (fun f => q0 (tBad_r.mpr f)), if_neg (fun f => f.elim (fun z => by rw [s0_a _ (by decide)] at z; exact absurd z (by decide)) (fun z => z (s0_f 4)))]
    rfl
theorem p_step (h : lIs E a G (c0 E) s0 (fun _ => 0)) (hF : gFit E G 1 6) : gStep E (d + 11) a (a + 24) (a + 65) G (fun _ => True) :=
  ⟨lIs_a h, p_type h hF, p_argument h hF, p_any h hF, p_number h hF, p_make h hF, p_either h hF, p_name h hF, p_addCase h hF, p_build h hF, p_match h hF, p_bound h hF, p_boundAt h hF, p_question h hF, p_about h hF, p_pop h hF, p_asked h hF, p_missing h hF, p_unused h hF, p_clear h hF⟩
end FR
