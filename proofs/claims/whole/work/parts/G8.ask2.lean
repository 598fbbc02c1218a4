/-! Calls that only tell, on -/
section NP
variable {E : gE} {a k n n' sl sl' D : Nat} {G G' : gS} {c c' : cS} {u u' : uS} {s s' : mS} {fo : Nat → Int64} {YM : gY} {aM : List Value}
/-- what is built, both sides -/
def btF (E : gE) (a : Nat) (c : cS) (u : uS) (n : Nat) (s : mS) : Prop := ∃ D L qs, D ≤ 1000 ∧ c.1 6 = nI D ∧ s.1 20 = nI D ∧ c.1 10 = s.1 21 ∧ c.1 11 = s.1 22 ∧ c.1 9 = s.1 24 ∧ c.1 12 = s.1 23 ∧ L ≤ 4700 ∧ c.1 8 = nI L ∧ s.1 25 = nI L ∧ (∀ i, i < L → c.2.1 5 i = s.2 13 i) ∧ lOk E c u a n 20 2 6 1001 qs ∧
  ∀ j, j < D → ∃ q, qs[j]? = some q ∧ u.2.2.1 q 1 = s.2 14 j ∧ u.2.2.1 q 7 = s.2 15 j ∧ u.2.2.1 q 8 = s.2 16 j ∧ u.2.2.1 q 3 = s.2 17 j
theorem RI_bt (h : RI E a k c u n sl s) : (c.1 1 = 0 ∧ s.1 19 = 0) ∨ (¬ c.1 1 = 0 ∧ ¬ s.1 19 = 0 ∧ btF E a c u n s) := by
  obtain ⟨-, -, -, P, N, t0, rt, rl, T, V, tm, ob, pp, vv, cc, h⟩ := h
  have W := rI_wf h
  obtain ⟨-, ⟨ty, -⟩, -, -, -, -, ks, sp, ps, qs, ms, hp, hb⟩ := h
  rcases hb with ⟨b1, b2, -⟩ | ⟨b1, b2, b3, b4, st, nk, Z, pl, X, b5, b6, b7⟩
  · exact Or.inl ⟨b1, b2⟩
  · refine Or.inr ⟨b1, b3, ?_⟩
    have hml := aTree_ml W.1 W.2.2.1 W.2.2.2.2.2.2.1 W.2.2.2.2.1 (tyO_9 ty) ty.2.1 W.2.2.2.1 b5
    have hlg := aTree_lg b5
    obtain ⟨-, -, -, -, r1, r2, r3, r4, r5, r6, -, r8, r9⟩ : _ ∧ _ ∧ _ ∧ _ ∧ rS P t0 s st := ⟨trivial, trivial, trivial, trivial, b7.2.2.2.1⟩
    have hzq := b6.2.2.2.1
    obtain ⟨-, -, -, -, -, c6, c7, c8, -, -, -, -, t1, t2, t3, t4, t5, t6⟩ := b6
    obtain ⟨L, l1, l2, l3, l4⟩ : ∃ L, L ≤ 4700 ∧ c.1 8 = nI L ∧ s.1 25 = nI L ∧ ∀ i, i < L → c.2.1 5 i = s.2 13 i := by
      by_cases hz : st.2.2.1 = 0
      · exact ⟨0, by omega, t4 hz, r5 hz, fun i hi => by omega⟩
      · refine ⟨_, hml, (t5 hz).1, (r6 hz).1, fun i hi => ?_⟩
        have e : st.2.2.2.2.1[i]? = some st.2.2.2.2.1[i] := List.getElem?_eq_getElem hi
        have x1 := (t5 hz).2 i _ e
        have x2 := (r6 hz).2 i _ e
        rw [Nat.zero_add] at x1 x2
        rw [x1, x2]
    refine ⟨st.1.length, L, qs, c8, c6, r1, by rw [t1, r2], by rw [t2, r3], by rw [t3, r4], by rw [t6, r8, hlg], l1, l2, l3, l4, hp.2.2.1, fun j hj => ?_⟩
    have e : st.1[j]? = some st.1[j] := List.getElem?_eq_getElem hj
    obtain ⟨q, z, lA, lB, q1, q2, q3, q4, q5, q6⟩ := hzq j _ e
    obtain ⟨y1, y2, y3, y4, -⟩ := r9 j _ e
    obtain ⟨-, -, w1, -, w3, -, -, -, w7, w8, -⟩ := q5
    refine ⟨q, q1, ?_, by rw [w7, y2], by rw [w8, y3], by rw [w3, y4]⟩
    rw [w1, y1, rcs_len q4, ← q6.1, List.length_map]
theorem k_missing (hl : lI E a G c u n sl s fo) (h : RI E a k c u n sl s) (hk : k < 512) : s_missing E (D + 41) a (a + 24) (a + 65) G (LI E a (k + 1)) := by
  intro p0
  have hR := RI_0 h hk (Nat.le_refl n) (by omega) (show sl ≤ sl + 40 by omega) (x := 0)
  rcases RI_bt h with ⟨b1, b2⟩ | ⟨b1, b2, Q, L, qs, d1, d2, d3, d4, d5, d6, d7, l1, l2, l3, l4, -⟩
  · have K := m_X_missing0 (E := E) (d := D + 40) (G := zW E G u n sl) (a := a) (c := c) b1 p0
    replace K : GM E Y_Mill_missing (D + 41) [.ref a, .int p0] (yW E G a c u n sl) (rIs (some (.int (-1))) (yW E G a c u n sl)) := K
    rw [hl.1] at K
    refine K.mono (fun o G1 hq => ?_)
    obtain ⟨rfl, rfl⟩ := hq
    exact ⟨_, rfl, ev_d hl (m_W_missing0 (E := E) (d := D + 41) (G := G1) (m := a + 24) (n := a + 25) (s := s) (by omega) b2 p0) hR⟩
  · have K := m_X_missing (E := E) (d := D + 40) (G := zW E G u n sl) (a := a) (c := c) (by rw [l2]; exact (le_hi (nI_hi (by omega)) (show (6402 : Int32).toInt = ((6402 : Nat) : Int) by decide)).mpr (by omega)) p0
    rw [if_neg b1] at K
    replace K : GM E Y_Mill_missing (D + 41) [.ref a, .int p0] (yW E G a c u n sl) (rIs (some (.int (kAt (c.1 8) (c.2.1 5) p0))) (yW E G a c u n sl)) := K
    rw [hl.1] at K
    refine K.mono (fun o G1 hq => ?_)
    obtain ⟨rfl, rfl⟩ := hq
    have R := m_W_missing (E := E) (d := D + 41) (G := G1) (m := a + 24) (n := a + 25) (s := s) (by omega) (by rw [l3]; exact (le_hi (nI_hi (by omega)) (show (9000 : Int32).toInt = ((9000 : Nat) : Int) by decide)).mpr (by omega)) p0
    have e : (if ¬ s.1 19 = 0 ∧ ¬ p0 < 0 ∧ ¬ s.1 25 ≤ p0 then s.2 13 (tn p0) else -1) = kAt (c.1 8) (c.2.1 5) p0 := by
      unfold kAt
      rw [l2, l3]
      by_cases z : ¬ p0 < 0 ∧ ¬ nI L ≤ p0
      · rw [if_pos ⟨b2, z⟩, if_pos z]
        exact (l4 _ (tn_lt z.1 z.2 (nI_hi (by omega)))).symm
      · rw [if_neg (fun y => z y.2), if_neg z]
    rw [e] at R
    exact ⟨_, rfl, ev_d hl R hR⟩
theorem RI_cs (h : RI E a k c u n sl s) : ∃ C, C ≤ 20 ∧ c.1 3 = nI C ∧ s.1 16 = nI C := by
  obtain ⟨-, -, -, P, N, t0, rt, rl, T, V, tm, ob, pp, vv, cc, h⟩ := h
  obtain ⟨-, -, -, -, ⟨-, -, -, -, -, -, -, -, -, x10, x11, x12, -⟩, -⟩ := h
  exact ⟨cc.length, x12, x11, x10⟩
theorem k_unused (hl : lI E a G c u n sl s fo) (h : RI E a k c u n sl s) (hk : k < 512) : s_unused E (D + 41) a (a + 24) (a + 65) G (LI E a (k + 1)) := by
  intro p0
  have hR := RI_0 h hk (Nat.le_refl n) (by omega) (show sl ≤ sl + 40 by omega) (x := 0)
  obtain ⟨C, hC, c3, s16⟩ := RI_cs h
  have R := fun G1 => m_W_unused (E := E) (d := D + 41) (G := G1) (m := a + 24) (n := a + 25) (s := s) (by omega) (by rw [s16]; exact nlt_hi (nI_hi (by omega))) (by rw [s16]; exact (le_hi (nI_hi (by omega)) (show (20 : Int32).toInt = ((20 : Nat) : Int) by decide)).mpr hC) p0
  rcases RI_bt h with ⟨b1, b2⟩ | ⟨b1, b2, Q, L, qs, d1, d2, d3, d4, d5, d6, d7, -⟩
  · have K := m_X_unused_no (E := E) (d := D + 31) (G := zW E G u n sl) (a := a) (c := c) b1 p0
    replace K : GM E Y_Mill_unused (D + 41) [.ref a, .int p0] (yW E G a c u n sl) (rIs (some (.int (-1))) (yW E G a c u n sl)) := K
    rw [hl.1] at K
    refine K.mono (fun o G1 hq => ?_)
    obtain ⟨rfl, rfl⟩ := hq
    have e : rUn s 21 0 p0 = -1 := by
      unfold rUn
      rw [if_pos (Or.inr (Or.inl b2))]
    have R := R G1
    rw [e] at R
    exact ⟨_, rfl, ev_d hl R hR⟩
  · have K := m_Y_unused (E := E) (d := D + 1) (G := G) (a := a) (u := u) (n := n) (sl := sl) (x := p0) b1 c3 hC
    rw [hl.1] at K
    refine K.mono (fun o G1 hq => ?_)
    obtain ⟨rfl, rfl⟩ := hq
    have R := R G1
    rw [← un_eq s16 hC b2 d6.symm] at R
    exact ⟨_, rfl, ev_d hl R hR⟩
theorem k_about (hl : lI E a G c u n sl s fo) (h : RI E a k c u n sl s) (hk : k < 512) : s_about E (D + 41) a (a + 24) (a + 65) G (LI E a (k + 1)) := by
  intro p0
  obtain ⟨fs, ha⟩ := lI_a hl
  have hF := (RI_f6 hl h).2
  have K := m_X_about (E := E) (d := D + 30) (G := zW E G u n sl) (a := a) (c := c) hF p0
  by_cases q0 : p0 < 0 ∨ ¬ p0 ≤ 6
  · rw [kAbout, if_pos q0] at K
    replace K : GM E Y_Mill_about (D + 40) [.ref a, .int p0] (yW E G a c u n sl) (tIs "java/lang/IllegalArgumentException" (yW E G a c u n sl)) := K
    rw [hl.1] at K
    refine w_about p0 (R := Ev E a (D + 41) Y_Model_about [.ref (a + 24), .int p0] (LI E a (k + 1))) ha K (fun v G' hq => (tIs_l hq).elim) (fun C G' hq => ?_)
    have R := m_W_about (E := E) (d := D + 40) (G := G') (m := a + 24) (n := a + 25) (s := s) (by omega) p0
    rw [rAbout, if_pos q0] at R
    exact refu hl h hk hq R (by decide)
  · have hR := RI_0 h hk (Nat.le_refl n) (by omega) (show sl ≤ sl + 40 by omega) (x := 0)
    have e : ∃ v, kAbout c p0 = .inr (v, c) ∧ rAbout s p0 = (v, wF s 0 0) := by
      obtain ⟨-, -, -, P, N, t0, rt, rl, T, V, tm, ob, pp, vv, cc, hr⟩ := id h
      obtain ⟨-, -, -, -, ⟨x1, x2, x3, x4, -, -, -, -, -, x10, x11, -⟩, -⟩ := hr
      have y4 : c.1 4 = s.1 14 := by rw [x1.1, x3, List.length_map]
      have y5 : c.1 5 = s.1 15 := by rw [x2.1, x4, List.length_map]
      have y3 : c.1 3 = s.1 16 := by rw [x10, x11]
      refine ⟨_, by rw [kAbout, if_neg q0], ?_⟩
      rw [rAbout, if_neg q0, y3, y4, y5]
      refine Prod.ext ?_ rfl
      show (if ¬ 3 ≤ p0 then _ else _) = _
      have i0 : (0 : Int32).toInt = ((0 : Nat) : Int) := by decide
      have i1' : (1 : Int32).toInt = ((1 : Nat) : Int) := by decide
      have i2 : (2 : Int32).toInt = ((2 : Nat) : Int) := by decide
      have i3 : (3 : Int32).toInt = ((3 : Nat) : Int) := by decide
      have hp := tn_hi (x := p0) (fun z => q0 (Or.inl z))
      by_cases z : 3 ≤ p0
      · have z' := (le_hi i3 hp).mp z
        have n0 : ¬ p0 = 0 := fun y => by have := (eq_hi hp i0).mp y; omega
        have n1 : ¬ p0 = 1 := fun y => by have := (eq_hi hp i1').mp y; omega
        have n2 : ¬ p0 = 2 := fun y => by have := (eq_hi hp i2).mp y; omega
        simp only [if_neg (fun y : ¬ 3 ≤ p0 => y z), if_neg n0, if_neg n1, if_neg n2]
        rcases RI_bt h with ⟨b1, b2⟩ | ⟨b1, b2, Q, L, qs, d1, d2, d3, d4, d5, d6, d7, -⟩
        · rw [if_pos b1, if_pos b2]
        · rw [if_neg b1, if_neg b2, kTotal, d2, d3, d4, d5, d7]
      · rw [if_pos z]
        have z' : ¬ 3 ≤ tn p0 := fun y => z ((le_hi i3 hp).mpr y)
        by_cases z0 : p0 = 0
        · rw [if_pos z0, if_pos z0]
        · rw [if_neg z0, if_neg z0]
          by_cases z1 : p0 = 1
          · rw [if_pos z1, if_pos z1]
          · rw [if_neg z1, if_neg z1]
            have z2 : p0 = 2 := (eq_hi hp i2).mpr (by
              have w0 : ¬ tn p0 = 0 := fun y => z0 ((eq_hi hp i0).mpr y)
              have w1 : ¬ tn p0 = 1 := fun y => z1 ((eq_hi hp i1').mpr y)
              omega)
            rw [if_pos z2]
    obtain ⟨v, e1, e2⟩ := e
    rw [e1] at K
    replace K : GM E Y_Mill_about (D + 40) [.ref a, .int p0] (yW E G a c u n sl) (rIs (some (.int v)) (yW E G a c u n sl)) := K
    rw [hl.1] at K
    refine w_about p0 (R := Ev E a (D + 41) Y_Model_about [.ref (a + 24), .int p0] (LI E a (k + 1))) ha K (fun v' G' hq => ?_) (fun C G' hq => by cases hq.1)
    obtain ⟨e3, rfl⟩ := hq
    cases e3
    refine ⟨v, fo, rfl, hl.2.2.1, ?_⟩
    have R := m_W_about (E := E) (d := D + 40) (G := gUp G' (a + 65) (gAJ E 1 (vp_updL fo 0 v.toInt64))) (m := a + 24) (n := a + 25) (s := s) (by omega) p0
    rw [e2] at R
    exact ev_r (lI_out hl) R rfl (fun _ => up_0) hR
theorem k_question (hl : lI E a G c u n sl s fo) (h : RI E a k c u n sl s) (hk : k < 512) : s_question E (D + 41) a (a + 24) (a + 65) G (LI E a (k + 1)) := by
  intro p0 p1
  obtain ⟨fs, ha⟩ := lI_a hl
  have hF := (RI_f6 hl h).2
  have bad : ∀ (hx : c.1 1 = 0 ∨ p0 < 0 ∨ c.1 6 ≤ p0 ∨ p1 < 0 ∨ ¬ p1 ≤ 3) (R : ∀ G', GM E Y_Model_question (D + 41) [.ref (a + 24), .int p0, .int p1] (mW E G' (a + 24) (a + 25) s) (rIs (some (.int 0)) (mW E G' (a + 24) (a + 25) (wF s 0 1)))), sA E (D + 41) (a + 24) (a + 65) Y_Law_question Y_Model_question [.ref a, .int p0, .int p1, .ref (a + 65)] [.ref (a + 24), .int p0, .int p1] G (LI E a (k + 1)) := fun hx R => by
    have K := m_Y_questionX (E := E) (d := D) (G := G) (a := a) hF hx
    rw [hl.1] at K
    exact w_question p0 p1 (R := Ev E a (D + 41) Y_Model_question [.ref (a + 24), .int p0, .int p1] (LI E a (k + 1))) ha K (fun v G' hq => (tIs_l hq).elim) (fun C G' hq => refu hl h hk hq (R G') (by decide))
  rcases RI_bt h with ⟨b1, b2⟩ | ⟨b1, b2, Q, L, qs, d1, d2, d3, d4, d5, d6, d7, l1, l2, l3, l4, lo, hq⟩
  · exact bad (Or.inl b1) (fun G' => m_W_question0 (E := E) (d := D + 40) (G := G') (m := a + 24) (n := a + 25) (s := s) (by omega) b2 p0 p1)
  · have R := fun G' => m_W_question (E := E) (d := D + 40) (G := G') (m := a + 24) (n := a + 25) (s := s) (by omega) (by rw [d3]; exact (le_hi (nI_hi (by omega)) (show (1001 : Int32).toInt = ((1001 : Nat) : Int) by decide)).mpr (by omega)) p0 p1
    by_cases q0 : p0 < 0 ∨ s.1 20 ≤ p0 ∨ p1 < 0 ∨ ¬ p1 ≤ 3
    · refine bad (Or.inr (by rw [d2, ← d3]; exact q0)) (fun G' => ?_)
      have R := R G'
      rw [rQuestion, if_pos (Or.inr q0)] at R
      exact R
    · have g0 : ¬ p0 < 0 := fun z => q0 (Or.inl z)
      have g1 : ¬ s.1 20 ≤ p0 := fun z => q0 (Or.inr (Or.inl z))
      have g2 : ¬ p1 < 0 := fun z => q0 (Or.inr (Or.inr (Or.inl z)))
      have g3 : p1 ≤ 3 := Classical.byContradiction (fun z => q0 (Or.inr (Or.inr (Or.inr z))))
      have hlt : tn p0 < Q := tn_lt g0 g1 (by rw [d3]; exact nI_hi (by omega))
      obtain ⟨q, hqs, w1, w7, w8, w3⟩ := hq _ hlt
      have hR := RI_0 h hk (Nat.le_refl n) (by omega) (show sl ≤ sl + 40 by omega) (x := 0)
      have K := m_Y_question (E := E) (d := D) (G := G) (a := a) (u := u) (n := n) (sl := sl) (w := p1) lo hqs b1 d2 hlt (by omega) ⟨g2, g3⟩
      rw [← tn_nI g0, hl.1] at K
      have e : fcF u q p1 = (rQuestion s p0 p1).1 := by
        rw [rQuestion, if_neg (fun z => z.elim b2 q0), fcF, w1, w7, w8, w3]
      rw [e] at K
      refine w_question p0 p1 (R := Ev E a (D + 41) Y_Model_question [.ref (a + 24), .int p0, .int p1] (LI E a (k + 1))) ha K (fun v' G' hq => ?_) (fun C G' hq => by cases hq.1)
      obtain ⟨e3, rfl⟩ := hq
      cases e3
      refine ⟨_, fo, rfl, hl.2.2.1, ?_⟩
      have R := R (gUp G' (a + 65) (gAJ E 1 (vp_updL fo 0 (rQuestion s p0 p1).1.toInt64)))
      have e2 : (rQuestion s p0 p1).2 = wF s 0 0 := by rw [rQuestion, if_neg (fun z => z.elim b2 q0)]
      rw [e2] at R
      exact ev_r (lI_out hl) R rfl (fun _ => up_0) hR
end NP
