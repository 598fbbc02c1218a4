/-! bound, boundAt -/
section NQ
variable {E : gE} {a k n n' sl sl' D N t0 : Nat} {G G' : gS} {c c' : cS} {u u' : uS} {s s' : mS} {fo : Nat → Int64} {YM : gY} {aM : List Value} {P : Nat → Nat → Int32} {rt : Nat → Nat} {rl : Nat → List Nat} {T V : Nat → Prop} {tm : Nat → Nat} {ob : Nat → Int32} {pp vv cc : List Nat}
theorem rI_vS (h : rI E a k P N t0 rt rl T V tm ob pp vv cc c u n sl s) : vS P V := fun v hv => by
  obtain ⟨-, -, ⟨-, -, -, -, -, hnd, -⟩, tr, -⟩ := h
  have hN := (tr.2.2.2.2.2.1 v hv).1
  obtain ⟨-, ⟨z, z1, z2, ez⟩, -, -, h1, -⟩ := hnd v hN
  exact ⟨fun q => (h1 q).2, z, z2, ez⟩
theorem rI_vTm (h : rI E a k P N t0 rt rl T V tm ob pp vv cc c u n sl s) : vTm P u a tm V := by
  obtain ⟨-, -, -, tr, -⟩ := h
  exact vTm_of tr.2.2.2.2.2.1 tr.2.2.2.2.2.2 tr.2.1 (fun v hv => (tr.2.2.1 v (tr.2.2.2.2.2.2 v hv)).2.1)
theorem rI_vOk (h : rI E a k P N t0 rt rl T V tm ob pp vv cc c u n sl s) : ∀ (F v : Nat), V v → v < F → vOk P F v := by
  obtain ⟨-, ⟨ty, -⟩, ⟨-, hNk, hk, -, -, hnd, -⟩, tr, -⟩ := h
  intro F
  induction F with
  | zero =>
    intro v _ h
    omega
  | succ F ih =>
    intro v hv hF
    obtain ⟨hN, hkd, hpt⟩ := tr.2.2.2.2.2.1 v hv
    refine ⟨by omega, ?_⟩
    rcases hkd with hkd | hkd
    · exact Or.inl hkd
    · obtain ⟨⟨t, ht, et⟩, -, -, -, -, -, -, h2⟩ := hnd v hN
      obtain ⟨T', w, T2, T9, e0, hw, e5, ez, hp, -⟩ := h2 hkd
      refine Or.inr ⟨hkd, ⟨t, w, ht, et, by omega, e5⟩, (tyO_4 ty _).2, aAr_4 ty, fun i hi => ?_⟩
      obtain ⟨x, hx, e6, -⟩ := hp i hi
      have hVx := hpt hkd i hi
      rw [e6, tnI (by omega)] at hVx ⊢
      exact ⟨⟨x, by omega, rfl⟩, ih x hVx (by omega)⟩
theorem k_bound (hl : lI E a G c u n sl s fo) (h : RI E a k c u n sl s) (hk : k < 512) : s_bound E (D + 41) a (a + 24) (a + 65) G (LI E a (k + 1)) := by
  intro p0
  obtain ⟨fs, ha⟩ := lI_a hl
  have hF := (RI_f6 hl h).2
  by_cases q0 : ¬ p0 < 0 ∧ ¬ 8 ≤ p0
  · have hx8 : tn p0 < 8 := tn_lt q0.1 q0.2 (by decide)
    have hR := RI_0 h hk (Nat.le_refl n) (by omega) (show sl ≤ sl + 40 by omega) (x := 0)
    obtain ⟨-, -, -, P, N, t0, rt, rl, T, V, tm, ob, pp, vv, cc, hr⟩ := id h
    have W := rI_wf hr
    have hvS := rI_vS hr
    have hvT := rI_vTm hr
    have hvO := rI_vOk hr
    obtain ⟨hP, -, -, tr, -, ⟨l, -, -, -, -, y5⟩, -⟩ := hr
    rcases y5 _ hx8 with ⟨y1, y2⟩ | ⟨v, hv, y1, y2⟩
    · have KL : GM E Y_Passage_lengthOf (D + 39) [.ref (a + 20), .int p0] (yW E G a c u n sl) (rIs (some (.int 0)) (yW E G a c u n sl)) := m_X_lengthOf_no (E := E) (d := D + 39) (G := zW E G u n sl) (a := a) (c := c) p0 q0.1 q0.2 y1
      have K := m_Y_bound (E := E) (d := D) q0 KL
      rw [hl.1] at K
      refine w_bound p0 (R := Ev E a (D + 41) Y_Model_bound [.ref (a + 24), .int p0] (LI E a (k + 1))) ha K (fun v' G' hq => ?_) (fun C G' hq => by cases hq.1)
      obtain ⟨e3, rfl⟩ := hq
      cases e3
      refine ⟨_, fo, rfl, hl.2.2.1, ?_⟩
      have R := m_W_bound_n1 (E := E) (d := D + 40) (G := gUp G' (a + 65) (gAJ E 1 (vp_updL fo 0 (0 : Int32).toInt64))) (m := a + 24) (n := a + 25) (s := s) (by omega) p0 (fun _ _ => y2)
      rw [if_neg (i78.mp q0)] at R
      exact ev_r (lI_out hl) R rfl (fun _ => up_0) hR
    · have hvN := (tr.2.2.2.2.2.1 v hv).1
      have hlen := vl_len W.1 tr.2.2.2.2.2.1 hvS 512 v hv (by omega)
      obtain ⟨-, z, z60, ez⟩ := hvS v hv
      have K := m_Y_bound (E := E) (d := D) (x := nI (tn p0)) (by rw [← tn_nI q0.1]; exact q0) (m_Pg_len (E := E) (d := D + 39) (G := G) (n := n) (sl := sl) hx8 y1 (hvT v hv).1)
      rw [← tn_nI q0.1, (hvT v hv).2.2.1, ez, two_z z60, hl.1] at K
      rw [ez, tnI (by omega)] at hlen
      refine w_bound p0 (R := Ev E a (D + 41) Y_Model_bound [.ref (a + 24), .int p0] (LI E a (k + 1))) ha K (fun v' G' hq => ?_) (fun C G' hq => by cases hq.1)
      obtain ⟨e3, rfl⟩ := hq
      cases e3
      refine ⟨_, fo, rfl, hl.2.2.1, ?_⟩
      have R := m_W_bound (E := E) (d := D + 40) (G := gUp G' (a + 65) (gAJ E 1 (vp_updL fo 0 (nI (2 * z)).toInt64))) (m := a + 24) (n := a + 25) (s := s) (by omega) hP hx8 y2 (hvO 512 v hv (by omega)) (by omega) (by omega)
      rw [hlen, ← tn_nI q0.1] at R
      refine ev (lI_out hl) (R.mono (fun o G2 h2 => ?_))
      obtain ⟨rfl, s', rfl, hf⟩ := h2
      refine ⟨_, s', rfl, rfl, (hf.2 0 (by omega)).trans rfl, fun _ => up_0, ?_⟩
      exact RI_q h hk kFr_rf (RI_fit (G := G') h).2.2.2 h.2.1 (Nat.le_refl n) (by omega) (by omega) (fun j hj h58 => (hf.2 j h58).trans (if_neg hj)) (fun j h36 h39 => hf.1 j h36 h39)
  · have K := m_Y_boundX (E := E) (d := D) (G := G) hF q0
    rw [hl.1] at K
    refine w_bound p0 (R := Ev E a (D + 41) Y_Model_bound [.ref (a + 24), .int p0] (LI E a (k + 1))) ha K (fun v G' hq => (tIs_l hq).elim) (fun C G' hq => ?_)
    have hb : p0 < 0 ∨ ¬ p0 ≤ 7 := Classical.byContradiction (fun f => q0 (i78.mpr f))
    have R := m_W_bound_n1 (E := E) (d := D + 40) (G := G') (m := a + 24) (n := a + 25) (s := s) (by omega) p0 (fun z1 z2 => absurd hb (fun z => z.elim z1 (fun w => w z2)))
    rw [if_pos hb] at R
    exact refu hl h hk hq R (by decide)
theorem k_boundAt (hl : lI E a G c u n sl s fo) (h : RI E a k c u n sl s) (hk : k < 512) : s_boundAt E (D + 41) a (a + 24) (a + 65) G (LI E a (k + 1)) := by
  intro p0 p1
  obtain ⟨fs, ha⟩ := lI_a hl
  have hF := (RI_f6 hl h).2
  by_cases q0 : ¬ p0 < 0 ∧ ¬ 8 ≤ p0
  · have hx8 : tn p0 < 8 := tn_lt q0.1 q0.2 (by decide)
    have hR := RI_0 h hk (Nat.le_refl n) (by omega) (show sl ≤ sl + 40 by omega) (x := 0)
    obtain ⟨-, -, -, P, N, t0, rt, rl, T, V, tm, ob, pp, vv, cc, hr⟩ := id h
    have W := rI_wf hr
    have hvS := rI_vS hr
    have hvT := rI_vTm hr
    have hvO := rI_vOk hr
    obtain ⟨hP, -, -, tr, -, ⟨l, -, -, -, -, y5⟩, -⟩ := hr
    rcases y5 _ hx8 with ⟨y1, y2⟩ | ⟨v, hv, y1, y2⟩
    · have KL : GM E Y_Passage_toldOf (D + 39) [.ref (a + 20), .int p0, .int p1] (yW E G a c u n sl) (rIs (some (.int (-1))) (yW E G a c u n sl)) := m_X_toldOf_no (E := E) (d := D + 39) (G := zW E G u n sl) (a := a) (c := c) p0 p1 q0.1 q0.2 y1
      have K := m_Y_boundAt (E := E) (d := D) q0 KL
      rw [hl.1] at K
      refine w_boundAt p0 p1 (R := Ev E a (D + 41) Y_Model_boundAt [.ref (a + 24), .int p0, .int p1] (LI E a (k + 1))) ha K (fun v' G' hq => ?_) (fun C G' hq => by cases hq.1)
      obtain ⟨e3, rfl⟩ := hq
      cases e3
      refine ⟨_, fo, rfl, hl.2.2.1, ?_⟩
      have R := m_W_boundAt_n1 (E := E) (d := D + 40) (G := gUp G' (a + 65) (gAJ E 1 (vp_updL fo 0 (-1 : Int32).toInt64))) (m := a + 24) (n := a + 25) (s := s) (by omega) p0 p1 (fun _ _ => y2)
      rw [if_neg (i78.mp q0)] at R
      exact ev_r (lI_out hl) R rfl (fun _ => up_0) hR
    · have hvN := (tr.2.2.2.2.2.1 v hv).1
      have hlen := vl_len W.1 tr.2.2.2.2.2.1 hvS 512 v hv (by omega)
      obtain ⟨-, z, z60, ez⟩ := hvS v hv
      have K := m_Y_boundAt (E := E) (d := D) (x := nI (tn p0)) (by rw [← tn_nI q0.1]; exact q0) (m_Pg_told (E := E) (d := D + 38) (G := G) (n := n) (sl := sl) (y := p1) W.1 tr.2.2.2.2.2.1 hvS hvT hx8 y1 hv)
      rw [← tn_nI q0.1, hl.1] at K
      rw [ez, tnI (by omega)] at hlen
      refine w_boundAt p0 p1 (R := Ev E a (D + 41) Y_Model_boundAt [.ref (a + 24), .int p0, .int p1] (LI E a (k + 1))) ha K (fun v' G' hq => ?_) (fun C G' hq => by cases hq.1)
      obtain ⟨e3, rfl⟩ := hq
      cases e3
      refine ⟨_, fo, rfl, hl.2.2.1, ?_⟩
      have R := m_W_boundAt (E := E) (d := D + 40) (G := gUp G' (a + 65) (gAJ E 1 (vp_updL fo 0 (kAt (nI (aVl P 512 v).length) (fun i => (aVl P 512 v).getD i 0) p1).toInt64))) (m := a + 24) (n := a + 25) (s := s) (by omega) hP p1 hx8 y2 (hvO 512 v hv (by omega)) (by omega) (by omega)
      rw [← tn_nI q0.1] at R
      refine ev (lI_out hl) (R.mono (fun o G2 h2 => ?_))
      obtain ⟨rfl, s', rfl, hf⟩ := h2
      refine ⟨_, s', rfl, rfl, (hf.2 0 (by omega)).trans rfl, fun _ => up_0, ?_⟩
      exact RI_q h hk kFr_rf (RI_fit (G := G') h).2.2.2 h.2.1 (Nat.le_refl n) (by omega) (by omega) (fun j hj h58 => (hf.2 j h58).trans (if_neg hj)) (fun j h36 h39 => hf.1 j h36 h39)
  · have K := m_Y_boundAtX (E := E) (d := D) (G := G) (y := p1) hF q0
    rw [hl.1] at K
    refine w_boundAt p0 p1 (R := Ev E a (D + 41) Y_Model_boundAt [.ref (a + 24), .int p0, .int p1] (LI E a (k + 1))) ha K (fun v G' hq => (tIs_l hq).elim) (fun C G' hq => ?_)
    have hb : p0 < 0 ∨ ¬ p0 ≤ 7 := Classical.byContradiction (fun f => q0 (i78.mpr f))
    have R := m_W_boundAt_n1 (E := E) (d := D + 40) (G := G') (m := a + 24) (n := a + 25) (s := s) (by omega) p0 p1 (fun z1 z2 => absurd hb (fun z => z.elim z1 (fun w => w z2)))
    rw [if_pos hb] at R
    exact refu hl h hk hq R (by decide)
end NQ
