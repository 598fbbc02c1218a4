/-! argument, clear, the beginning -/
section NS
variable {E : gE} {a k n n' sl sl' D N t0 : Nat} {G G' : gS} {c c' : cS} {u u' : uS} {s s' : mS} {fo : Nat → Int64} {P P' : Nat → Nat → Int32}
theorem ty_9 (ty : tyO P) (hs : sPA s P) : ∀ k, k < 16 → s.2 0 k ≤ 9 := fun k _ => by
  rw [hs 0 (by omega)]
  obtain ⟨v, hv, e⟩ := ty.1 k
  rw [e]
  exact (le_hi (nI_hi (by omega)) (show (9 : Int32).toInt = ((9 : Nat) : Int) by decide)).mpr hv
theorem ty_4 (ty : tyO P) (hs : sPA s P) : ∀ k, k < 128 → ¬ s.2 1 k < 0 ∧ s.2 1 k ≤ 4 := fun k _ => by
  rw [hs 1 (by omega)]
  obtain ⟨v, hv, e⟩ := ty.2.1 k
  rw [e]
  exact ⟨nlt_hi (nI_hi (by omega)), (le_hi (nI_hi (by omega)) (show (4 : Int32).toInt = ((4 : Nat) : Int) by decide)).mpr hv⟩
theorem rAt_nI {X K : Nat} (hX : X < 16) (hK : K < 8) : rAt (nI X) (nI K) = 8 * X + K := by
  unfold rAt
  rw [tnI (by omega), tnI (by omega)]
theorem zr_arg (h : zrR E a k P c u n sl s) (hk : k < 512) {y : Int32} {X K T ar : Nat} (hX : X < 16) (hK : K < 8) (hT : 2 ≤ T) (hT9 : T ≤ 9) (e0 : P 0 X = nI T) (har : ar < 4) (eA : P 1 (8 * X + K) = nI ar) (hy : ¬ y < 0 ∧ ¬ 16 ≤ y) :
    ∃ P', zrR E a (k + 1) P' (cA (cA c 2 (32 * X + 4 * K + ar) y) 1 (8 * X + K) (nI (ar + 1))) u n sl (wA (wA (wF s 0 0) 2 (4 * (8 * X + K) + ar) y) 1 (8 * X + K) (nI (ar + 1))) := by
  obtain ⟨h1, h2, h3, ⟨l, l1, l2, l3, l4, l5⟩, ks, sp, ps, qs, ms, hp⟩ := h
  refine ⟨_, fun j _ => rfl, ?_, h3, ⟨l, l1, l2, l3, l4, l5⟩, ks, sp, ps, qs, ms, hp_on hk hp (Nat.le_refl _) (by omega) (by omega) (fun _ _ => rfl) rfl⟩
  have q0 : (wA (wA (wF s 0 0) 2 (4 * (8 * X + K) + ar) y) 1 (8 * X + K) (nI (ar + 1))).2 0 = P 0 := h1 0 (by omega)
  have q1 : ∀ t, (wA (wA (wF s 0 0) 2 (4 * (8 * X + K) + ar) y) 1 (8 * X + K) (nI (ar + 1))).2 1 t = if t = 8 * X + K then nI (ar + 1) else P 1 t := fun t => by
    rw [← h1 1 (by omega)]
    rfl
  have q2 : ∀ t, (wA (wA (wF s 0 0) 2 (4 * (8 * X + K) + ar) y) 1 (8 * X + K) (nI (ar + 1))).2 2 t = if t = 4 * (8 * X + K) + ar then y else P 2 t := fun t => by
    rw [← h1 2 (by omega)]
    rfl
  have w0 : (cA (cA c 2 (32 * X + 4 * K + ar) y) 1 (8 * X + K) (nI (ar + 1))).2.1 0 = c.2.1 0 := rfl
  have w1 : ∀ t, (cA (cA c 2 (32 * X + 4 * K + ar) y) 1 (8 * X + K) (nI (ar + 1))).2.1 1 t = if t = 8 * X + K then nI (ar + 1) else c.2.1 1 t := fun t => rfl
  have w2 : ∀ t, (cA (cA c 2 (32 * X + 4 * K + ar) y) 1 (8 * X + K) (nI (ar + 1))).2.1 2 t = if t = 32 * X + 4 * K + ar then y else c.2.1 2 t := fun t => rfl
  obtain ⟨t1, t2, t3⟩ := h2
  have PX : ¬ P 0 X = 0 := fun z => by
    rw [e0] at z
    have := nI_inj (b := T) (b' := 0) (by omega) (by omega) z
    omega
  refine ⟨⟨?_, fun j => ?_, fun j => ?_⟩, ?_, fun t w ht hw => ?_⟩
  · rw [q0]
    exact t1.1
  · rw [q1]
    split
    · exact ⟨ar + 1, by omega, rfl⟩
    · exact t1.2.1 j
  · rw [q2]
    split
    · exact ⟨tn y, tn_lt hy.1 hy.2 (by decide), tn_nI hy.1⟩
    · exact t1.2.2 j
  · rw [q0, w0]
    exact t2
  · rw [q0, q1, w1]
    by_cases et : t = X ∧ w = K
    · obtain ⟨rfl, rfl⟩ := et
      obtain ⟨y1, y2⟩ := (t3 t w hX hK).2 PX
      rw [eA, tnI (by omega)] at y2
      rw [if_pos rfl, if_pos rfl, tnI (by omega)]
      refine ⟨fun z => absurd z PX, fun _ => ⟨rfl, fun i hi => ?_⟩⟩
      rw [q2, w2]
      by_cases ei : i = ar
      · rw [if_pos (by omega), if_pos (by omega)]
      · rw [if_neg (by omega), if_neg (by omega)]
        exact y2 i (by omega)
    · have e1 : ¬ 8 * t + w = 8 * X + K := by omega
      rw [if_neg e1, if_neg e1]
      refine ⟨(t3 t w ht hw).1, fun z => ⟨((t3 t w ht hw).2 z).1, fun i hi => ?_⟩⟩
      have i4 := (tyO_4 t1 (8 * t + w)).1
      rw [q2, w2, if_neg (by omega), if_neg (by omega)]
      exact ((t3 t w ht hw).2 z).2 i hi
theorem k_argument (hl : lI E a G c u n sl s fo) (h : RI E a k c u n sl s) (hk : k < 512) : s_argument E (D + 41) a (a + 24) (a + 65) G (LI E a (k + 1)) := by
  intro p0 p1 p2
  obtain ⟨fs, ha⟩ := lI_a hl
  have hF := (RI_f6 hl h).2
  obtain ⟨-, -, -, P, N, t0, rt, rl, T, V, tm, ob, pp, vv, cc, hr⟩ := id h
  obtain ⟨hP, ty, ⟨-, -, -, -, a7, -⟩, -⟩ := hr
  have R := fun G' => m_W_argument (E := E) (d := D + 39) (G := G') (m := a + 24) (n := a + 25) (s := s) (by omega) (ty_9 ty.1 hP) (ty_4 ty.1 hP) p0 p1 p2
  by_cases q0 : tHas (c.2.1 0) p0 p1
  · have hM := (has_iff ty hP).mp q0
    have hok := ty_tOk ty
    obtain ⟨X, K, TT, hX, hK, rfl, rfl, T2, T9, e0, hKT, ar, har, eA, cA', -⟩ := has_at ty q0
    by_cases q1 : ¬ p2 < 0 ∧ ¬ 16 ≤ p2
    · have e1 : s.2 1 (rAt (nI X) (nI K)) = nI ar := by rw [rAt_nI hX hK, hP 1 (by omega), eA]
      by_cases q2 : c.1 0 = 0
      · have s4 := a7.mp q2
        by_cases q3 : ar = 4
        · have K := m_Y_argF (E := E) (d := D) (G := G) (y := p2) hF hX hK q0 hok q1 cA' har q2 q3
          rw [hl.1] at K
          refine w_argument _ _ p2 (R := Ev E a (D + 41) Y_Model_argument [.ref (a + 24), .int _, .int _, .int p2] (LI E a (k + 1))) ha K (fun v G' hq => (tIs_l hq).elim) (fun C G' hq => Or.inr ?_)
          have R := R G'
          rw [rArgument, if_neg (fun z => z ⟨hM, q1⟩), if_pos (Or.inr (by rw [e1, q3]; rfl))] at R
          exact refu hl h hk hq R (by decide)
        · have K' := m_Y_arg (E := E) (d := D) (G := G) (a := a) (u := u) (n := n) (sl := sl) (y := p2) hX hK q0 hok q1 cA' har q2 (by omega)
          rw [hl.1] at K'
          refine w_argument _ _ p2 (R := Ev E a (D + 41) Y_Model_argument [.ref (a + 24), .int _, .int _, .int p2] (LI E a (k + 1))) ha K' (fun v G' hq => ?_) (fun C G' hq => by cases hq.1)
          obtain ⟨e3, rfl⟩ := hq
          cases e3
          have l1 := lI_cl (c' := cA (cA c 2 (32 * X + 4 * K + ar) p2) 1 (8 * X + K) (nI (ar + 1))) (sl' := sl) hl h.2.1 h.2.2.1
          refine ⟨_, fo, rfl, l1.2.2.1, ?_⟩
          have R := R (gUp (yW E G a (cA (cA c 2 (32 * X + 4 * K + ar) p2) 1 (8 * X + K) (nI (ar + 1))) u n sl) (a + 65) (gAJ E 1 (vp_updL fo 0 (nI (ar + 1)).toInt64)))
          have n4 : ¬ nI ar = 4 := fun z => q3 (nI_inj (b' := 4) (by omega) (by omega) z)
          rw [rArgument, if_neg (fun z => z ⟨hM, q1⟩), if_neg (fun z => z.elim (fun y => y s4) (fun y => n4 (by rw [← e1]; exact y))), e1, rAt_nI hX hK, tnI (by omega), nI_ad (by omega)] at R
          obtain ⟨P0, hz⟩ := RI_zr h s4
          have e00 : P0 0 X = nI TT := by rw [← hz.1 0 (by omega), hP 0 (by omega), e0]
          have e11 : P0 1 (8 * X + K) = nI ar := by rw [← hz.1 1 (by omega), hP 1 (by omega), eA]
          obtain ⟨P1, hz'⟩ := zr_arg hz hk hX hK T2 T9 e00 (by omega) e11 q1
          exact ev_r (lI_out l1) R rfl (fun _ => up_0) (zr_RI h.1 h.2.1 h.2.2.1 (by omega) hz')
      · have K := m_Y_argB (E := E) (d := D) (G := G) (y := p2) hF hX hK q0 hok q1 cA' har q2
        rw [hl.1] at K
        refine w_argument _ _ p2 (R := Ev E a (D + 41) Y_Model_argument [.ref (a + 24), .int _, .int _, .int p2] (LI E a (k + 1))) ha K (fun v G' hq => (tIs_l hq).elim) (fun C G' hq => Or.inr ?_)
        have R := R G'
        rw [rArgument, if_neg (fun z => z ⟨hM, q1⟩), if_pos (Or.inl (fun z => q2 (a7.mpr z)))] at R
        exact refu hl h hk hq R (by decide)
    · have K := m_Y_argX (E := E) (d := D) (G := G) (y := p2) hF hX hK q0 hok q1
      rw [hl.1] at K
      refine w_argument _ _ p2 (R := Ev E a (D + 41) Y_Model_argument [.ref (a + 24), .int _, .int _, .int p2] (LI E a (k + 1))) ha K (fun v G' hq => (tIs_l hq).elim) (fun C G' hq => Or.inl ?_)
      have R := R G'
      rw [rArgument, if_pos (fun z => q1 z.2)] at R
      exact refu hl h hk hq R (by decide)
  · have K := m_X_argument_no (E := E) (d := D + 30) (G := zW E G u n sl) (a := a) (c := c) hF p0 p1 p2 q0
    replace K : GM E Y_Mill_argument (D + 40) [.ref a, .int p0, .int p1, .int p2] (yW E G a c u n sl) (tIs "java/lang/IllegalArgumentException" (yW E G a c u n sl)) := K
    rw [hl.1] at K
    refine w_argument p0 p1 p2 (R := Ev E a (D + 41) Y_Model_argument [.ref (a + 24), .int p0, .int p1, .int p2] (LI E a (k + 1))) ha K (fun v G' hq => (tIs_l hq).elim) (fun C G' hq => Or.inl ?_)
    have R := R G'
    rw [rArgument, if_pos (fun z => q0 ((has_iff ty hP).mpr z.1))] at R
    exact refu hl h hk hq R (by decide)
theorem k_clear (hl : lI E a G c u n sl s fo) (h : RI E a k c u n sl s) (hk : k < 512) : s_clear E (D + 41) a (a + 24) (a + 65) G (LI E a (k + 1)) := by
  obtain ⟨ks, sp, ps, qs, ms, hp⟩ := RI_hp h
  have K := m_Y_clear (E := E) (d := D + 1) (G := G) hp
  rw [hl.1] at K
  refine K.mono (fun o G1 hq => ?_)
  obtain ⟨rfl, c', u', rfl, hpg, h21, h3⟩ := hq
  obtain ⟨hp', hF, hfr, -, -⟩ := hpg
  have hz : ∀ q, q < a + 66 → u'.1 q = 0 := fun q hq => (hfr.1 q (by have := h.2.2.1; omega)).trans (h.2.1 q hq)
  have l1 := lI_cl (c' := cF (cF (cF c' 0 0) 1 0) 2 0) (u' := u') (sl' := sl) hl hz h.2.2.1
  refine ⟨rfl, ⟨mFs (a + 25) s.1, by rw [← l1.2.1]; exact mw_f⟩, ?_⟩
  have R := m_W_clear (E := E) (d := D + 40) (G := yW E G a (cF (cF (cF c' 0 0) 1 0) 2 0) u' n sl) (m := a + 24) (n := a + 25) (s := s) (by omega)
  rw [l1.2.1] at R
  refine R.mono (fun o G2 h2 => ?_)
  obtain ⟨rfl, rfl⟩ := h2
  refine ⟨rfl, Or.inr ⟨_, u', n, sl, rClear s, fo, lI_ref l1, ?_⟩⟩
  obtain ⟨-, -, -, P, N, t0, rt, rl, T, V, tm, ob, pp, vv, cc, hr⟩ := id h
  obtain ⟨hP, ty, -⟩ := hr
  refine zr_RI (P := (rClear s).2) h.1 hz h.2.2.1 (by omega) ⟨fun _ _ => rfl, ?_, ⟨rfl, rfl, rfl, ?_, ?_, ?_, rfl, rfl, rfl, rfl, rfl, rfl⟩, ⟨0, by omega, ?_, rfl, fun i hi => by omega, fun j hj => ⟨h3 j hj, if_pos hj⟩⟩, ks, sp, ps, qs, [], hp_on hk hp' (Nat.le_refl _) (by omega) (by omega) (fun j hj => ?_) rfl⟩
  · have q0 : ∀ t, (rClear s).2 0 t = if 0 ≤ t ∧ t < 0 + 16 then 0 else P 0 t := fun t => by
      rw [← hP 0 (by omega)]
      rfl
    have q1 : (rClear s).2 1 = P 1 := hP 1 (by omega)
    have q2 : (rClear s).2 2 = P 2 := hP 2 (by omega)
    have w0 : (cF (cF (cF c' 0 0) 1 0) 2 0).2.1 0 = fillF (c.2.1 0) 16 (-1) := (hF.2.1 0 (by omega)).trans rfl
    have w1 : (cF (cF (cF c' 0 0) 1 0) 2 0).2.1 1 = fillF (c.2.1 1) 128 0 := (hF.2.1 1 (by omega)).trans rfl
    obtain ⟨t1, t2, t3⟩ := ty
    refine ⟨⟨fun t => ?_, by rw [q1]; exact t1.2.1, by rw [q2]; exact t1.2.2⟩, fun t ht => ?_, fun t w ht hw => ?_⟩
    · rw [q0]
      split
      · exact ⟨0, by omega, rfl⟩
      · exact t1.1 t
    · rw [q0, w0, if_pos (by omega)]
      show (if t < 16 then (-1 : Int32) else _) = 0 - 1
      rw [if_pos ht]
      decide
    · rw [q0, if_pos (by omega), w1]
      refine ⟨fun _ => ?_, fun z => absurd rfl z⟩
      show (if 8 * t + w < 128 then (0 : Int32) else _) = 0
      rw [if_pos (by omega)]
  · exact (hF.1 3 (by omega) (by omega) (by omega)).trans rfl
  · refine (hF.1 4 (by omega) (by omega) (by omega)).trans ?_
    show (if (0 : Int32) < c.1 4 - c.1 4 then c.1 4 - c.1 4 else 0) = 0
    rw [Int32.sub_self]
    rfl
  · refine (hF.1 5 (by omega) (by omega) (by omega)).trans ?_
    show (if (0 : Int32) < c.1 5 - c.1 5 then c.1 5 - c.1 5 else 0) = 0
    rw [Int32.sub_self]
    rfl
  · exact h21
  · rcases hj with rfl | rfl | rfl | rfl | rfl <;> rfl
/-- the beginning -/
theorem LI_0 (hB : gBase gCl E) (h : lIs E E.1.heap.size G (c0 E) s0 (fun _ => 0)) (h1 : G.2.1 = E.1.heap.size + 66) (h2 : G.2.2 = 2698980) : LI E E.1.heap.size 0 G := by
  have rm := rm_all
  refine Or.inr ⟨c0 E, (fun _ => 0, fun _ => 0, fun _ _ => 0, fun _ _ => none), E.1.heap.size + 66, 2698980, s0, fun _ => 0, ⟨?_, h.2.1, h.2.2, fun _ _ => rfl, by omega⟩, ?_⟩
  · have e : zW E G (fun _ => 0, fun _ => 0, fun _ _ => 0, fun _ _ => none) (E.1.heap.size + 66) 2698980 = G := Prod.ext (funext fun q => rfl) (Prod.ext h1.symm h2.symm)
    show xW E (zW E G _ _ _) _ _ = G
    rw [e]
    exact h.1
  · refine zr_RI (P := s0.2) rfl (fun _ _ => rfl) (by omega) (by omega) ⟨fun _ _ => rfl, ⟨⟨fun t => ⟨0, by omega, s0_a t (by decide)⟩, fun t => ⟨0, by omega, s0_a t (by decide)⟩, fun t => ⟨0, by omega, s0_a t (by decide)⟩⟩, fun t ht => ?_, fun t w ht hw => ⟨fun _ => rfl, fun z => absurd (s0_a t (by decide)) z⟩⟩, ⟨s0_f 5, s0_f 4, rfl, rfl, rfl, rfl, s0_f 14, s0_f 15, s0_f 16, rfl, rfl, s0_f 19⟩, ⟨0, by omega, rfl, s0_f 54, fun i hi => by omega, fun j hj => ⟨rfl, s0_b hj⟩⟩, [], [], [], [], [], ?_⟩
    · rw [s0_a t (by decide), c0_t ht]
      decide
    · have hlo : ∀ is Dd kb Bb, lOk E (c0 E) (fun _ => 0, fun _ => 0, fun _ _ => 0, fun _ _ => none) E.1.heap.size (E.1.heap.size + 66) is Dd kb Bb [] := fun is Dd kb Bb => ⟨rfl, Or.inl ⟨rfl, rfl⟩, Nat.zero_le _, fun b hb => by cases hb⟩
      have hro := hpOk_room (hlo 18 1 5 3300) (hlo 20 2 6 1001) (hlo 23 3 7 3300)
      refine ⟨⟨gDef_lt hB, by omega, fun q hq => absurd rfl hq, hlo 15 0 1 1000, by simp, fun b hb => (by cases hb), rfl, ?_, ?_, ?_, ?_⟩, hlo _ _ _ _, hlo _ _ _ _, hlo _ _ _ _, by omega, by omega, by simp, by simp⟩
      · omega
      · omega
      · omega
      · omega
end NS
