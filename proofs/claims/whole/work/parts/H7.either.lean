/-! either -/
section NY
variable {E : gE} {a k n n' sl sl' D N t0 t1 : Nat} {G G' : gS} {c c' : cS} {u u' : uS} {s s' s1 : mS} {fo : Nat → Int64} {P P' : Nat → Nat → Int32} {rt : Nat → Nat} {rl : Nat → List Nat} {T V : Nat → Prop} {tm : Nat → Nat} {ob : Nat → Int32} {pp vv cc l0 ns : List Nat} {f g : Nat}
theorem nw_either (h5 : s.1 5 = nI N) (hN : N < 512) (hf : f < 512) (hg : g < 512) (e1 : rSnd s = nI f) (e2 : rTop s = nI g) : nwS s (rEitherS s) N [f, g] 3 (s.2 4 f) 0 (1 + s.2 7 f + s.2 7 g) (s.2 8 f) := by
  have e5 : tn ((wF s 0 0).1 5) = N := by
    show tn (s.1 5) = N
    rw [h5, tnI (by omega)]
  unfold rEitherS
  rw [e1, e2, tnI (by omega), tnI (by omega)]
  unfold rNode
  rw [e5, show tn (s.1 5) = N from e5]
  refine ⟨rfl, ?_, fun j h0 h5 h14 _ => (if_neg h14).trans ((if_neg h5).trans (if_neg h0)), fun j h3 h4 h5 h6 h7 h8 => (if_neg h6).trans ((if_neg h6).trans ((if_neg h8).trans ((if_neg h7).trans ((if_neg h5).trans ((if_neg h4).trans (if_neg h3)))))), fun i hi => ⟨if_neg hi, if_neg hi, if_neg hi, if_neg hi, if_neg hi⟩, if_pos rfl, if_pos rfl, if_pos rfl, if_pos rfl, if_pos rfl, fun i hi => (if_neg (by omega)).trans (if_neg (by omega)), fun i v hi => ?_⟩
  · show s.1 5 + 1 = nI (N + 1)
    rw [h5]
    exact nI_ad (by omega)
  · match i, hi with
    | 0, hi =>
      cases hi
      show (if 4 * N + 0 = 4 * N + 1 then nI g else if 4 * N + 0 = 4 * N then nI f else s.2 6 (4 * N + 0)) = nI f
      rw [if_neg (by omega), if_pos (by omega)]
    | 1, hi =>
      cases hi
      exact if_pos rfl
    | i + 2, hi => cases hi
theorem two_or {l : List Nat} (h : 2 ≤ l.length) : ∃ l0 f g, l = l0 ++ [f, g] := by
  rcases nil_or (l := l) with rfl | ⟨l1, g, rfl⟩
  · simp at h
  · rcases nil_or (l := l1) with rfl | ⟨l0, f, rfl⟩
    · simp at h
    · exact ⟨l0, f, g, by simp⟩
theorem sum2 {x y : Int32} {p q : Nat} (ex : x = nI p) (ey : y = nI q) (hp : p ≤ 60) (hq : q ≤ 60) : 1 + x + y = nI (p + q + 1) ∧ 0 + x + y + 1 = nI (p + q + 1) := by
  subst ex ey
  have i0 : (0 : Int32).toInt = ((0 : Nat) : Int) := by decide
  have i1' : (1 : Int32).toInt = ((1 : Nat) : Int) := by decide
  have A := add_hi (add_hi i1' (nI_hi (n := p) (by omega)) (by omega)) (nI_hi (n := q) (by omega)) (by omega)
  have B := add_hi (add_hi (add_hi i0 (nI_hi (n := p) (by omega)) (by omega)) (nI_hi (n := q) (by omega)) (by omega)) i1' (by omega)
  refine ⟨i_nI (A.trans ?_), i_nI (B.trans ?_)⟩
  · rw [show 1 + p + q = p + q + 1 by omega]
  · rw [show 0 + p + q + 1 = p + q + 1 by omega]
theorem k_either (hl : lI E a G c u n sl s fo) (h : RI E a k c u n sl s) (hk : k < 512) : s_either E (D + 41) a (a + 24) (a + 65) G (LI E a (k + 1)) := by
  obtain ⟨fs, ha⟩ := lI_a hl
  have hF := (RI_f6 hl h).2
  obtain ⟨-, f2, f3, hu⟩ := RI_fit (G := G) h
  obtain ⟨r1, r2, r3, P, N, t0, rt, rl, T, V, tm, ob, pp, vv, cc, hr⟩ := id h
  have hp9 := rI_p9 hr
  have hr0 := hr
  obtain ⟨hP, ty, ⟨h5, hNk, -, -, -, hnd, -⟩, tr, hpi, -⟩ := hr
  have hpT := pil_T hpi tr
  obtain ⟨x1, x2, x3, x4, x5, x6, x7, x8, x9, -⟩ := hpi
  have hb : pp.length ≤ 40 := by have := x1.2.1; rw [List.length_map] at this; exact this
  have R := fun G' => m_W_either (E := E) (d := D + 40) (G := G') (m := a + 24) (n := a + 25) (s := s) (by omega) (by rw [h5]; exact nlt_hi (nI_hi (by omega))) (by rw [h5, tnI (by omega)]; omega) hp9.1.1 hp9.1.2.1 hp9.1.2.2
  have i2 : (2 : Int32).toInt = ((2 : Nat) : Int) := by decide
  by_cases q0 : pp.length < 2
  · have K := m_X_either_no (E := E) (d := D + 30) (G := zW E G u n sl) (a := a) (c := c) hF (by rw [x1.1, List.length_map]; exact (lt_hi (nI_hi (by omega)) i2).mpr q0)
    replace K : GM E Y_Mill_either (D + 40) [.ref a] (yW E G a c u n sl) (tIs "java/lang/IllegalStateException" (yW E G a c u n sl)) := K
    rw [hl.1] at K
    refine w_either (R := Ev E a (D + 41) Y_Model_either [.ref (a + 24)] (LI E a (k + 1))) ha K (fun v G' hq => (tIs_l hq).elim) (fun C G' hq => ?_)
    have R := R G'
    rw [rEither, if_pos (Or.inl (by rw [x3]; exact (lt_hi (nI_hi (by omega)) i2).mpr q0))] at R
    exact refu hl h hk hq R (by decide)
  · obtain ⟨l0, f, g, rfl⟩ := two_or (l := pp) (by omega)
    have x1' := x1
    have hpT' := hpT
    rw [List.map_append] at x1' hpT'
    rw [List.length_append] at hb x3
    replace hb : l0.length + 2 ≤ 40 := hb
    replace x3 : s.1 14 = nI (l0.length + 2) := x3
    obtain ⟨fT, fV, f1, f2', f24⟩ := x7 f (by simp)
    obtain ⟨gT, gV, g1, g2', g24⟩ := x7 g (by simp)
    have hfN := (tr.1 f fT).1
    have hgN := (tr.1 g gT).1
    have top : rTop s = nI g := by
      show s.2 9 (tn (s.1 14) - 1) = nI g
      rw [x3, tnI (by omega), hP 9 (by omega)]
      exact x5 _ _ (by simp)
    have snd : rSnd s = nI f := by
      show s.2 9 (tn (s.1 14) - 2) = nI f
      rw [x3, tnI (by omega), hP 9 (by omega)]
      exact x5 _ _ (by simp)
    have n14 : ¬ s.1 14 < 2 := fun z => by
      rw [x3] at z
      have := (lt_hi (nI_hi (n := l0.length + 2) (by omega)) i2).mp z
      omega
    obtain ⟨⟨tf, htf, etf⟩, ⟨zf, zf1, zf2, ezf⟩, ⟨yf, hyf, eyf⟩, -⟩ := hnd f hfN
    obtain ⟨-, ⟨zg, zg1, zg2, ezg⟩, -⟩ := hnd g hgN
    have uf := tr.2.2.1 f fT
    have ug := tr.2.2.1 g gT
    have tyf := (tr.2.1 f fT).2.2.1
    have tyg := (tr.2.1 g gT).2.2.1
    have esz := sum2 (x := s.2 7 f) (y := s.2 7 g) (by rw [hP 7 (by omega)]; exact ezf) (by rw [hP 7 (by omega)]; exact ezg) zf2 zg2
    have esu := sum2 (x := u.2.2.1 (tm f) 4) (y := u.2.2.1 (tm g) 4) (by rw [uf.2.1]; exact ezf) (by rw [ug.2.1]; exact ezg) zf2 zg2
    have RB : ∀ G', (¬ P 4 f = P 4 g ∨ ¬ P 8 f = P 8 g ∨ ¬ nI (zf + zg + 1) ≤ 24) → GM E Y_Model_either (D + 41) [.ref (a + 24)] (mW E G' (a + 24) (a + 25) s) (rIs (some (.int 0)) (mW E G' (a + 24) (a + 25) (wF s 0 1))) := fun G' hbad => by
      have R := R G'
      rw [rEither, top, snd, tnI (by omega), tnI (by omega), esz.1, hP 4 (by omega), hP 8 (by omega), if_pos (Or.inr hbad)] at R
      exact R
    by_cases q1 : u.2.2.1 (tm g) 0 = u.2.2.1 (tm f) 0 ∧ u.2.2.1 (tm g) 6 = u.2.2.1 (tm f) 6
    · rw [tyf, tyg, uf.2.2, ug.2.2] at q1
      have q1' : u.2.2.1 (tm g) 0 = u.2.2.1 (tm f) 0 ∧ u.2.2.1 (tm g) 6 = u.2.2.1 (tm f) 6 := by rw [tyf, tyg, uf.2.2, ug.2.2]; exact q1
      have sz0 : szF u 0 [tm f, tm g] + 1 = nI (zf + zg + 1) := esu.2
      by_cases q2 : szF u 0 [tm f, tm g] + 1 ≤ 24
      · have K := m_Y_either (E := E) (d := D) (G := G) (n := n) (sl := sl) hu (by omega) (by omega) (by omega) x1' hpT'.1 q1' q2
        rw [hl.1, List.length_map] at K
        refine w_either (R := Ev E a (D + 41) Y_Model_either [.ref (a + 24)] (LI E a (k + 1))) ha K (fun v G' hq => ?_) (fun C G' hq => by cases hq.1)
        obtain ⟨e3, c', rfl, hpt⟩ := hq
        cases e3
        rw [sz0] at q2
        have h24 : zf + zg + 1 ≤ 24 := (le_hi (nI_hi (by omega)) (show (24 : Int32).toInt = ((24 : Nat) : Int) by decide)).mp q2
        have esz1 : szF u 1 [tm f, tm g] = 1 + s.2 7 f + s.2 7 g := by
          show 1 + u.2.2.1 (tm f) 4 + u.2.2.1 (tm g) 4 = _
          rw [esu.1, esz.1]
        have enm : nmF u 0 [tm f, tm g] = s.2 8 f := by
          show (0 : Int32) ||| u.2.2.1 (tm f) 6 ||| u.2.2.1 (tm g) 6 = _
          rw [uf.2.2, ug.2.2, q1.2, hP 8 (by omega), Int32.zero_or, Int32.or_self]
        have ety : u.2.2.1 (tm g) 0 = s.2 4 f := by rw [tyg, q1.1, hP 4 (by omega)]
        rw [esz1, enm, ety]
        have hu' : ∀ q, q < a + 66 → (uTm u n (s.2 4 f) 3 0 (1 + s.2 7 f + s.2 7 g) (s.2 8 f) [tm f, tm g]).1 q = 0 := fun q hq => (uTm_o (Or.inl (by omega))).1.trans (r2 q hq)
        have l1 := lI_cl (c' := c') (u' := uTm u n (s.2 4 f) 3 0 (1 + s.2 7 f + s.2 7 g) (s.2 8 f) [tm f, tm g]) (n' := n + 2) (sl' := sl + 7 + 2) hl hu' (by omega)
        refine ⟨_, fo, rfl, l1.2.2.1, ?_⟩
        have R := R (gUp (yW E G a c' (uTm u n (s.2 4 f) 3 0 (1 + s.2 7 f + s.2 7 g) (s.2 8 f) [tm f, tm g]) (n + 2) (sl + 7 + 2)) (a + 65) (gAJ E 1 (vp_updL fo 0 (nI (l0.length + 1)).toInt64)))
        have hw := nw_either (s := s) h5 (by omega) (show f < 512 by omega) (show g < 512 by omega) snd top
        have h14 : (rEitherS s).1 14 = nI l0.length := by
          show s.1 14 - 2 = _
          rw [x3]
          exact sub_nI (y := 2) (by omega) (by omega)
        have h15 : (rEitherS s).1 15 = s.1 15 := rfl
        have ngood : ¬ (s.1 14 < 2 ∨ ¬ s.2 4 (tn (rSnd s)) = s.2 4 (tn (rTop s)) ∨ ¬ s.2 8 (tn (rSnd s)) = s.2 8 (tn (rTop s)) ∨ ¬ 1 + s.2 7 (tn (rSnd s)) + s.2 7 (tn (rTop s)) ≤ 24) := by
          rw [top, snd, tnI (by omega), tnI (by omega), esz.1, hP 4 (by omega), hP 8 (by omega), q1.1, q1.2]
          rintro (z | z | z | z)
          · exact n14 z
          · exact z rfl
          · exact z rfl
          · exact z q2
        rw [rEither, if_neg ngood, push_p (N := N) h14 (by omega) (n_ss h5 (by omega))] at R
        have eh : rHt (rEitherS s) 0 + 1 = nI (l0.length + 1) := by
          show (rEitherS s).1 14 + 1 = _
          rw [h14]
          exact nI_ad (by omega)
        rw [eh] at R
        have hnd2 : [f, g].Nodup := (List.nodup_append.mp (List.nodup_append.mp x9).1).2.1
        have rpf := rN_part (rt := rt) (rl := rl) (ns := [f, g]) (e := fun _ => []) (N := N) (i := 0) hnd2 hfN f1 f2' rfl
        have rpg := rN_part (rt := rt) (rl := rl) (ns := [f, g]) (e := fun _ => []) (N := N) (i := 1) hnd2 hgN g1 g2' rfl
        have nod : ndO (wF (wA (wF (rEitherS s) 4 1) 9 l0.length (nI N)) 14 (nI (l0.length + 1))).2 (rtN rt [f, g] N) (rlN rt rl [f, g] (fun _ => []) N) N := by
          obtain ⟨w0, w5, w1, w2, wi, k3, k4, k5, k7, k8, w6, wn⟩ := hw
          have jf := wi f (by omega)
          have jg := wi g (by omega)
          have m3 : (wF (wA (wF (rEitherS s) 4 1) 9 l0.length (nI N)) 14 (nI (l0.length + 1))).2 3 = (rEitherS s).2 3 := rfl
          have m4 : (wF (wA (wF (rEitherS s) 4 1) 9 l0.length (nI N)) 14 (nI (l0.length + 1))).2 4 = (rEitherS s).2 4 := rfl
          have m6 : (wF (wA (wF (rEitherS s) 4 1) 9 l0.length (nI N)) 14 (nI (l0.length + 1))).2 6 = (rEitherS s).2 6 := rfl
          have m7 : (wF (wA (wF (rEitherS s) 4 1) 9 l0.length (nI N)) 14 (nI (l0.length + 1))).2 7 = (rEitherS s).2 7 := rfl
          have m8 : (wF (wA (wF (rEitherS s) 4 1) 9 l0.length (nI N)) 14 (nI (l0.length + 1))).2 8 = (rEitherS s).2 8 := rfl
          generalize (wF (wA (wF (rEitherS s) 4 1) 9 l0.length (nI N)) 14 (nI (l0.length + 1))).2 = Q at m3 m4 m6 m7 m8
          refine ⟨⟨tf, htf, ?_⟩, ⟨zf + zg + 1, by omega, by omega, ?_⟩, ⟨yf, hyf, ?_⟩, ?_, fun z => ?_, fun z => ?_, fun _ => ⟨f, g, hfN, ?_, hgN, ?_, ?_, ?_, ?_, ?_, ?_, rpf.1.trans (show N = rtN rt [f, g] N N from (if_pos rfl).symm), rpf.2.trans (show [] = rlN rt rl [f, g] (fun _ => []) N N from (if_pos rfl).symm), rpg.1.trans (show N = rtN rt [f, g] N N from (if_pos rfl).symm), rpg.2.trans (show [] = rlN rt rl [f, g] (fun _ => []) N N from (if_pos rfl).symm)⟩, fun z => ?_⟩
          · rw [m4, k4, hP 4 (by omega), etf]
          · rw [m7, k7, esz.1]
          · rw [m8, k8, hP 8 (by omega), eyf]
          · rw [m3, k3]
            decide
          · rw [m3, k3] at z
            exact absurd z (by decide)
          · rw [m3, k3] at z
            exact absurd z (by decide)
          · rw [m6]
            exact wn 0 f rfl
          · rw [m6]
            exact wn 1 g rfl
          · rw [m7, jf.2.2.2.1, jg.2.2.2.1, k7, esz.1, hP 7 (by omega), ezf, ezg, tnI (by omega), tnI (by omega), tnI (by omega)]
          · rw [m4, jf.2.1, k4]
          · rw [m4, jg.2.1, k4, hP 4 (by omega), q1.1]
          · rw [m8, jf.2.2.2.2, k8]
          · rw [m8, jg.2.2.2.2, k8, hP 8 (by omega), q1.2]
          · rw [m3, k3] at z
            exact absurd z (by decide)
        have hI := rI_nwP (x4 := 2) (e := fun _ => []) (whC := 0) hr0 hk (by omega) hw h14 h15 hpt rfl nod (by decide) (fun _ => rfl) (by rw [esz.1, tnI (by omega)]; exact h24) (fun _ => rfl) (fun z => absurd z (by decide)) (fun z => absurd z (by decide)) (by omega)
        exact ev_r (lI_out l1) R hw.1 (fun _ => up_0) (rI_RI r1 hu' (by omega) hI)
      · have K := m_Y_either2 (E := E) (d := D) (G := G) hF x1' hpT'.1 q1' q2
        rw [hl.1] at K
        refine w_either (R := Ev E a (D + 41) Y_Model_either [.ref (a + 24)] (LI E a (k + 1))) ha K (fun v G' hq => (tIs_l hq).elim) (fun C G' hq => ?_)
        exact refu hl h hk hq (RB G' (Or.inr (Or.inr (by rw [← sz0]; exact q2)))) (by decide)
    · have K := m_Y_either1 (E := E) (d := D) (G := G) hF x1' hpT'.1 q1
      rw [hl.1] at K
      refine w_either (R := Ev E a (D + 41) Y_Model_either [.ref (a + 24)] (LI E a (k + 1))) ha K (fun v G' hq => (tIs_l hq).elim) (fun C G' hq => ?_)
      rw [tyf, tyg, uf.2.2, ug.2.2] at q1
      refine refu hl h hk hq (RB G' ?_) (by decide)
      by_cases z1 : P 4 f = P 4 g
      · exact Or.inr (Or.inl (fun z => q1 ⟨z1.symm, z.symm⟩))
      · exact Or.inl z1
end NY
