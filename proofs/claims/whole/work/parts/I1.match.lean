/-! match -/
section OC
variable {E : gE} {a k n n' sl sl' D N t0 t1 C nk B SS : Nat} {G G' : gS} {c c' c1 : cS} {u u' : uS} {s s' s1 : mS} {fo : Nat → Int64} {P P' : Nat → Nat → Int32} {rt : Nat → Nat} {rl : Nat → List Nat} {T V T' : Nat → Prop} {tm cp : Nat → Nat} {ob : Nat → Int32} {pp vv cc l0 ns ks sp sp' ps qs ms ms' : List Nat} {Z : List zQ} {st : aSt}
/-- the same tree, of the terms that it has always had -/
theorem clT_mix (h : clT E a B SS P N t0 tm ob T' C cp c' u' n' sl' ks [] sp' ps qs ms' nk Z st) (h0 : clT E a B SS P N t0 tm ob T C cp c u n sl ks [] sp ps qs ms nk Z st) (tw : tmW P u' a tm ob T) : clT E a B SS P N t0 tm ob T C cp c' u' n' sl' ks [] sp' ps qs ms' nk Z st := by
  obtain ⟨h1, -, h3, h4, h5⟩ := h
  refine ⟨h1, tw, h3, fun j x hj => ?_, h5⟩
  obtain ⟨q, z, lA, lB, q1, q2, q3, q4, q5, z1, z2, z3, z4, z5, z6⟩ := h4 j x hj
  obtain ⟨q', z', lA', lB', -, q2', -, -, -, -, -, -, -, z5', -⟩ := h0.2.2.2.1 j x hj
  rw [q2] at q2'
  cases q2'
  exact ⟨q, z, lA, lB, q1, q2, q3, q4, q5, z1, z2, z3, z4, z5', z6⟩
theorem k_match (hl : lI E a G c u n sl s fo) (h : RI E a k c u n sl s) (hk : k < 512) : s_match E (D + 41) a (a + 24) (a + 65) G (LI E a (k + 1)) := by
  intro p0
  obtain ⟨fs, ha⟩ := lI_a hl
  have hF := (RI_f6 hl h).2
  obtain ⟨r1, r2, r3, P, N, t0, rt, rl, T, V, tm, ob, pp, vv, cc, hr⟩ := id h
  have W := rI_wf hr
  have A := rI_ask hr
  have hr0 := hr
  obtain ⟨hP, ty, ⟨h5, hNk, hk5, -, -, hnd, -⟩, tr, hpi, hpg, hhb⟩ := hr
  have hpT := pil_T hpi tr
  have hcK := rI_cK ty hpi
  obtain ⟨x1, x2, x3, x4, x5, x6, x7, x8, x9, x10, x11, x12, x13, x14⟩ := hpi
  rcases nil_or (l := vv) with rfl | ⟨l0, v0, rfl⟩
  · have K := m_X_match_no (E := E) (d := D + 30) (G := zW E G u n sl) (a := a) (c := c) hF p0 x2.1
    replace K : GM E Y_Mill_match (D + 40) [.ref a, .int p0] (yW E G a c u n sl) (tIs "java/lang/IllegalStateException" (yW E G a c u n sl)) := K
    rw [hl.1] at K
    refine w_match p0 (R := Ev E a (D + 41) Y_Model_match [.ref (a + 24), .int p0] (LI E a (k + 1))) ha K (fun v G' hq => (tIs_l hq).elim) (fun C G' hq => ?_)
    exact refu hl h hk hq (m_W_match_n2 (E := E) (d := D + 40) (G := G') (m := a + 24) (n := a + 25) (s := s) (by omega) (by rw [x4]; decide) p0) (by decide)
  · have x2' := x2
    have hpT' := hpT.2
    rw [List.map_append] at x2' hpT'
    have hb : (l0 ++ [v0]).length ≤ 40 := by
      have := x2.2.1
      rw [List.length_map] at this
      exact this
    rw [List.length_append, List.length_singleton] at hb x4
    obtain ⟨vV, v1, v2⟩ := x8 v0 (by simp)
    have vT := tr.2.2.2.2.2.2 v0 vV
    have hvN := (tr.1 v0 vT).1
    have e10 : s.2 10 l0.length = nI v0 := by
      rw [hP 10 (by omega)]
      exact x6 _ _ get_last
    obtain ⟨ks, sp, ps, qs, ms, hp, hbb⟩ := hhb
    rcases hbb with ⟨b1, b2, b3⟩ | ⟨b1, b2, b3, b4, st, nk, Z, pl, X, b5, b6, b7⟩
    · have K := m_Y_matchB (E := E) (d := D) (G := G) (x := p0) hF x2' hpT' b1
      rw [hl.1] at K
      refine w_match p0 (R := Ev E a (D + 41) Y_Model_match [.ref (a + 24), .int p0] (LI E a (k + 1))) ha K (fun v G' hq => (tIs_l hq).elim) (fun C G' hq => ?_)
      exact refu hl h hk hq (m_W_match_no (E := E) (d := D + 40) (G := G') (m := a + 24) (n := a + 25) (s := s) (by omega) b2 p0) (by decide)
    · obtain ⟨y, r, hcc⟩ : ∃ y r, cc = y :: r := by
        rcases hc' : cc with _ | ⟨y, r⟩
        · exact absurd hc' b4
        · exact ⟨y, r, rfl⟩
      obtain ⟨w1, w2, -, -, w5, -, -, -, w9⟩ := x14 0 y (by rw [hcc]; rfl)
      have hyN := (tr.1 y w5).1
      have hl1 : cc.length = r.length + 1 := by rw [hcc]; rfl
      have tyy := (tr.2.1 y w5).2.2.1
      have tyv := (tr.2.1 v0 vT).2.2.1
      by_cases q1 : u.2.2.1 (tm y) 0 = u.2.2.1 (tm v0) 0
      · have hv4 : P 4 v0 = nI t0 := by rw [← tyv, ← q1, tyy, w9]
        obtain ⟨z80, zb0, zup, zQ, zB⟩ := aTree_bhd (tyO_9 ty.1) b5
        obtain ⟨-, ⟨z, z1, z2, ez⟩, -⟩ := hnd v0 hvN
        have hv60 : tn (P 7 v0) ≤ 60 := by rw [ez, tnI (by omega)]; exact z2
        have rm := rm_all
        have hp1 : hpOk E a (E.1.heap.size + 66 + 4 * k) (2698980 + 40 * k) (cF c 5 (nI (l0.map tm).length)) u n sl ks sp ps qs ms := (hp_gen (K := fun _ => False) (c' := cF c 5 (nI (l0.map tm).length)) (sl' := sl) hp kFr_rf (fun _ z => z.elim) (Nat.le_refl _) (hpOk_un hp) (fun j hj => by rcases hj with rfl | rfl | rfl | rfl | rfl <;> rfl) rfl (Nat.le_refl _) (Nat.le_refl _) hp.2.2.2.2.1 hp.2.2.2.2.2.1).1
        have hcl1 : clT E a (E.1.heap.size + 66 + 4 * k) (2698980 + 40 * k) P N t0 tm ob T cc.length (cpF cc) (cF c 5 (nI (l0.map tm).length)) u n sl ks [] sp ps qs ms nk Z st := clT_ext b6 hp1 tr.2.1 hcK W.1.1 agP_rf (Nat.le_refl _) (fun k hk => ⟨(tr.1 k hk.1).1, hk.1, rfl, rfl, rfl⟩) (fun _ _ => rfl) (fun _ _ => ⟨rfl, rfl⟩) (fun j _ _ => if_neg (by omega)) rfl rfl
        have KL := m_T_lead (E := E) (d := D + 26) (G := G) (gs := p0) W.1 W.2.1 W.2.2.1 tr.1 W.2.2.2.2.2.2.2 W.2.2.2.2.2.2.1 (by omega) A.1 (ty_Ar ty.1) tr.2.2.2.2.2.1 tr.2.2.2.2.2.2 vV hv4 hv60 zB zup W.2.2.2.1 (fun i hi => (A.2 i hi).1) z80 zb0 hcl1
        have K := m_Y_match (E := E) (d := D) (G := G) (x := p0) (k := r.length) x2' hpT' b1 (by omega) (by rw [x11, hl1]) w2 (tr.2.1 y w5).1 q1 (fun o G' hq => by
          obtain ⟨c', u', n', sl', sp', ms', -, -, -, -, -, -, hz⟩ := hq
          rcases hz with ⟨-, e, -⟩ | ⟨A', -, e, -⟩
          · exact ⟨_, e⟩
          · exact ⟨_, e⟩) KL
        rw [hl.1] at K
        have R := fun G' => m_W_match (E := E) (d := D + 37) (G := G') (m := a + 24) (n := a + 25) (s := s) (C := cc.length) (cp := cpF cc) (V := V) (v0 := v0) (c := l0.length) (gs := p0) (by omega) W.1 W.2.2.1 W.2.2.2.2.2.2.1 W.2.2.2.2.2.2.2 (by omega) tr.2.2.2.2.2.1 vV hv4 hv60 (tyO_9 ty.1) zQ zB W.2.2.2.1 z80 zb0 b7 x10 b3 x4 (by omega) e10
        generalize hRR : lp P t0 st.1 p0 v0 61 (aF P [] (cpF cc) cc.length) (-1) 0 [] = RR at K R
        refine w_match p0 (R := Ev E a (D + 41) Y_Model_match [.ref (a + 24), .int p0] (LI E a (k + 1))) ha K (fun v G' hq => ?_) (fun C G' hq => ?_)
        · obtain ⟨vv', e0, c', u', n', sl', sp', ms', rfl, hcl, hld, h21, h6, h60, hz⟩ := hq
          have hu' : ∀ q, q < a + 66 → u'.1 q = 0 := fun q hq => (hld.2.2.2.1.1 q (by omega)).trans (r2 q hq)
          have hn' := hld.2.2.2.2
          have l1 := lI_cl (c' := c') (u' := u') (n' := n') (sl' := sl') hl hu' (by omega)
          cases e0
          refine ⟨vv', fo, rfl, l1.2.2.1, ev (lI_out l1) ((R _).mono (fun o G2 h2 => ?_))⟩
          obtain ⟨s', pl', X', rfl, he, hmz, h54, -, h37, hy⟩ := h2
          have eqs : ∃ z : Int32, o = .inl (some (.int z)) ∧ vv' = z ∧ ∀ k, k < 8 → (c'.2.2.1 3 k = none ∧ s'.2 38 k = -1) ∨ ∃ v, V v ∧ c'.2.2.1 3 k = some (tm v) ∧ s'.2 38 k = nI v := by
            rcases hz with ⟨z1, z2, z3⟩ | ⟨A1, z1, z2, z3⟩
            · rcases hy with ⟨y1, y2, y3⟩ | ⟨A2, y1, -⟩
              · refine ⟨-1, y2, by cases z2; rfl, fun k hk => Or.inl ⟨z3 k hk, y3 k hk⟩⟩
              · rw [z1] at y1
                cases y1
            · rcases hy with ⟨y1, -⟩ | ⟨A2, y1, y2, y3, y4⟩
              · rw [z1] at y1
                cases y1
              · rw [z1] at y1
                cases y1
                refine ⟨nI A1.1, y2, by cases z2; rfl, fun k hk => ?_⟩
                have c3 := z3 k hk
                have s3 := y3 k hk
                cases hA : A1.2.2 k with
                | none =>
                  rw [hA] at c3 s3
                  exact Or.inl ⟨c3, s3⟩
                | some π =>
                  have hvp := y4 k π hA
                  rw [hA] at c3 s3
                  exact Or.inr ⟨vAt P v0 π, vAt_V tr.2.2.2.2.2.1 π v0 vV hvp, c3, s3⟩
          obtain ⟨z, eo, ez', hbd⟩ := eqs
          subst ez'
          refine ⟨vv', s', eo, rfl, (hmz.2 0 (by omega) (by omega) (by omega) (by omega)).trans rfl, fun _ => up_0, ?_⟩
          have pg' : pgR V tm c' s' := by
            refine ⟨RR.2.length, h60, h21, h54, fun i hi => ?_, hbd⟩
            have e : RR.2[i]? = some RR.2[i] := List.getElem?_eq_getElem hi
            rw [h6 i _ e, h37 i _ e]
          refine rI_RI r1 hu' (by omega) (rI_x (K := fun k => k < 5 ∨ k = 9 ∨ k = 12) (pp' := pp) (vv' := l0) hr0 hk hld.2.2.2.1 (by omega) (by omega) hn' ?_ ?_ ?_ ?_ ?_ ?_ ?_ ?_ ?_ ⟨[], by simp⟩ ⟨[v0], rfl⟩ pg' (fun tr' hK' => ?_))
          · rintro j (rfl | rfl)
            · exact hld.1 0 (by omega)
            · exact hld.1 3 (by omega)
          · exact fun j hj => hld.2.1 j (by omega)
          · exact hld.2.2.1 0 (by omega)
          · rintro j (rfl | rfl | rfl)
            · exact (hmz.2 4 (by omega) (by omega) (by omega) (by omega)).trans rfl
            · exact (hmz.2 5 (by omega) (by omega) (by omega) (by omega)).trans rfl
            · exact (hmz.2 16 (by omega) (by omega) (by omega) (by omega)).trans rfl
          · exact fun j hj => hmz.1 j (by omega)
          · exact ⟨(hld.1 4 (by omega)).trans x1.1, x1.2.1, fun i t hi => by rw [hld.2.2.1 1 (by omega)]; exact x1.2.2 i t hi⟩
          · have := pil_cF x2'
            exact ⟨(hld.1 5 (by omega)).trans this.1, this.2.1, fun i t hi => by rw [hld.2.2.1 2 (by omega)]; exact this.2.2 i t hi⟩
          · exact (hmz.2 14 (by omega) (by omega) (by omega) (by omega)).trans x3
          · exact (hmz.2 15 (by omega) (by omega) (by omega) (by omega)).trans rfl
          · have hcl2 := clT_mix hcl b6 (tmW_sub tr'.2.1 (fun k hk => hk.1))
            have hp2 := hcl.1
            rw [List.append_nil] at hp2
            have hp' := hp_on (c' := c') hk hp2 (Nat.le_refl n') (by omega) (show sl' ≤ sl' + 40 by omega) (fun _ _ => rfl) rfl
            refine ⟨ks, sp', ps, qs, ms', hp', Or.inr ⟨?_, ?_, ?_, b4, st, nk, Z, pl', X', b5, ?_, he⟩⟩
            · rw [hld.1 1 (by omega)]
              exact b1
            · rw [hld.1 2 (by omega)]
              exact b2
            · rw [hmz.2 19 (by omega) (by omega) (by omega) (by omega)]
              exact b3
            · exact clT_ext hcl2 hp' (tmW_sub tr'.2.1 (fun k hk => hk.1)) hK' W.1.1 agP_rf (Nat.le_refl _) (fun k hk => ⟨(tr.1 k hk.1).1, hk, rfl, rfl, rfl⟩) (fun _ _ => rfl) (fun _ _ => ⟨rfl, rfl⟩) (fun _ _ _ => rfl) rfl rfl
        · obtain ⟨v', e0, -⟩ := hq
          cases e0
      · have K := m_Y_matchT (E := E) (d := D) (G := G) (x := p0) (k := r.length) hF x2' hpT' b1 (by omega) (by rw [x11, hl1]) w2 (tr.2.1 y w5).1 q1
        rw [hl.1] at K
        refine w_match p0 (R := Ev E a (D + 41) Y_Model_match [.ref (a + 24), .int p0] (LI E a (k + 1))) ha K (fun v G' hq => (tIs_l hq).elim) (fun C G' hq => ?_)
        refine refu hl h hk hq (m_W_match_n3 (E := E) (d := D + 40) (G := G') (m := a + 24) (n := a + 25) (s := s) (by omega) x4 (by omega) e10 (by omega) (by rw [hP 11 (by omega)]; exact w1) (by omega) ?_ p0) (by decide)
        rw [hP 4 (by omega)]
        rw [tyy, tyv] at q1
        exact fun z => q1 z.symm
end OC
