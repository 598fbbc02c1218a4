/-! pop, addCase -/
section NT
variable {E : gE} {a k n n' sl sl' D N t0 : Nat} {G G' : gS} {c c' : cS} {u u' : uS} {s s' : mS} {fo : Nat → Int64} {P P' : Nat → Nat → Int32} {rt : Nat → Nat} {rl : Nat → List Nat} {T V : Nat → Prop} {tm : Nat → Nat} {ob : Nat → Int32} {pp vv cc pp' vv' : List Nat}
theorem nil_or {l : List Nat} : l = [] ∨ ∃ l0 x, l = l0 ++ [x] := by
  rcases List.eq_nil_or_concat l with h | ⟨l0, x, h⟩
  · exact Or.inl h
  · exact Or.inr ⟨l0, x, by rw [h, List.concat_eq_append]⟩
theorem W_N (h : rI E a k P N t0 rt rl T V tm ob pp vv cc c u n sl s) : N ≤ 512 := (rI_wf h).2.2.2.2.2.1
/-- things go from the piles -/
theorem rI_pl (h : rI E a k P N t0 rt rl T V tm ob pp vv cc c u n sl s) (hk : k < 512) (hn : n ≤ n') (hn2 : n' ≤ n + 4) (hsl : sl' ≤ sl + 40) (q1 : pil c' 1 4 (pp'.map tm)) (q2 : pil c' 2 5 (vv'.map tm)) (s14 : s'.1 14 = nI pp'.length) (s15 : s'.1 15 = nI vv'.length) (hp : ∃ r, pp = pp' ++ r) (hv : ∃ r, vv = vv' ++ r) (cr : ∀ j, j ≠ 4 → j ≠ 5 → c'.1 j = c.1 j) (c2 : c'.2 = c.2) (h1 : ∀ j, j ≠ 0 → j ≠ 14 → j ≠ 15 → s'.1 j = s.1 j) (h2 : s'.2 = s.2) : rI E a (k + 1) P N t0 rt rl T V tm ob pp' vv' cc c' u n' sl' s' := by
  have W := rI_wf h
  obtain ⟨a1, a2, ⟨a3, a4, a5, a6, a7, a8, a9⟩, a10, a11, a12, a13⟩ := h
  have hs : sPA s' P := fun j hj => by rw [h2]; exact a1 j hj
  have hu : uOk u a n := by
    obtain ⟨ks, sp, ps, qs, ms, hp, -⟩ := a13
    exact hpOk_un hp
  have R := tmR_u (u' := u) a10 W.1.1 a2.1 kFr_rf hn
  have ty' : tyR P c' := by
    unfold tyR
    rw [c2]
    exact a2
  obtain ⟨r1, hp⟩ := hp
  obtain ⟨r2, hv⟩ := hv
  have pi' : piR P t0 rt rl T V tm pp' vv' cc c' s' := by
    obtain ⟨x1, x2, x3, x4, x5, x6, x7, x8, x9, x10, x11, x12, x13, x14⟩ := a11
    subst hp hv
    refine ⟨q1, q2, s14, s15, fun i x hi => x5 i x ?_, fun i x hi => x6 i x ?_, fun x hx => x7 x (List.mem_append_left _ hx), fun x hx => x8 x (List.mem_append_left _ hx), ?_, by rw [h1 16 (by omega) (by omega) (by omega)]; exact x10, by rw [cr 3 (by omega) (by omega)]; exact x11, x12, x13, by rw [c2]; exact x14⟩
    · rw [List.getElem?_append_left (List.getElem?_eq_some_iff.mp hi).1]
      exact hi
    · rw [List.getElem?_append_left (List.getElem?_eq_some_iff.mp hi).1]
      exact hi
    · exact List.Nodup.sublist (List.Sublist.append (List.sublist_append_left _ _) (List.Sublist.append (List.sublist_append_left _ _) (List.Sublist.refl _))) x9
  refine ⟨hs, ty', ⟨by rw [h1 5 (by omega) (by omega) (by omega)]; exact a3, by omega, by omega, by rw [h1 4 (by omega) (by omega) (by omega)]; exact a6, by rw [h1 4 (by omega) (by omega) (by omega), cr 0 (by omega) (by omega)]; exact a7, a8, a9⟩, R, pi', ?_, ?_⟩
  · obtain ⟨l, y1, y2, y3, y4, y5⟩ := a12
    exact ⟨l, y1, by rw [cr 21 (by omega) (by omega)]; exact y2, by rw [h1 54 (by omega) (by omega) (by omega)]; exact y3, by rw [c2, h2]; exact y4, by rw [c2, h2]; exact y5⟩
  · exact hb_ext (K := fun _ => False) a13 hk W.1 W.2.2.1 W.2.2.2.2.2.2.1 W.2.2.2.2.1 W.2.2.2.1 agP_rf rfl (Nat.le_refl _) (fun k hk => ⟨(a10.1 k hk.1).1, hk, rfl, rfl, rfl⟩) (tmW_sub R.2.1 (fun k hk => hk.1)) (rI_cK ty' pi') (fun _ _ _ => rfl) kFr_rf (fun _ z => z.elim) hn hn2 hsl (fun q hq => ⟨(hu q hq).1, by have := (hu q hq).2; omega⟩) (fun j _ h4 h5 => cr j h4 h5) (by rw [c2]) (by rw [c2]) (by rw [c2]) hs (h1 19 (by omega) (by omega) (by omega)) (fun j hj => h1 j (by omega) (by omega) (by omega)) (fun j _ _ => by rw [h2])
/-- the reference's piles hold nodes -/
theorem rI_p9 (h : rI E a k P N t0 rt rl T V tm ob pp vv cc c u n sl s) : (¬ s.1 14 < 0 ∧ s.1 14 ≤ 40 ∧ ∀ k, k < tn (s.1 14) → ¬ s.2 9 k < 0 ∧ tn (s.2 9 k) < 700) ∧ (¬ s.1 15 < 0 ∧ s.1 15 ≤ 40 ∧ ∀ k, k < tn (s.1 15) → ¬ s.2 10 k < 0 ∧ tn (s.2 10 k) < 700) := by
  obtain ⟨a1, -, ⟨-, a4, a5, -⟩, tr, ⟨x1, x2, x3, x4, x5, x6, x7, x8, -⟩, -⟩ := h
  have b1 : pp.length ≤ 40 := by have := x1.2.1; rw [List.length_map] at this; exact this
  have b2 : vv.length ≤ 40 := by have := x2.2.1; rw [List.length_map] at this; exact this
  rw [x3, x4, tnI (by omega), tnI (by omega), a1 9 (by omega), a1 10 (by omega)]
  refine ⟨⟨nlt_hi (nI_hi (by omega)), (le_hi (nI_hi (by omega)) (show (40 : Int32).toInt = ((40 : Nat) : Int) by decide)).mpr b1, fun i hi => ?_⟩, nlt_hi (nI_hi (by omega)), (le_hi (nI_hi (by omega)) (show (40 : Int32).toInt = ((40 : Nat) : Int) by decide)).mpr b2, fun i hi => ?_⟩
  · have e : pp[i]? = some pp[i] := List.getElem?_eq_getElem hi
    have hN := (tr.1 _ (x7 _ (List.getElem_mem hi)).1).1
    rw [x5 i _ e, tnI (by omega)]
    exact ⟨nlt_hi (nI_hi (by omega)), by omega⟩
  · have e : vv[i]? = some vv[i] := List.getElem?_eq_getElem hi
    have hN := (tr.1 _ (tr.2.2.2.2.2.2 _ (x8 _ (List.getElem_mem hi)).1)).1
    rw [x6 i _ e, tnI (by omega)]
    exact ⟨nlt_hi (nI_hi (by omega)), by omega⟩
theorem pil_T (h : piR P t0 rt rl T V tm pp vv cc c s) (tr : tmR P N T V tm ob a n u) : pilT u a (pp.map tm) ∧ pilT u a (vv.map tm) := by
  obtain ⟨x1, x2, x3, x4, x5, x6, x7, x8, -⟩ := h
  refine ⟨fun t ht => ?_, fun t ht => ?_⟩
  · obtain ⟨x, hx, rfl⟩ := List.mem_map.mp ht
    exact (tr.2.1 x (x7 x hx).1).1
  · obtain ⟨x, hx, rfl⟩ := List.mem_map.mp ht
    exact (tr.2.1 x (tr.2.2.2.2.2.2 x (x8 x hx).1)).1
theorem get_last {l0 : List Nat} {x : Nat} : (l0 ++ [x])[l0.length]? = some x := by simp
/-- the topmost of a pile goes, in the class -/
theorem pil_cF {j h : Nat} {l0 : List Nat} {x : Nat} (hp : pil c j h (l0 ++ [x])) : pil (cF c h (nI l0.length)) j h l0 := by
  obtain ⟨p1, p2, p3⟩ := hp
  refine ⟨if_pos rfl, by rw [List.length_append] at p2; omega, fun i t hi => p3 i t ?_⟩
  rw [List.getElem?_append_left (List.getElem?_eq_some_iff.mp hi).1]
  exact hi
theorem pil_ne {j h h' : Nat} {l : List Nat} {y : Int32} (hp : pil c j h l) (hne : h ≠ h') : pil (cF c h' y) j h l := ⟨(if_neg hne).trans hp.1, hp.2⟩
theorem k_pop (hl : lI E a G c u n sl s fo) (h : RI E a k c u n sl s) (hk : k < 512) : s_pop E (D + 41) a (a + 24) (a + 65) G (LI E a (k + 1)) := by
  intro p0 hp0
  have hR := RI_0 h hk (Nat.le_refl n) (by omega) (show sl ≤ sl + 40 by omega) (x := 0)
  obtain ⟨r1, r2, r3, P, N, t0, rt, rl, T, V, tm, ob, pp, vv, cc, hr⟩ := id h
  have hp9 := rI_p9 hr
  have hr0 := hr
  obtain ⟨hP, -, ⟨-, hNk, -⟩, tr, hpi, -⟩ := hr
  have hpT := pil_T hpi tr
  have hpi0 := hpi
  obtain ⟨x1, x2, x3, x4, x5, x6, x7, x8, -⟩ := hpi
  rcases hp0 with rfl | rfl
  · have R := fun G' => m_W_pop (E := E) (d := D + 40) (G := G') (m := a + 24) (n := a + 25) (s := s) (v := 0) (by omega) hp9.1.1 hp9.1.2.1 hp9.1.2.2
    rcases nil_or (l := pp) with rfl | ⟨l0, x, rfl⟩
    · have K := m_X_pop_no0 (E := E) (d := D + 31) (G := zW E G u n sl) (a := a) (c := c) x1.1
      replace K : GM E Y_Mill_pop (D + 41) [.ref a, .int 0] (yW E G a c u n sl) (rIs (some (.int 0)) (yW E G a c u n sl)) := K
      rw [hl.1] at K
      refine K.mono (fun o G1 hq => ?_)
      obtain ⟨rfl, rfl⟩ := hq
      have R := R G1
      rw [rPop, if_pos (show rHt s 0 = 0 from x3)] at R
      exact ⟨_, rfl, ev_d hl R hR⟩
    · rw [List.map_append] at x1 hpT
      have K := m_Y_pop_8 (E := E) (d := D + 1) (G := G) (n := n) (sl := sl) x1 hpT.1
      rw [hl.1, List.length_map] at K
      refine K.mono (fun o G1 hq => ?_)
      obtain ⟨rfl, rfl⟩ := hq
      have R := R (yW E G a (cF c 4 (nI l0.length)) u n sl)
      have hb : (l0.map tm ++ [x].map tm).length ≤ 40 := x1.2.1
      simp only [List.length_append, List.length_map, List.length_singleton] at hb x3
      have hxT := (x7 x (by simp)).1
      have hxN := (tr.1 x hxT).1
      have e14 : s.1 14 - 1 = nI l0.length := by rw [x3]; exact nI_s1 (by omega)
      have e7 : s.2 7 (tn (s.2 9 (tn (s.1 14) - 1))) = u.2.2.1 (tm x) 4 := by
        rw [x3, tnI (by omega), hP 9 (by omega), Nat.add_sub_cancel, x5 _ _ get_last, tnI (by have := W_N hr0; omega), hP 7 (by omega), (tr.2.2.1 x hxT).2.1]
      rw [rPop, if_neg (show ¬ rHt s 0 = 0 from fun z => by
        have z : s.1 14 = 0 := z
        rw [x3] at z
        have := nI_inj (b := l0.length + 1) (b' := 0) (by omega) (by omega) z
        omega), if_pos rfl, e7, e14] at R
      refine ⟨_, rfl, ev_d (lI_cl hl h.2.1 h.2.2.1) R ⟨r1, r2, r3, P, N, t0, rt, rl, T, V, tm, ob, l0, vv, cc, ?_⟩⟩
      exact rI_pl hr0 hk (Nat.le_refl _) (by omega) (by omega) (by have := pil_cF x1; rw [List.length_map] at this; exact this) (pil_ne x2 (by omega)) rfl x4 ⟨[x], rfl⟩ ⟨[], by simp⟩ (fun j h4 _ => if_neg h4) rfl (fun j h0 h14 _ => (if_neg h14).trans (if_neg h0)) rfl
  · have R := fun G' => m_W_pop (E := E) (d := D + 40) (G := G') (m := a + 24) (n := a + 25) (s := s) (v := 1) (by omega) hp9.2.1 hp9.2.2.1 hp9.2.2.2
    rcases nil_or (l := vv) with rfl | ⟨l0, x, rfl⟩
    · have K := m_X_pop_no1 (E := E) (d := D + 31) (G := zW E G u n sl) (a := a) (c := c) x2.1
      replace K : GM E Y_Mill_pop (D + 41) [.ref a, .int 1] (yW E G a c u n sl) (rIs (some (.int 0)) (yW E G a c u n sl)) := K
      rw [hl.1] at K
      refine K.mono (fun o G1 hq => ?_)
      obtain ⟨rfl, rfl⟩ := hq
      have R := R G1
      rw [rPop, if_pos (show rHt s 1 = 0 from x4)] at R
      exact ⟨_, rfl, ev_d hl R hR⟩
    · rw [List.map_append] at x2 hpT
      have K := m_Y_pop_10 (E := E) (d := D + 1) (G := G) (n := n) (sl := sl) x2 hpT.2
      rw [hl.1, List.length_map] at K
      refine K.mono (fun o G1 hq => ?_)
      obtain ⟨rfl, rfl⟩ := hq
      have R := R (yW E G a (cF c 5 (nI l0.length)) u n sl)
      have hb : (l0.map tm ++ [x].map tm).length ≤ 40 := x2.2.1
      simp only [List.length_append, List.length_map, List.length_singleton] at hb x4
      have hxT := tr.2.2.2.2.2.2 x (x8 x (by simp)).1
      have hxN := (tr.1 x hxT).1
      have e15 : s.1 15 - 1 = nI l0.length := by rw [x4]; exact nI_s1 (by omega)
      have e7 : s.2 7 (tn (s.2 10 (tn (s.1 15) - 1))) = u.2.2.1 (tm x) 4 := by
        rw [x4, tnI (by omega), hP 10 (by omega), Nat.add_sub_cancel, x6 _ _ get_last, tnI (by have := W_N hr0; omega), hP 7 (by omega), (tr.2.2.1 x hxT).2.1]
      rw [rPop, if_neg (show ¬ rHt s 1 = 0 from fun z => by
        have z : s.1 15 = 0 := z
        rw [x4] at z
        have := nI_inj (b := l0.length + 1) (b' := 0) (by omega) (by omega) z
        omega), if_neg (by decide), e7, e15] at R
      refine ⟨_, rfl, ev_d (lI_cl hl h.2.1 h.2.2.1) R ⟨r1, r2, r3, P, N, t0, rt, rl, T, V, tm, ob, pp, l0, cc, ?_⟩⟩
      exact rI_pl hr0 hk (Nat.le_refl _) (by omega) (by omega) (pil_ne x1 (by omega)) (by have := pil_cF x2; rw [List.length_map] at this; exact this) x3 rfl ⟨[], by simp⟩ ⟨[x], rfl⟩ (fun j _ h5 => if_neg h5) rfl (fun j h0 _ h15 => (if_neg h15).trans (if_neg h0)) rfl
end NT
