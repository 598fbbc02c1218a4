/-! name -/
section NX
variable {E : gE} {a k n n' sl sl' D N t0 t1 : Nat} {G G' : gS} {c c' : cS} {u u' : uS} {s s' s1 : mS} {fo : Nat → Int64} {P P' : Nat → Nat → Int32} {rt : Nat → Nat} {rl : Nat → List Nat} {T V : Nat → Prop} {tm : Nat → Nat} {ob : Nat → Int32} {pp vv cc l0 ns : List Nat} {old x : Nat}
/-- the reference with a new name upon its topmost pattern -/
def nmS (s s' : mS) (N old x L : Nat) : Prop := s'.1 0 = 0 ∧ s'.1 5 = nI (N + 1) ∧ (∀ j, j ≠ 0 → j ≠ 5 → s'.1 j = s.1 j) ∧ (∀ j, j ≠ 3 → j ≠ 4 → j ≠ 5 → j ≠ 6 → j ≠ 7 → j ≠ 8 → j ≠ 9 → s'.2 j = s.2 j) ∧ (∀ i, i ≠ N → s'.2 3 i = s.2 3 i ∧ s'.2 4 i = s.2 4 i ∧ s'.2 5 i = s.2 5 i ∧ s'.2 7 i = s.2 7 i ∧ s'.2 8 i = s.2 8 i) ∧ s'.2 3 N = 4 ∧ s'.2 4 N = s.2 4 old ∧ s'.2 5 N = nI x ∧ s'.2 7 N = s.2 7 old ∧ s'.2 8 N = s.2 8 old ||| 1 <<< (nI x &&& 31) ∧ (∀ i, i < 4 * N → s'.2 6 i = s.2 6 i) ∧ s'.2 6 (4 * N) = nI old ∧ ∀ i, s'.2 9 i = if i = L then nI N else s.2 9 i
theorem nm_name (h5 : s.1 5 = nI N) (hN : N < 512) {old x L : Nat} (ho : old < 512) (ht : rTop s = nI old) (hL : tn (s.1 14) - 1 = L) : nmS s (rNameS s (nI x)) N old x L := by
  have e5 : tn ((wF s 0 0).1 5) = N := by
    show tn (s.1 5) = N
    rw [h5, tnI (by omega)]
  unfold rNameS
  rw [ht, tnI (by omega), hL]
  unfold rNode
  rw [e5, show tn (s.1 5) = N from e5]
  refine ⟨rfl, ?_, fun j h0 h5 => (if_neg h5).trans (if_neg h0), fun j h3 h4 h5 h6 h7 h8 h9 => (if_neg h9).trans ((if_neg h6).trans ((if_neg h8).trans ((if_neg h7).trans ((if_neg h5).trans ((if_neg h4).trans (if_neg h3)))))), fun i hi => ⟨if_neg hi, if_neg hi, if_neg hi, if_neg hi, if_neg hi⟩, if_pos rfl, if_pos rfl, if_pos rfl, if_pos rfl, if_pos rfl, fun i hi => if_neg (by omega), if_pos rfl, fun i => ?_⟩
  · show s.1 5 + 1 = nI (N + 1)
    rw [h5]
    exact nI_ad (by omega)
  · rw [n_ss h5 (by omega)]
    rfl
theorem rI_name (h : rI E a k P N t0 rt rl T V tm ob (l0 ++ [old]) vv cc c u n sl s) (hk : k < 512) (hx : x < 8) (hw : nmS s s' N old x l0.length) (hno : ¬ nmB (P 8 old) x) :
    ∃ P' rt' rl' T' tm' ob', rI E a (k + 1) P' (N + 1) t0 rt' rl' T' V tm' ob' (l0 ++ [N]) vv cc c (uI (uI u (tm old) 5 (u.2.2.1 (tm old) 5 ||| 1 <<< (nI x &&& 31))) (tm old) 6 (u.2.2.1 (tm old) 6 ||| 1 <<< (nI x &&& 31))) n sl s' := by
  have hlt := nd_lt h
  have W := rI_wf h
  obtain ⟨a1, a2, ⟨a3, a4, a5, a6, a7, a8, a9⟩, a10, ⟨x1, x2, x3, x4', x5, x6, x7, x8, x9, x10, x11, x12, x13, x14⟩, a12, a13⟩ := h
  obtain ⟨w0, w5, w1, w2, wi, k3, k4, k5, k7, k8, w6, wn, w9⟩ := hw
  obtain ⟨oT, oV, o1, o2, o24⟩ := x7 old (by simp)
  have hoN := (a10.1 old oT).1
  have hl0 : ∀ x ∈ l0, x < N := fun x hx => hlt.1 x (List.mem_append_left _ hx)
  have hTN : ∀ k, T k → k < N := fun k hk => (a10.1 k hk).1
  have PP : ∀ j, j < 13 → j ≠ 9 → j ≠ 3 → j ≠ 4 → j ≠ 5 → j ≠ 6 → j ≠ 7 → j ≠ 8 → s'.2 j = P j := fun j hj h9 y3 y4 y5 y6 y7 y8 => by rw [w2 j y3 y4 y5 y6 y7 y8 h9, a1 j hj]
  have ag : agP P s'.2 N := ⟨PP 0 (by omega) (by omega) (by omega) (by omega) (by omega) (by omega) (by omega) (by omega), PP 1 (by omega) (by omega) (by omega) (by omega) (by omega) (by omega) (by omega) (by omega), PP 2 (by omega) (by omega) (by omega) (by omega) (by omega) (by omega) (by omega) (by omega), fun i hi => by
    obtain ⟨z3, z4, z5, z7, z8⟩ := wi i (by omega)
    rw [z3, z4, z5, z7, z8, a1 3 (by omega), a1 4 (by omega), a1 5 (by omega), a1 7 (by omega), a1 8 (by omega)]
    exact ⟨rfl, rfl, rfl, rfl, rfl⟩, fun i hi => by rw [w6 i hi, a1 6 (by omega)]⟩
  have P11 := PP 11 (by omega) (by omega) (by omega) (by omega) (by omega) (by omega) (by omega) (by omega)
  have P12 := PP 12 (by omega) (by omega) (by omega) (by omega) (by omega) (by omega) (by omega) (by omega)
  rw [a1 4 (by omega)] at k4
  rw [a1 7 (by omega)] at k7
  rw [a1 8 (by omega)] at k8
  have R := tmR_name (x := x) a10 a9 (by omega) a2.1 a8 ag hx oT oV o1 k3 k4 k5 wn k7 k8
  have oC : ¬ old ∈ cc := fun z => mem_dis x9 (by simp) (List.mem_append_right _ z)
  have rC : ∀ k, k < N → rt k ∈ cc → rtN rt [old] N k = rt k ∧ rlN rt rl [old] (fun _ => []) N k = rl k := fun k hk hr => rN_case hk (fun z => oC (by rw [← List.mem_singleton.mp z]; exact hr))
  have hT' : ∀ x, T x → upN tm N (tm old) x = tm x := fun x hx => upN_ne (by have := hTN x hx; omega)
  have tyR' : tyR s'.2 c := by
    obtain ⟨t1, t2, t3⟩ := a2
    refine ⟨⟨by rw [ag.1]; exact t1.1, by rw [ag.2.1]; exact t1.2.1, by rw [ag.2.2.1]; exact t1.2.2⟩, ?_, ?_⟩
    · rw [ag.1]
      exact t2
    · rw [ag.1, ag.2.1, ag.2.2.1]
      exact t3
  have hne : ∀ x ∈ l0, x ≠ old := fun x hx e => (List.nodup_append.mp (List.nodup_append.mp x9).1).2.2 x hx old (by simp) e
  have piR' : piR s'.2 t0 (rtN rt [old] N) (rlN rt rl [old] (fun _ => []) N) (fun k => (T k ∧ k ≠ old) ∨ k = N) V (upN tm N (tm old)) (l0 ++ [N]) vv cc c s' := by
    refine ⟨?_, ?_, ?_, by rw [w1 15 (by omega) (by omega)]; exact x4', fun i x hi => ?_, ?_, fun x hx => ?_, fun x hx => ?_, nd_new x9 hlt.1 (fun x hx => (List.mem_append.mp hx).elim (hlt.2.1 x) (hlt.2.2 x)), by rw [w1 16 (by omega) (by omega)]; exact x10, x11, x12, x13, fun i x hi => ?_⟩
    · rw [List.map_append, map_up hl0]
      show pil c 1 4 (l0.map tm ++ [upN tm N (tm old) N])
      rw [upN_at]
      rw [List.map_append] at x1
      exact x1
    · rw [map_up hlt.2.1]
      exact x2
    · rw [w1 14 (by omega) (by omega), x3, List.length_append, List.length_append]
      rfl
    · rw [w9]
      rcases get_new hi with ⟨rfl, rfl⟩ | ⟨hi1, hi2⟩
      · rw [if_pos rfl]
      · rw [if_neg (by omega), a1 9 (by omega)]
        exact x5 i x (by rw [List.getElem?_append_left hi1]; exact hi2)
    · rw [PP 10 (by omega) (by omega) (by omega) (by omega) (by omega) (by omega) (by omega) (by omega)]
      exact x6
    · rcases List.mem_append.mp hx with hx | hx
      · obtain ⟨y1, y2, y3, y4, y5⟩ := x7 x (List.mem_append_left _ hx)
        have hxN := hTN x y1
        have := rN_other (rt := rt) (rl := rl) (ns := [old]) (e := fun _ => []) (N := N) hxN y3 y4 (fun z => hne x hx (List.mem_singleton.mp z))
        exact ⟨Or.inl ⟨y1, hne x hx⟩, y2, this.1, this.2, by rw [(ag.2.2.2.1 x hxN).2.2.2.1]; exact y5⟩
      · rw [List.mem_singleton.mp hx]
        refine ⟨Or.inr rfl, fun z => ?_, if_pos rfl, if_pos rfl, by rw [k7]; exact o24⟩
        have := (a10.2.2.2.2.2.1 N z).1
        omega
    · obtain ⟨y1, y3, y4⟩ := x8 x hx
      have hxN := hlt.2.1 x hx
      have := rN_other (rt := rt) (rl := rl) (ns := [old]) (e := fun _ => []) (N := N) hxN y3 y4 (fun z => oV (by rw [← List.mem_singleton.mp z]; exact y1))
      exact ⟨y1, this.1, this.2⟩
    · obtain ⟨y1, y2, y3, y4, y5, y6, y7, y8, y9⟩ := x14 i x hi
      have hxN := hTN x y5
      have hxc : x ∈ cc := List.mem_of_getElem? hi
      have := rC x hxN (by rw [y6]; exact hxc)
      rw [P11, P12, hT' x y5, this.1, this.2, (ag.2.2.2.1 x hxN).2.2.2.1, (ag.2.2.2.1 x hxN).2.1]
      exact ⟨y1, y2, y3, y4, Or.inl ⟨y5, fun z => oC (by rw [← z]; exact hxc)⟩, y6, y7, y8, y9⟩
  have nb := tnI (k := old) (by omega)
  refine ⟨s'.2, rtN rt [old] N, rlN rt rl [old] (fun _ => []) N, _, _, _, fun _ _ => rfl, tyR', ⟨w5, by omega, by omega, fun z => ?_, by rw [w1 4 (by omega) (by omega)]; exact a7, fun j hj => ?_, rtO_N a9⟩, R, piR', ?_, ?_⟩
  · rw [w1 4 (by omega) (by omega)] at z
    have := a6 z
    omega
  · by_cases ej : j = N
    · subst ej
      obtain ⟨⟨t, ht, et⟩, ⟨z, z1, z2, ez⟩, ⟨y, hy, ey⟩, -⟩ := a8 old hoN
      obtain ⟨bz, hbz, ebz⟩ := nm_bit x hx
      obtain ⟨cz, hcz, ecz⟩ := nm_256 y bz hy hbz
      have rp := rN_part (rt := rt) (rl := rl) (ns := [old]) (e := fun _ => []) (N := j) (i := 0) (by simp) hoN o1 o2 rfl
      refine ⟨⟨t, ht, by rw [k4]; exact et⟩, ⟨z, z1, z2, by rw [k7]; exact ez⟩, ⟨cz, hcz, by rw [k8, ey, ebz]; exact ecz⟩, Or.inr (Or.inr (Or.inr (Or.inr k3))), fun q => ?_, fun _ => ⟨x, old, hx, k5, hoN, wn, ?_, ?_, fun w hw => ?_, ?_, rp.1.trans (show j = rtN rt [old] j j from (if_pos rfl).symm), rp.2.trans (show [] = rlN rt rl [old] (fun _ => []) j j from (if_pos rfl).symm)⟩, fun q => ?_, fun q => ?_⟩
      · rw [k3] at q
        exact absurd q (by decide)
      · rw [(ag.2.2.2.1 old hoN).2.2.2.1, k7]
      · rw [(ag.2.2.2.1 old hoN).2.1, k4]
      · rw [k8, (ag.2.2.2.1 old hoN).2.2.2.2, nmB_or hw, nmB_bit hx hw]
        exact ⟨fun z => z.symm, fun z => z.symm⟩
      · rw [(ag.2.2.2.1 old hoN).2.2.2.2]
        exact hno
      · rw [k3] at q
        exact absurd q (by decide)
      · rw [k3] at q
        exact absurd q (by decide)
    · exact ndO_ag ag (by omega) a2.1 reR_N (by omega) (a8 j (by omega))
  · obtain ⟨l, y1, y2, y3, y4, y5⟩ := a12
    refine ⟨l, y1, y2, by rw [w1 54 (by omega) (by omega)]; exact y3, by rw [w2 37 (by omega) (by omega) (by omega) (by omega) (by omega) (by omega) (by omega)]; exact y4, ?_⟩
    rw [w2 38 (by omega) (by omega) (by omega) (by omega) (by omega) (by omega) (by omega)]
    intro k hk
    rcases y5 k hk with z | ⟨v, z1, z2, z3⟩
    · exact Or.inl z
    · exact Or.inr ⟨v, z1, by rw [hT' v (a10.2.2.2.2.2.2 v z1)]; exact z2, z3⟩
  · have hu : uOk u a n := by
      obtain ⟨ks, sp, ps, qs, ms, hp, -⟩ := a13
      exact hpOk_un hp
    have k7' : u.1 (tm old) = 7 := (a10.2.1 old oT).1.1
    refine hb_ext (K := fun k => k = 7) a13 hk W.1 W.2.2.1 W.2.2.2.2.2.2.1 W.2.2.2.2.1 W.2.2.2.1 ag P12 (by omega) (fun k hk => ?_) (tmW_sub R.2.1 (fun k hk => hk.1)) (rI_cK tyR' piR') (fun v hv hp => ?_) (kFr_tr (kFr_I k7') (kFr_I k7') (Nat.le_refl n)) (fun _ z => z) (Nat.le_refl _) (by omega) (by omega) (fun q hq => hu q hq) (fun _ _ _ _ => rfl) rfl rfl rfl (fun _ _ => rfl) (w1 19 (by omega) (by omega)) (fun j hj => w1 j (by omega) (by omega)) (fun j h1 _ => w2 j (by omega) (by omega) (by omega) (by omega) (by omega) (by omega) (by omega))
    · have hkN := hTN k hk.1
      have hb := bse_ok W.1.1 512 k (by omega) hkN
      have kne : k ≠ old := fun z => oC (by rw [← o1, ← z]; exact hk.2)
      refine ⟨hkN, ⟨Or.inl ⟨hk.1, kne⟩, by rw [(rC k hkN hk.2).1]; exact hk.2⟩, hT' k hk.1, upN_ne (by omega), if_neg (fun z => ?_)⟩
      rcases z with z | z
      · omega
      · exact kne (a10.2.2.2.2.1 k old hk.1 oT z)
    · have hr : rt v ∈ cc := Classical.byContradiction (fun z => hp (by
        unfold posF
        rw [if_neg z]
        simp))
      unfold posF
      rw [(rC v hv hr).1, (rC v hv hr).2]
theorem k_name (hl : lI E a G c u n sl s fo) (h : RI E a k c u n sl s) (hk : k < 512) : s_name E (D + 41) a (a + 24) (a + 65) G (LI E a (k + 1)) := by
  intro p0
  obtain ⟨fs, ha⟩ := lI_a hl
  have hF := (RI_f6 hl h).2
  obtain ⟨r1, r2, r3, P, N, t0, rt, rl, T, V, tm, ob, pp, vv, cc, hr⟩ := id h
  have hp9 := rI_p9 hr
  have hr0 := hr
  obtain ⟨hP, ty, ⟨h5, hNk, -, -, -, hnd, -⟩, tr, hpi, -⟩ := hr
  have hpT := pil_T hpi tr
  obtain ⟨x1, x2, x3, x4, x5, x6, x7, -⟩ := hpi
  have R := fun G' => m_W_name (E := E) (d := D + 40) (G := G') (m := a + 24) (n := a + 25) (s := s) (by omega) (by rw [h5]; exact nlt_hi (nI_hi (by omega))) (by rw [h5, tnI (by omega)]; omega) hp9.1.1 hp9.1.2.1 hp9.1.2.2 p0
  by_cases q0 : ¬ p0 < 0 ∧ ¬ 8 ≤ p0
  · rcases nil_or (l := pp) with rfl | ⟨l0, old, rfl⟩
    · have K := m_X_name_no (E := E) (d := D + 30) (G := zW E G u n sl) (a := a) (c := c) hF p0 x1.1
      rw [if_pos q0] at K
      replace K : GM E Y_Mill_name (D + 40) [.ref a, .int p0] (yW E G a c u n sl) (tIs "java/lang/IllegalStateException" (yW E G a c u n sl)) := K
      rw [hl.1] at K
      refine w_name p0 (R := Ev E a (D + 41) Y_Model_name [.ref (a + 24), .int p0] (LI E a (k + 1))) ha K (fun v G' hq => (tIs_l hq).elim) (fun C G' hq => Or.inr ?_)
      have R := R G'
      rw [rName, if_neg (fun f => f q0), if_pos (Or.inl (show s.1 14 = 0 from x3))] at R
      exact refu hl h hk hq R (by decide)
    · have x1' := x1
      have hpT' := hpT
      rw [List.map_append] at x1' hpT'
      have hb : (l0 ++ [old]).length ≤ 40 := by
        have := x1.2.1
        rw [List.length_map] at this
        exact this
      rw [List.length_append, List.length_singleton] at hb x3
      obtain ⟨oT, oV, o1, o2, o24⟩ := x7 old (by simp)
      have hoN := (tr.1 old oT).1
      have hx8 : tn p0 < 8 := tn_lt q0.1 q0.2 (by decide)
      have top : rTop s = nI old := by
        show s.2 9 (tn (s.1 14) - 1) = nI old
        rw [x3, tnI (by omega), hP 9 (by omega), Nat.add_sub_cancel, x5 _ _ get_last]
      have n14 : ¬ s.1 14 = 0 := fun z => by
        rw [x3] at z
        have := nI_inj (b := l0.length + 1) (b' := 0) (by omega) (by omega) z
        omega
      have e8 : s.2 8 (tn (rTop s)) = u.2.2.1 (tm old) 6 := by rw [top, tnI (by omega), hP 8 (by omega), (tr.2.2.1 old oT).2.2]
      by_cases q1 : (u.2.2.1 (tm old) 6 >>> (p0 &&& 31)) &&& 1 = 1
      · have K := m_Y_nameH (E := E) (d := D) (G := G) hF q0 x1' hpT'.1 q1
        rw [hl.1] at K
        refine w_name p0 (R := Ev E a (D + 41) Y_Model_name [.ref (a + 24), .int p0] (LI E a (k + 1))) ha K (fun v G' hq => (tIs_l hq).elim) (fun C G' hq => Or.inr ?_)
        have R := R G'
        rw [rName, if_neg (fun f => f q0), if_pos (Or.inr (by rw [e8]; exact q1))] at R
        exact refu hl h hk hq R (by decide)
      · have K := m_Y_name (E := E) (d := D) (G := G) (n := n) (sl := sl) q0 x1' hpT'.1 q1
        have ep : p0 = nI (tn p0) := tn_nI q0.1
        generalize tn p0 = x at hx8 ep
        subst ep
        rw [hl.1] at K
        refine w_name _ (R := Ev E a (D + 41) Y_Model_name [.ref (a + 24), .int _] (LI E a (k + 1))) ha K (fun v G' hq => ?_) (fun C G' hq => by cases hq.1)
        obtain ⟨e3, rfl⟩ := hq
        cases e3
        have l1 := lI_cl (c' := c) (u' := uI (uI u (tm old) 5 (u.2.2.1 (tm old) 5 ||| 1 <<< (nI x &&& 31))) (tm old) 6 (u.2.2.1 (tm old) 6 ||| 1 <<< (nI x &&& 31))) (n' := n) (sl' := sl) hl r2 r3
        refine ⟨_, fo, rfl, l1.2.2.1, ?_⟩
        have R := R (gUp (yW E G a c (uI (uI u (tm old) 5 (u.2.2.1 (tm old) 5 ||| 1 <<< (nI x &&& 31))) (tm old) 6 (u.2.2.1 (tm old) 6 ||| 1 <<< (nI x &&& 31))) n sl) (a + 65) (gAJ E 1 (vp_updL fo 0 (bcF (u.2.2.1 (tm old) 6 ||| 1 <<< (nI x &&& 31))).toInt64)))
        have hw := nm_name (s := s) (x := x) (L := l0.length) h5 (by omega) (show old < 512 by omega) top (by rw [x3, tnI (by omega)]; omega)
        have eb : rBt ((rNameS s (nI x)).2 8 (tn (s.1 5))) 8 = bcF (u.2.2.1 (tm old) 6 ||| 1 <<< (nI x &&& 31)) := by
          obtain ⟨-, -, ⟨y, hy, ey⟩, -⟩ := hnd old hoN
          obtain ⟨bz, hbz, ebz⟩ := nm_bit x hx8
          obtain ⟨cz, hcz, ecz⟩ := nm_256 y bz hy hbz
          rw [h5, tnI (by omega), hw.2.2.2.2.2.2.2.2.2.1, hP 8 (by omega), ← (tr.2.2.1 old oT).2.2, (tr.2.2.1 old oT).2.2, ey, ebz, ecz]
          exact (bc_all ⟨cz, hcz⟩).symm
        rw [rName, if_neg (fun f => f q0), if_neg (fun z => z.elim n14 (fun z => q1 (by rw [← e8]; exact z))), eb] at R
        obtain ⟨P', rt', rl', T', tm', ob', hI⟩ := rI_name hr0 hk hx8 hw (fun z => q1 (by rw [(tr.2.2.1 old oT).2.2]; exact z))
        exact ev_r (lI_out l1) R hw.1 (fun _ => up_0) (rI_RI r1 r2 r3 hI)
  · have K := m_Y_nameX (E := E) (d := D) (G := G) hF q0
    rw [hl.1] at K
    refine w_name p0 (R := Ev E a (D + 41) Y_Model_name [.ref (a + 24), .int p0] (LI E a (k + 1))) ha K (fun v G' hq => (tIs_l hq).elim) (fun C G' hq => Or.inl ?_)
    have R := R G'
    rw [rName, if_pos q0] at R
    exact refu hl h hk hq R (by decide)
end NX
