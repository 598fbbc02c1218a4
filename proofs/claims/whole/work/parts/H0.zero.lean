/-! type, argument, clear: nothing is made yet, or any more -/
section NR
variable {E : gE} {a k n n' sl sl' D N t0 : Nat} {G G' : gS} {c c' : cS} {u u' : uS} {s s' : mS} {fo : Nat → Int64} {YM : gY} {aM : List Value} {P P' : Nat → Nat → Int32}
/-- nothing is made -/
def zrR (E : gE) (a k : Nat) (P : Nat → Nat → Int32) (c : cS) (u : uS) (n sl : Nat) (s : mS) : Prop := sPA s P ∧ tyR P c ∧ (s.1 5 = 0 ∧ s.1 4 = 0 ∧ c.1 0 = 0 ∧ c.1 3 = 0 ∧ c.1 4 = 0 ∧ c.1 5 = 0 ∧ s.1 14 = 0 ∧ s.1 15 = 0 ∧ s.1 16 = 0 ∧ c.1 1 = 0 ∧ c.1 2 = 0 ∧ s.1 19 = 0) ∧ (∃ l, l ≤ 60 ∧ c.1 21 = nI l ∧ s.1 54 = nI l ∧ (∀ i, i < l → c.2.1 6 i = s.2 37 i) ∧ ∀ k, k < 8 → c.2.2.1 3 k = none ∧ s.2 38 k = -1) ∧
  ∃ ks sp ps qs ms, hpOk E a (E.1.heap.size + 66 + 4 * k) (2698980 + 40 * k) c u n sl ks sp ps qs ms
theorem zr_RI (ha : a = E.1.heap.size) (hz : ∀ q, q < a + 66 → u.1 q = 0) (hn : a + 66 ≤ n) (hk : k ≤ 512) (h : zrR E a k P c u n sl s) : RI E a k c u n sl s := by
  obtain ⟨h1, h2, ⟨s5, s4, c0, c3, c4, c5, s14, s15, s16, c1, c2, s19⟩, ⟨l, l1, l2, l3, l4, l5⟩, ks, sp, ps, qs, ms, hp⟩ := h
  refine ⟨ha, hz, hn, P, 0, 0, id, fun _ => [], fun _ => False, fun _ => False, id, fun _ => 0, [], [], [], h1, h2, ⟨s5, by simp, hk, fun _ => rfl, ⟨fun _ => s4, fun _ => c0⟩, fun j hj => by omega, fun j hj => by omega⟩, ?_, ?_, ⟨l, l1, l2, l3, l4, fun k hk => Or.inl (l5 k hk)⟩, ks, sp, ps, qs, ms, hp, Or.inl ⟨c1, s19, fun z => absurd c2 z⟩⟩
  · exact ⟨fun _ z => z.elim, fun _ z => z.elim, fun _ z => z.elim, fun _ _ z => z.elim, fun _ _ z => z.elim, fun _ z => z.elim, fun _ z => z.elim⟩
  · exact ⟨⟨c4, by simp, by simp⟩, ⟨c5, by simp, by simp⟩, s14, s15, by simp, by simp, by simp, by simp, by simp, s16, c3, by simp, by omega, by simp⟩
theorem RI_zr (h : RI E a k c u n sl s) (s4 : s.1 4 = 0) : ∃ P, zrR E a k P c u n sl s := by
  obtain ⟨-, -, -, P, N, t0, rt, rl, T, V, tm, ob, pp, vv, cc, h⟩ := h
  obtain ⟨a1, a2, ⟨a3, a4, a5, a6, a7, a8, a9⟩, a10, ⟨x1, x2, x3, x4, x5, x6, x7, x8, x9, x10, x11, x12, x13, x14⟩, ⟨l, y1, y2, y3, y4, y5⟩, ks, sp, ps, qs, ms, hp, hb⟩ := h
  obtain rfl := a6 s4
  have nT : ∀ x, ¬ T x := fun x hx => by
    have := (a10.1 x hx).1
    omega
  have nV : ∀ x, ¬ V x := fun x hx => nT x (a10.2.2.2.2.2.2 x hx)
  have epp : pp = [] := List.eq_nil_iff_forall_not_mem.mpr (fun x hx => nT x (x7 x hx).1)
  have evv : vv = [] := List.eq_nil_iff_forall_not_mem.mpr (fun x hx => nV x (x8 x hx).1)
  have ecc : cc = [] := List.eq_nil_iff_forall_not_mem.mpr (fun x hx => by
    obtain ⟨i, hi, e⟩ := List.getElem_of_mem hx
    exact nT x (x14 i x (by rw [List.getElem?_eq_getElem hi, e])).2.2.2.2.1)
  subst epp evv ecc
  refine ⟨P, a1, a2, ⟨a3, s4, a7.mpr s4, x11, x1.1, x2.1, x3, x4, x10, ?_⟩, ⟨l, y1, y2, y3, y4, fun k hk => ?_⟩, ks, sp, ps, qs, ms, hp⟩
  · rcases hb with ⟨b1, b2, b3⟩ | ⟨-, -, -, b4, -⟩
    · exact ⟨b1, Classical.byContradiction (fun z => (b3 z).1 rfl), b2⟩
    · exact absurd rfl b4
  · rcases y5 k hk with z | ⟨v, z, -⟩
    · exact z
    · exact absurd z (nV v)
/-- the heap goes on -/
theorem hp_on {ks sp ps qs ms : List Nat} (hk : k < 512) (h : hpOk E a (E.1.heap.size + 66 + 4 * k) (2698980 + 40 * k) c u n sl ks sp ps qs ms) (hn : n ≤ n') (hn2 : n' ≤ n + 4) (hsl : sl' ≤ sl + 40) (hc : ∀ j, j = 13 ∨ j = 15 ∨ j = 18 ∨ j = 20 ∨ j = 23 → c'.1 j = c.1 j) (hD : c'.2.2.2 = c.2.2.2) : hpOk E a (E.1.heap.size + 66 + 4 * (k + 1)) (2698980 + 40 * (k + 1)) c' u n' sl' ks sp ps qs ms := by
  have rm := rm_all
  have hu := hpOk_un h
  exact (hp_gen (K := fun _ => False) (c' := c') (sl' := sl') (B' := E.1.heap.size + 66 + 4 * (k + 1)) (SS' := 2698980 + 40 * (k + 1)) h kFr_rf (fun _ z => z.elim) hn (fun q hq => ⟨(hu q hq).1, by have := (hu q hq).2; omega⟩) hc hD (by omega) (by omega) (by omega) (by omega)).1
theorem ty_at (ty : tyR P c) {t : Nat} (ht : t < 16) : ∃ v, v ≤ 9 ∧ P 0 t = nI v ∧ ((v = 0 ∧ c.2.1 0 t = -1) ∨ (1 ≤ v ∧ c.2.1 0 t = nI (v - 1))) := by
  obtain ⟨v, hv, e⟩ := ty.1.1 t
  refine ⟨v, hv, e, ?_⟩
  rw [ty.2.1 t ht, e]
  by_cases h0 : v = 0
  · subst h0
    exact Or.inl ⟨rfl, by decide⟩
  · obtain ⟨w, rfl⟩ : ∃ w, v = w + 1 := ⟨v - 1, by omega⟩
    exact Or.inr ⟨by omega, nI_s1 (by omega)⟩
theorem told_iff (ty : tyR P c) (hs : sPA s P) {x : Int32} : tTold (c.2.1 0) x ↔ rIsT s x := by
  unfold tTold rIsT
  rw [hs 0 (by omega)]
  constructor
  · rintro ⟨⟨h1, h2⟩, h3⟩
    refine ⟨h1, h2, fun z => h3 ?_⟩
    obtain ⟨v, hv, e, hc⟩ := ty_at ty (tn_lt h1 h2 (show (16 : Int32).toInt = ((16 : Nat) : Int) by decide))
    rw [e] at z
    have := (le_hi (nI_hi (n := v) (by omega)) (show (0 : Int32).toInt = ((0 : Nat) : Int) by decide)).mp z
    rcases hc with hc | hc
    · exact hc.2
    · omega
  · rintro ⟨h1, h2, h3⟩
    refine ⟨⟨h1, h2⟩, fun z => h3 ?_⟩
    obtain ⟨v, hv, e, hc⟩ := ty_at ty (tn_lt h1 h2 (show (16 : Int32).toInt = ((16 : Nat) : Int) by decide))
    rcases hc with hc | hc
    · rw [e, hc.1]
      decide
    · rw [hc.2] at z
      exact absurd z (nI_ne1 (by omega))
theorem has_iff (ty : tyR P c) (hs : sPA s P) {x q : Int32} : tHas (c.2.1 0) x q ↔ rIsM s x q := by
  unfold tHas rIsM
  rw [told_iff ty hs]
  refine and_congr_right (fun h => ?_)
  rw [ty.2.1 _ (tn_lt h.1 h.2.1 (show (16 : Int32).toInt = ((16 : Nat) : Int) by decide)), hs 0 (by omega)]
theorem ty_tOk (ty : tyR P c) : tOk (c.2.1 0) := fun j hj => by
  obtain ⟨v, hv, e, hc⟩ := ty_at ty hj
  rcases hc with hc | hc
  · rw [hc.2]
    decide
  · rw [hc.2, nI_hi (by omega)]
    omega
/-- a constructor that there is: its numbers -/
theorem has_at (ty : tyR P c) {x q : Int32} (h : tHas (c.2.1 0) x q) : ∃ X K T, X < 16 ∧ K < 8 ∧ x = nI X ∧ q = nI K ∧ 2 ≤ T ∧ T ≤ 9 ∧ P 0 X = nI T ∧ K < T - 1 ∧ ∃ ar, ar ≤ 4 ∧ P 1 (8 * X + K) = nI ar ∧ c.2.1 1 (8 * X + K) = nI ar ∧ ∀ i, i < ar → c.2.1 2 (32 * X + 4 * K + i) = P 2 (32 * X + 4 * K + i) := by
  obtain ⟨⟨⟨h1, h2⟩, h3⟩, h4, h5⟩ := h
  have hX := tn_lt h1 h2 (show (16 : Int32).toInt = ((16 : Nat) : Int) by decide)
  obtain ⟨v, hv, e, hc⟩ := ty_at ty hX
  rcases hc with hc | ⟨hc1, hc2⟩
  · exact absurd hc.2 h3
  · rw [hc2] at h5
    have hK : tn q < v - 1 := tn_lt h4 h5 (nI_hi (by omega))
    have h0 : ¬ P 0 (tn x) = 0 := fun z => by
      rw [e] at z
      have := nI_inj (b := v) (b' := 0) (by omega) (by omega) z
      omega
    obtain ⟨y1, y2⟩ := (ty.2.2 (tn x) (tn q) hX (by omega)).2 h0
    obtain ⟨r1, r2⟩ := tyO_4 ty.1 (8 * tn x + tn q)
    exact ⟨tn x, tn q, v, hX, by omega, tn_nI h1, tn_nI h4, by omega, hv, e, hK, _, r1, r2, y1.trans r2, y2⟩
/-- a call without an answer -/
abbrev EvT (E : gE) (a D : Nat) (YM : gY) (aM : List Value) (J : gS → Prop) : Int32 → gS → Prop := fun k G1 => (∃ fs, G1.1 (a + 24) = some (.inr (13, fs))) ∧ GM E YM D aM G1 (fun o G2 => o = .inl none ∧ (∃ fs, G2.1 (a + 24) = some (.inr (13, fs))) ∧ GM E Y_Model_thrown D [.ref (a + 24)] G2 (rIs (some (.int k)) G2) ∧ J G2)
theorem evT (hl : lI E a G c u n sl s fo) {kk : Int32} (R : GM E YM D aM (mW E G (a + 24) (a + 25) s) (rIs none (mW E G (a + 24) (a + 25) s'))) (hc : s'.1 0 = kk) (hR : RI E a k c u n sl s') : EvT E a D YM aM (LI E a k) kk G := by
  refine ⟨⟨mFs (a + 25) s.1, by rw [← hl.2.1]; exact mw_f⟩, ?_⟩
  have e := hl.2.1
  generalize hG : G = G1 at R ⊢
  rw [hG] at e
  rw [e] at R
  refine R.mono (fun o G2 h => ?_)
  obtain ⟨rfl, rfl⟩ := h
  subst hG
  refine ⟨rfl, ⟨mFs (a + 25) s'.1, mw_f⟩, ?_, Or.inr ⟨c, u, n, sl, s', fo, lI_ref hl, hR⟩⟩
  have K := m_W_thrown (E := E) (d := D) (G := G) (m := a + 24) (n := a + 25) (s := s') (by omega)
  rw [hc] at K
  exact K
theorem zr_type (h : zrR E a k P c u n sl s) (hk : k < 512) {x y : Int32} (hb : ¬ (x < 0 ∨ 15 < x ∨ y < 0 ∨ ¬ y ≤ 8)) (ht : ¬ 0 < s.2 0 (tn x)) : ∃ P', zrR E a (k + 1) P' (cA c 0 (tn x) y) u n sl (wR (wA (wF s 0 0) 0 (tn x) (1 + y)) 1 (blk (s.2 1) (8 * tn x) 8 0)) := by
  obtain ⟨h1, h2, h3, ⟨l, l1, l2, l3, l4, l5⟩, ks, sp, ps, qs, ms, hp⟩ := h
  have hx0 : ¬ x < 0 := fun z => hb (Or.inl z)
  have hx1 : ¬ 16 ≤ x := fun z => hb (Or.inr (Or.inl (i15.mpr z)))
  have hy0 : ¬ y < 0 := fun z => hb (Or.inr (Or.inr (Or.inl z)))
  have hy1 : y ≤ 8 := Classical.byContradiction (fun z => hb (Or.inr (Or.inr (Or.inr z))))
  have hX : tn x < 16 := tn_lt hx0 hx1 (show (16 : Int32).toInt = ((16 : Nat) : Int) by decide)
  have hY : tn y ≤ 8 := (le_hi (tn_hi hy0) (show (8 : Int32).toInt = ((8 : Nat) : Int) by decide)).mp hy1
  have eY : y = nI (tn y) := tn_nI hy0
  generalize hXX : tn x = X at hX ht ⊢
  generalize hYY : tn y = Y at hY eY
  have e1 : 1 + y = nI (Y + 1) := by
    rw [eY]
    exact i_nI (by
      have := add_hi (show (1 : Int32).toInt = ((1 : Nat) : Int) by decide) (nI_hi (n := Y) (by omega)) (by omega)
      rw [Nat.add_comm] at this
      exact this)
  have P0 : P 0 X = 0 := by
    rw [h1 0 (by omega)] at ht
    obtain ⟨v, hv, e, -⟩ := ty_at h2 hX
    rw [e] at ht ⊢
    have : ¬ 0 < v := fun z => ht ((lt_hi (show (0 : Int32).toInt = ((0 : Nat) : Int) by decide) (nI_hi (by omega))).mpr z)
    rw [show v = 0 by omega]
    rfl
  refine ⟨_, fun j _ => rfl, ?_, h3, ⟨l, l1, l2, l3, l4, l5⟩, ks, sp, ps, qs, ms, hp_on hk hp (Nat.le_refl _) (by omega) (by omega) (fun _ _ => rfl) rfl⟩
  have q0 : ∀ t, (wR (wA (wF s 0 0) 0 X (1 + y)) 1 (blk (s.2 1) (8 * X) 8 0)).2 0 t = if t = X then nI (Y + 1) else P 0 t := fun t => by
    rw [← e1, ← h1 0 (by omega)]
    rfl
  have q1 : ∀ t, (wR (wA (wF s 0 0) 0 X (1 + y)) 1 (blk (s.2 1) (8 * X) 8 0)).2 1 t = if 8 * X ≤ t ∧ t < 8 * X + 8 then 0 else P 1 t := fun t => by
    rw [← h1 1 (by omega)]
    rfl
  have q2 : (wR (wA (wF s 0 0) 0 X (1 + y)) 1 (blk (s.2 1) (8 * X) 8 0)).2 2 = P 2 := h1 2 (by omega)
  have w0 : ∀ t, (cA c 0 X y).2.1 0 t = if t = X then y else c.2.1 0 t := fun t => rfl
  have w1 : (cA c 0 X y).2.1 1 = c.2.1 1 := rfl
  have w2 : (cA c 0 X y).2.1 2 = c.2.1 2 := rfl
  obtain ⟨t1, t2, t3⟩ := h2
  refine ⟨⟨fun t => ?_, fun j => ?_, ?_⟩, fun t ht => ?_, fun t w ht hw => ?_⟩
  · rw [q0]
    split
    · exact ⟨Y + 1, by omega, rfl⟩
    · exact t1.1 t
  · rw [q1]
    split
    · exact ⟨0, by omega, rfl⟩
    · exact t1.2.1 j
  · rw [q2]
    exact t1.2.2
  · rw [q0, w0]
    split
    · rw [eY, nI_s1 (by omega)]
    · exact t2 t ht
  · rw [q0, q1, w1, w2, q2]
    by_cases et : t = X
    · subst et
      rw [if_pos rfl, if_pos (by omega)]
      refine ⟨fun z => ?_, fun _ => ⟨(t3 t w hX hw).1 P0, fun i hi => ?_⟩⟩
      · have := nI_inj (b := Y + 1) (b' := 0) (by omega) (by omega) z
        omega
      · exact absurd hi (by simp [tn])
    · rw [if_neg et, if_neg (by omega)]
      exact t3 t w ht hw
theorem k_type (hl : lI E a G c u n sl s fo) (h : RI E a k c u n sl s) (hk : k < 512) : s_type E (D + 41) a (a + 24) (a + 65) G (LI E a (k + 1)) := by
  intro p0 p1
  obtain ⟨fs, ha⟩ := lI_a hl
  have hF := (RI_f6 hl h).2
  have K := m_X_type (E := E) (d := D + 30) (G := zW E G u n sl) (a := a) (c := c) hF p0 p1
  have R := fun G' => m_W_type (E := E) (d := D + 40) (G := G') (m := a + 24) (n := a + 25) (s := s) (by omega) p0 p1
  obtain ⟨-, -, -, P, N, t0, rt, rl, T, V, tm, ob, pp, vv, cc, hr⟩ := id h
  obtain ⟨hP, ty, ⟨-, -, -, -, a7, -⟩, -⟩ := hr
  by_cases q0 : tBad p0 p1
  · rw [kType, if_pos q0] at K
    replace K : GM E Y_Mill_type (D + 40) [.ref a, .int p0, .int p1] (yW E G a c u n sl) (tIs "java/lang/IllegalArgumentException" (yW E G a c u n sl)) := K
    rw [hl.1] at K
    refine w_type p0 p1 (R := EvT E a (D + 41) Y_Model_type [.ref (a + 24), .int p0, .int p1] (LI E a (k + 1))) ha K (fun v G' hq => (tIs_l hq).elim) (fun C G' hq => Or.inl ?_)
    obtain ⟨e, l1, n1, n2, n3⟩ := thr hl hq
    have R := R G'
    rw [rType, if_pos (tBad_r.mp q0)] at R
    exact ⟨e, evT l1 R rfl (RI_0 h hk n1 (by omega) (by omega))⟩
  · have q1 : ¬ (p0 < 0 ∨ 15 < p0 ∨ p1 < 0 ∨ ¬ p1 ≤ 8) := fun z => q0 (tBad_r.mpr z)
    have g0 : ¬ p0 < 0 := fun z => q1 (Or.inl z)
    have g1 : ¬ 16 ≤ p0 := fun z => q1 (Or.inr (Or.inl (i15.mpr z)))
    have et : tTold (c.2.1 0) p0 ↔ 0 < s.2 0 (tn p0) := by
      rw [told_iff ty hP]
      exact ⟨fun z => Int32.not_le.mp z.2.2, fun z => ⟨g0, g1, Int32.not_le.mpr z⟩⟩
    rw [kType, if_neg q0] at K
    by_cases q2 : ¬ c.1 0 = 0 ∨ tTold (c.2.1 0) p0
    · rw [if_pos q2] at K
      replace K : GM E Y_Mill_type (D + 40) [.ref a, .int p0, .int p1] (yW E G a c u n sl) (tIs "java/lang/IllegalStateException" (yW E G a c u n sl)) := K
      rw [hl.1] at K
      refine w_type p0 p1 (R := EvT E a (D + 41) Y_Model_type [.ref (a + 24), .int p0, .int p1] (LI E a (k + 1))) ha K (fun v G' hq => (tIs_l hq).elim) (fun C G' hq => Or.inr ?_)
      obtain ⟨e, l1, n1, n2, n3⟩ := thr hl hq
      have R := R G'
      rw [rType, if_neg q1, if_pos (q2.elim (fun z => Or.inr (fun y => z (a7.mpr y))) (fun z => Or.inl (et.mp z)))] at R
      exact ⟨e, evT l1 R rfl (RI_0 h hk n1 (by omega) (by omega))⟩
    · rw [if_neg q2] at K
      replace K : GM E Y_Mill_type (D + 40) [.ref a, .int p0, .int p1] (yW E G a c u n sl) (rIs none (yW E G a (cA c 0 (tn p0) p1) u n sl)) := K
      rw [hl.1] at K
      have s4 : s.1 4 = 0 := a7.mp (Classical.byContradiction (fun z => q2 (Or.inl z)))
      have nt : ¬ 0 < s.2 0 (tn p0) := fun z => q2 (Or.inr (et.mpr z))
      refine w_type p0 p1 (R := EvT E a (D + 41) Y_Model_type [.ref (a + 24), .int p0, .int p1] (LI E a (k + 1))) ha K (fun v G' hq => ?_) (fun C G' hq => by cases hq.1)
      obtain ⟨e3, rfl⟩ := hq
      cases e3
      refine ⟨rfl, ?_⟩
      have R := R (yW E G a (cA c 0 (tn p0) p1) u n sl)
      rw [rType, if_neg q1, if_neg (fun z => z.elim nt (fun y => y s4))] at R
      obtain ⟨P0, hz⟩ := RI_zr h s4
      obtain ⟨P1, hz'⟩ := zr_type hz hk q1 nt
      exact evT (lI_cl hl h.2.1 h.2.2.1) R rfl (zr_RI h.1 h.2.1 h.2.2.1 (by omega) hz')
end NR
