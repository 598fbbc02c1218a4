/-! Steps that leave the cases: what holds goes on -/
section NM
variable {E : gE} {a k N N' t0 n sl n' sl' : Nat} {P P' : Nat → Nat → Int32} {rt rt' : Nat → Nat} {rl rl' : Nat → List Nat} {T T' V V' : Nat → Prop} {tm tm' : Nat → Nat} {ob ob' : Nat → Int32} {pp vv cc pp' vv' : List Nat} {c c' : cS} {u u' : uS} {s s' : mS}
theorem hb_ext {K : Nat → Prop} (h : hbR E a k P N t0 rt rl T tm ob cc c u n sl s) (hk : k < 512) (wf : wfA P N (posF rt rl cc)) (wk : wfK P N) (h16 : t0 < 16) (ht0 : ∀ π, tyP P t0 π < 16) (hcp : wfC P N (posF rt rl cc) t0 cc.length (cpF cc)) (g : agP P P' N) (g12 : P' 12 = P 12) (hN : N ≤ N') (hT : keT P N (tCs T rt cc) (tCs T' rt' cc) tm tm' ob ob') (tw : tmW P' u' a tm' ob' (tCs T' rt' cc)) (hK : cK P' cc.length (cpF cc) tm' c')
    (hpos : ∀ v, v < N → ¬ 1000 ∈ posF rt rl cc v → posF rt' rl' cc v = posF rt rl cc v) (hf : kFr K u u' n) (hK7 : ∀ k, K k → k = 7) (hn : n ≤ n') (hn2 : n' ≤ n + 4) (hsl : sl' ≤ sl + 40) (ho : uOk u' a n') (hc : ∀ j, j ≠ 0 → j ≠ 4 → j ≠ 5 → c'.1 j = c.1 j) (hD : c'.2.2.2 = c.2.2.2) (hc4 : c'.2.1 4 = c.2.1 4) (hc5 : c'.2.1 5 = c.2.1 5)
    (hs : sPA s' P') (h19 : s'.1 19 = s.1 19) (h1 : ∀ j, (20 ≤ j ∧ j ≤ 26) ∨ j = 34 ∨ j = 47 → s'.1 j = s.1 j) (h2 : ∀ j, 13 ≤ j → j ≤ 24 → s'.2 j = s.2 j) : hbR E a (k + 1) P' N' t0 rt' rl' T' tm' ob' cc c' u' n' sl' s' := by
  obtain ⟨ks, sp, ps, qs, ms, hp, hb⟩ := h
  have rm := rm_all
  obtain ⟨hp', hx, hq⟩ := hp_gen (c' := c') (sl' := sl') (B' := E.1.heap.size + 66 + 4 * (k + 1)) (SS' := 2698980 + 40 * (k + 1)) hp hf hK7 hn ho (fun j hj => hc j (by omega) (by omega) (by omega)) hD (by omega) (by omega) (by omega) (by omega)
  have eT := aTree_ag wf wk h16 ht0 g g12 hcp
  refine ⟨ks, sp, ps, qs, ms, hp', ?_⟩
  rcases hb with ⟨b1, b2, b3⟩ | ⟨b1, b2, b3, b4, st, nk, Z, pl, X, b5, b6, b7⟩
  · refine Or.inl ⟨by rw [hc 1 (by omega) (by omega) (by omega)]; exact b1, by rw [h19]; exact b2, fun z => ?_⟩
    rw [eT]
    exact b3 (by rw [hc 2 (by omega) (by omega) (by omega)] at z; exact z)
  · refine Or.inr ⟨by rw [hc 1 (by omega) (by omega) (by omega)]; exact b1, by rw [hc 2 (by omega) (by omega) (by omega)]; exact b2, by rw [h19]; exact b3, b4, st, nk, Z, pl, X, by rw [eT]; exact b5, ?_, ?_⟩
    · exact clT_ext b6 hp' tw hK wf.1 g hN hT (fun y hy => hx y (List.mem_append_left _ hy)) hq (fun j _ _ => hc j (by omega) (by omega) (by omega)) hc4 hc5
    · exact eSt_ext b7 hs g hN hpos (clT_rN b6) h1 h2
/-- terms below n are as they were -/
theorem tmR_u (h : tmR P N T V tm ob a n u) (wf : wfN P N) (ty : tyO P) (hf : kFr (fun _ => False) u u' n) (hn : n ≤ n') : tmR P N T V tm ob a n' u' := by
  obtain ⟨x1, x2, x3, x4⟩ := h
  have f : ∀ k, T k → (u'.1 (tm k) = u.1 (tm k) ∧ u'.2.2.1 (tm k) = u.2.2.1 (tm k)) ∧ u'.1 (tm k + 1) = u.1 (tm k + 1) ∧ u'.2.1 (tm k + 1) = u.2.1 (tm k + 1) ∧ u'.2.2.2 (tm k + 1) = u.2.2.2 (tm k + 1) := fun k hk => by
    have b := (x3 k hk).1
    have w1 := (x2 k hk).1.1
    have w2 := (x2 k hk).2.1.1
    have f1 := hf.2 (tm k) (by omega) (by omega) id
    have f2 := hf.2 (tm k + 1) (by omega) (by omega) id
    exact ⟨⟨hf.1 _ (by omega), f1.2.1⟩, hf.1 _ (by omega), f2.1, f2.2.2⟩
  refine ⟨x1, tmW_cg wf agP_rf x1 x2 (fun _ q => q) (fun _ _ => rfl) (fun _ _ => rfl) (fun k hk => ⟨(f k hk).1.1, (f k hk).2.1, (f k hk).2.2.1, (f k hk).2.2.2, fun j _ _ => by rw [(f k hk).1.2]⟩) ty, fun k hk => ?_, x4⟩
  rw [(f k hk).1.2]
  exact ⟨by have := (x3 k hk).1; omega, (x3 k hk).2⟩
/-- a call that changes nothing -/
theorem rI_q (h : rI E a k P N t0 rt rl T V tm ob pp vv cc c u n sl s) (hk : k < 512) (hf : kFr (fun _ => False) u u' n) (ho : uOk u' a n') (hn : n ≤ n') (hn2 : n' ≤ n + 4) (hsl : sl' ≤ sl + 40) (h1 : ∀ j, j ≠ 0 → j ≠ 58 → s'.1 j = s.1 j) (h2 : ∀ j, j ≠ 36 → j ≠ 39 → s'.2 j = s.2 j) : rI E a (k + 1) P N t0 rt rl T V tm ob pp vv cc c u' n' sl' s' := by
  have W := rI_wf h
  have h0 := h
  obtain ⟨a1, a2, ⟨a3, a4, a5, a6, a7, a8, a9⟩, a10, a11, a12, a13⟩ := h
  have hs : sPA s' P := fun j hj => (h2 j (by omega) (by omega)).trans (a1 j hj)
  have R := tmR_u a10 W.1.1 a2.1 hf hn
  refine ⟨hs, a2, ⟨by rw [h1 5 (by omega) (by omega)]; exact a3, by omega, by omega, by rw [h1 4 (by omega) (by omega)]; exact a6, by rw [h1 4 (by omega) (by omega)]; exact a7, a8, a9⟩, R, ?_, ?_, ?_⟩
  · obtain ⟨x1, x2, x3, x4, x5, x6, x7, x8, x9, x10, x11⟩ := a11
    exact ⟨x1, x2, by rw [h1 14 (by omega) (by omega)]; exact x3, by rw [h1 15 (by omega) (by omega)]; exact x4, x5, x6, x7, x8, x9, by rw [h1 16 (by omega) (by omega)]; exact x10, x11⟩
  · obtain ⟨l, y1, y2, y3, y4, y5⟩ := a12
    refine ⟨l, y1, y2, by rw [h1 54 (by omega) (by omega)]; exact y3, by rw [h2 37 (by omega) (by omega)]; exact y4, by rw [h2 38 (by omega) (by omega)]; exact y5⟩
  · exact hb_ext (K := fun _ => False) a13 hk W.1 W.2.2.1 W.2.2.2.2.2.2.1 W.2.2.2.2.1 W.2.2.2.1 agP_rf rfl (Nat.le_refl _) (fun k hk => ⟨(a10.1 k hk.1).1, hk, rfl, rfl, rfl⟩) (tmW_sub R.2.1 (fun k hk => hk.1)) (rI_cK a2 a11) (fun _ _ _ => rfl) hf (fun _ z => z.elim) hn hn2 hsl ho (fun _ _ _ _ => rfl) rfl rfl rfl hs (h1 19 (by omega) (by omega)) (fun j hj => h1 j (by omega) (by omega)) (fun j _ _ => h2 j (by omega) (by omega))
theorem uTm_ok {ty kd wh sz nm : Int32} {tp : List Nat} (h : uOk u a n) (ha : a + 24 ≤ n) : uOk (uTm u n ty kd wh sz nm tp) a (n + 2) := fun q hq => by
  by_cases e : q < n ∨ n + 2 ≤ q
  · rw [(uTm_o e).1] at hq
    have := h q hq
    omega
  · omega
theorem uTm_fr {ty kd wh sz nm : Int32} {tp : List Nat} : kFr (fun _ => False) u (uTm u n ty kd wh sz nm tp) n := ⟨fun q hq => (uTm_o (Or.inl hq)).1, fun q hq _ _ => (uTm_o (Or.inl hq)).2⟩
theorem mem_dis {A Bl : List Nat} (h : (A ++ Bl).Nodup) {x : Nat} (h1 : x ∈ A) : ¬ x ∈ Bl := fun h2 => (List.nodup_append.mp h).2.2 x h1 x h2 rfl
/-- a new node that is no name -/
theorem rI_new (h : rI E a k P N t0 rt rl T V tm ob pp vv cc c u n sl s) (hk : k < 512) (ha : a + 24 ≤ n) {ns : List Nat} {e : Nat → List Nat} {tyx kd wh sz nm : Int32} {x4 : Nat} (g : agP P P' N) (g11 : P' 11 = P 11) (g12 : P' 12 = P 12) (hs : sPA s' P') (s5 : s'.1 5 = nI (N + 1)) (s4 : ¬ s'.1 4 = 0) (s14 : s'.1 14 = nI pp'.length) (s15 : s'.1 15 = nI vv'.length) (sr : ∀ j, 16 ≤ j → s'.1 j = s.1 j) (sa : ∀ j, 13 ≤ j → s'.2 j = s.2 j)
    (c0 : ¬ c'.1 0 = 0) (cr : ∀ j, j ≠ 0 → j ≠ 4 → j ≠ 5 → c'.1 j = c.1 j) (c21 : c'.2.1 = c.2.1) (ct : ∀ j, j ≠ 1 → j ≠ 2 → c'.2.2.1 j = c.2.2.1 j) (cd : c'.2.2.2 = c.2.2.2) (p9 : ∀ i x, pp'[i]? = some x → P' 9 i = nI x) (p10 : ∀ i x, vv'[i]? = some x → P' 10 i = nI x) (q1 : pil c' 1 4 (pp'.map (upN tm N n))) (q2 : pil c' 2 5 (vv'.map (upN tm N n)))
    (hpp : ∀ x ∈ pp', x = N ∨ (x ∈ pp ∧ ¬ x ∈ ns)) (hvv : ∀ x ∈ vv', x = N ∨ (x ∈ vv ∧ ¬ x ∈ ns)) (hnd : (pp' ++ (vv' ++ cc)).Nodup) (hNp : N ∈ pp' → tn (P' 7 N) ≤ 24 ∧ ¬ V' N) (hNv : N ∈ vv' → V' N) (hns : ∀ p ∈ ns, (p ∈ pp ∨ p ∈ vv) ∧ T p ∧ rt p = p ∧ rl p = []) (nod : ndO P' (rtN rt ns N) (rlN rt rl ns e N) N)
    (h4 : ¬ P' 3 N = 4) (e0 : tyx = P' 4 N) (e1 : kd = kdC (P' 3 N)) (e2 : aK P' N → wh = P' 5 N) (e7 : sz = P' 7 N) (e8 : nm = P' 8 N) (hn6 : ∀ i v, ns[i]? = some v → P' 6 (4 * N + i) = nI v) (n3 : P' 3 N = 3 → ns.length = 2) (n2 : P' 3 N = 2 → ns.length = aAr P' N) (n1 : P' 3 N = 1 → ns = []) (hV : ∀ v, V' v → V v ∨ (v = N ∧ (P' 3 N = 1 ∨ P' 3 N = 2) ∧ ∀ p ∈ ns, V p)) (hV' : ∀ v, V v → V' v) (hx4 : x4 ≤ 4) :
    rI E a (k + 1) P' (N + 1) t0 (rtN rt ns N) (rlN rt rl ns e N) (fun k => T k ∨ k = N) V' (upN tm N n) (upd ob N 0) pp' vv' cc c' (uTm u n tyx kd wh sz nm (ns.map tm)) (n + 2) (sl + 7 + x4) s' := by
  have W := rI_wf h
  obtain ⟨a1, a2, ⟨a3, a4, a5, a6, a7, a8, a9⟩, a10, a11, a12, a13⟩ := h
  have hTN : ∀ k, T k → k < N := fun k hk => (a10.1 k hk).1
  have wfn := W.1.1
  have R := tmR_new (V' := V') (ns := ns) a10 wfn (by omega) a2.1 g ha h4 e0 e1 e2 e7 e8 (fun i v hi => ⟨hn6 i v hi, (hns v (List.mem_of_getElem? hi)).2.1⟩) n3 n2 n1 hV hV'
  obtain ⟨x1, x2, x3, x4', x5, x6, x7, x8, x9, x10, x11, x12, x13, x14⟩ := a11
  have nsC : ∀ p ∈ ns, ¬ p ∈ cc := fun p hp => by
    rcases (hns p hp).1 with z | z
    · exact fun y => mem_dis x9 z (List.mem_append_right _ y)
    · exact mem_dis (List.nodup_append.mp x9).2.1 z
  have ctm : ∀ x, x ∈ cc → ∃ i, cc[i]? = some x := fun x hx => by
    obtain ⟨i, hi, e⟩ := List.getElem_of_mem hx
    exact ⟨i, by rw [List.getElem?_eq_getElem hi, e]⟩
  have hT' : ∀ x, T x → upN tm N n x = tm x := fun x hx => upN_ne (by have := hTN x hx; omega)
  have rC : ∀ k, k < N → rt k ∈ cc → rtN rt ns N k = rt k ∧ rlN rt rl ns e N k = rl k := fun k hk hr => rN_case hk (fun z => nsC _ z hr)
  have tyR' : tyR P' c' := by
    obtain ⟨t1, t2, t3⟩ := a2
    refine ⟨⟨by rw [g.1]; exact t1.1, by rw [g.2.1]; exact t1.2.1, by rw [g.2.2.1]; exact t1.2.2⟩, ?_, ?_⟩
    · rw [c21, g.1]
      exact t2
    · rw [c21, g.1, g.2.1, g.2.2.1]
      exact t3
  have piR' : piR P' t0 (rtN rt ns N) (rlN rt rl ns e N) (fun k => T k ∨ k = N) V' (upN tm N n) pp' vv' cc c' s' := by
    refine ⟨q1, q2, s14, s15, p9, p10, fun x hx => ?_, fun x hx => ?_, hnd, by rw [sr 16 (by omega)]; exact x10, by rw [cr 3 (by omega) (by omega) (by omega)]; exact x11, x12, x13, fun i x hi => ?_⟩
    · rcases hpp x hx with rfl | ⟨hx1, hx2⟩
      · exact ⟨Or.inr rfl, (hNp hx).2, if_pos rfl, if_pos rfl, (hNp hx).1⟩
      · obtain ⟨y1, y2, y3, y4, y5⟩ := x7 x hx1
        have hxN := hTN x y1
        have := rN_other (rt := rt) (rl := rl) (ns := ns) (e := e) (N := N) hxN y3 y4 hx2
        refine ⟨Or.inl y1, fun z => ?_, this.1, this.2, by rw [(g.2.2.2.1 x hxN).2.2.2.1]; exact y5⟩
        rcases hV x z with z | z
        · exact y2 z
        · omega
    · rcases hvv x hx with rfl | ⟨hx1, hx2⟩
      · exact ⟨hNv hx, if_pos rfl, if_pos rfl⟩
      · obtain ⟨y1, y3, y4⟩ := x8 x hx1
        have hxN := hTN x (a10.2.2.2.2.2.2 x y1)
        have := rN_other (rt := rt) (rl := rl) (ns := ns) (e := e) (N := N) hxN y3 y4 hx2
        exact ⟨hV' x y1, this.1, this.2⟩
    · obtain ⟨y1, y2, y3, y4, y5, y6, y7, y8, y9⟩ := x14 i x hi
      have hxN := hTN x y5
      have hxc : x ∈ cc := List.mem_of_getElem? hi
      have := rC x hxN (by rw [y6]; exact hxc)
      rw [g11, g12, c21, ct 0 (by omega) (by omega), hT' x y5, this.1, this.2, (g.2.2.2.1 x hxN).2.2.2.1, (g.2.2.2.1 x hxN).2.1]
      exact ⟨y1, y2, y3, y4, Or.inl y5, y6, y7, y8, y9⟩
  refine ⟨hs, tyR', ⟨s5, by omega, by omega, fun z => absurd z s4, ⟨fun z => absurd z c0, fun z => absurd z s4⟩, fun j hj => ?_, rtO_N a9⟩, R, piR', ?_, ?_⟩
  · by_cases ej : j = N
    · rw [ej]
      exact nod
    · exact ndO_ag g (by omega) a2.1 reR_N (by omega) (a8 j (by omega))
  · obtain ⟨l, y1, y2, y3, y4, y5⟩ := a12
    refine ⟨l, y1, by rw [cr 21 (by omega) (by omega) (by omega)]; exact y2, by rw [sr 54 (by omega)]; exact y3, by rw [c21, sa 37 (by omega)]; exact y4, ?_⟩
    rw [ct 3 (by omega) (by omega), sa 38 (by omega)]
    intro k hk
    rcases y5 k hk with z | ⟨v, z1, z2, z3⟩
    · exact Or.inl z
    · exact Or.inr ⟨v, hV' v z1, by rw [hT' v (a10.2.2.2.2.2.2 v z1)]; exact z2, z3⟩
  · have hu : uOk u a n := by
      obtain ⟨ks, sp, ps, qs, ms, hp, -⟩ := a13
      exact hpOk_un hp
    refine hb_ext (K := fun _ => False) a13 hk W.1 W.2.2.1 W.2.2.2.2.2.2.1 W.2.2.2.2.1 W.2.2.2.1 g g12 (by omega) (fun k hk => ?_) (tmW_sub R.2.1 (fun k hk => hk.1)) (rI_cK tyR' piR') (fun v hv hp => ?_) uTm_fr (fun _ z => z.elim) (by omega) (by omega) (by omega) (uTm_ok hu ha) cr cd (by rw [c21]) (by rw [c21]) hs (sr 19 (by omega)) (fun j hj => sr j (by omega)) (fun j h1 _ => sa j h1)
    · have hkN := hTN k hk.1
      have hb := bse_ok wfn 512 k (by omega) hkN
      refine ⟨hkN, ⟨Or.inl hk.1, by rw [(rC k hkN hk.2).1]; exact hk.2⟩, hT' k hk.1, upN_ne (by omega), if_neg (by omega)⟩
    · have hr : rt v ∈ cc := Classical.byContradiction (fun z => hp (by
        unfold posF
        rw [if_neg z]
        simp))
      unfold posF
      rw [(rC v hv hr).1, (rC v hv hr).2]
end NM
