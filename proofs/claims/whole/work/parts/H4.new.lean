/-! A new node upon a pile -/
section NV
variable {E : gE} {a k n n' sl sl' D N t0 t1 : Nat} {G G' : gS} {c c' : cS} {u u' : uS} {s s' s1 : mS} {fo : Nat → Int64} {P P' : Nat → Nat → Int32} {rt : Nat → Nat} {rl : Nat → List Nat} {T V : Nat → Prop} {tm : Nat → Nat} {ob : Nat → Int32} {pp vv cc l0 ns : List Nat} {kd ty wh whC sz nm : Int32}
/-- the reference with a new node N, before it comes upon the pile -/
def nwS (s s1 : mS) (N : Nat) (ns : List Nat) (kd ty wh sz nm : Int32) : Prop := s1.1 0 = 0 ∧ s1.1 5 = nI (N + 1) ∧ (∀ j, j ≠ 0 → j ≠ 5 → j ≠ 14 → j ≠ 15 → s1.1 j = s.1 j) ∧ (∀ j, j ≠ 3 → j ≠ 4 → j ≠ 5 → j ≠ 6 → j ≠ 7 → j ≠ 8 → s1.2 j = s.2 j) ∧ (∀ i, i ≠ N → s1.2 3 i = s.2 3 i ∧ s1.2 4 i = s.2 4 i ∧ s1.2 5 i = s.2 5 i ∧ s1.2 7 i = s.2 7 i ∧ s1.2 8 i = s.2 8 i) ∧ s1.2 3 N = kd ∧ s1.2 4 N = ty ∧ s1.2 5 N = wh ∧ s1.2 7 N = sz ∧ s1.2 8 N = nm ∧ (∀ i, i < 4 * N → s1.2 6 i = s.2 6 i) ∧ ∀ i v, ns[i]? = some v → s1.2 6 (4 * N + i) = nI v
theorem nw_node (h5 : s.1 5 = nI N) (hN : N < 512) : nwS s (rNode (wF s 0 0) kd ty wh sz nm) N [] kd ty wh sz nm := by
  have e5 : tn ((wF s 0 0).1 5) = N := by
    show tn (s.1 5) = N
    rw [h5, tnI (by omega)]
  unfold rNode
  rw [e5]
  refine ⟨rfl, ?_, fun j h0 h5 _ _ => (if_neg h5).trans (if_neg h0), fun j h3 h4 h5 _ h7 h8 => (if_neg h8).trans ((if_neg h7).trans ((if_neg h5).trans ((if_neg h4).trans (if_neg h3)))), fun i hi => ⟨if_neg hi, if_neg hi, if_neg hi, if_neg hi, if_neg hi⟩, if_pos rfl, if_pos rfl, if_pos rfl, if_pos rfl, if_pos rfl, fun _ _ => rfl, fun i v hi => by cases hi⟩
  show s.1 5 + 1 = nI (N + 1)
  rw [h5]
  exact nI_ad (by omega)
theorem nd_lt (h : rI E a k P N t0 rt rl T V tm ob pp vv cc c u n sl s) : (∀ x ∈ pp, x < N) ∧ (∀ x ∈ vv, x < N) ∧ ∀ x ∈ cc, x < N := by
  obtain ⟨-, -, -, tr, ⟨-, -, -, -, -, -, x7, x8, -, -, -, -, -, x14⟩, -⟩ := h
  refine ⟨fun x hx => (tr.1 x (x7 x hx).1).1, fun x hx => (tr.1 x (tr.2.2.2.2.2.2 x (x8 x hx).1)).1, fun x hx => ?_⟩
  obtain ⟨i, hi, e⟩ := List.getElem_of_mem hx
  exact (tr.1 x (x14 i x (by rw [List.getElem?_eq_getElem hi, e])).2.2.2.2.1).1
theorem nd_new {R : List Nat} (h : ((l0 ++ ns) ++ R).Nodup) (hl : ∀ x ∈ l0 ++ ns, x < N) (hr : ∀ x ∈ R, x < N) : ((l0 ++ [N]) ++ R).Nodup := by
  have e : ((l0 ++ [N]) ++ R).Perm (N :: (l0 ++ R)) := by
    rw [List.append_assoc]
    exact List.perm_middle
  rw [e.nodup_iff, List.nodup_cons]
  refine ⟨fun z => ?_, ?_⟩
  · rcases List.mem_append.mp z with z | z
    · exact absurd (hl N (List.mem_append_left _ z)) (by omega)
    · exact absurd (hr N z) (by omega)
  · exact List.Nodup.sublist (List.Sublist.append (List.sublist_append_left _ _) (List.Sublist.refl _)) h
theorem nd_newV (h : (pp ++ ((l0 ++ ns) ++ cc)).Nodup) (hp : ∀ x ∈ pp, x < N) (hl : ∀ x ∈ l0 ++ ns, x < N) (hr : ∀ x ∈ cc, x < N) : (pp ++ ((l0 ++ [N]) ++ cc)).Nodup := by
  rw [List.nodup_append] at h ⊢
  obtain ⟨h1, h2, h3⟩ := h
  refine ⟨h1, nd_new h2 hl hr, fun x hx y hy e => ?_⟩
  subst e
  rcases List.mem_append.mp hy with hy | hy
  · rcases List.mem_append.mp hy with hy | hy
    · exact h3 x hx x (List.mem_append_left _ (List.mem_append_left _ hy)) rfl
    · rw [List.mem_singleton.mp hy] at hx
      exact absurd (hp N hx) (by omega)
  · exact h3 x hx x (List.mem_append_right _ hy) rfl
theorem map_up {l : List Nat} (h : ∀ x ∈ l, x < N) : l.map (upN tm N n) = l.map tm := List.map_congr_left (fun x hx => upN_ne (by have := h x hx; omega))
theorem get_new {l0 : List Nat} {i x N : Nat} (h : (l0 ++ [N])[i]? = some x) : (i = l0.length ∧ x = N) ∨ (i < l0.length ∧ l0[i]? = some x) := by
  have hlt := (List.getElem?_eq_some_iff.mp h).1
  rw [List.length_append, List.length_singleton] at hlt
  by_cases e : i = l0.length
  · subst e
    rw [get_last] at h
    cases h
    exact Or.inl ⟨rfl, rfl⟩
  · rw [List.getElem?_append_left (by omega)] at h
    exact Or.inr ⟨by omega, h⟩
/-- upon the patterns -/
theorem rI_nwP (h : rI E a k P N t0 rt rl T V tm ob (l0 ++ ns) vv cc c u n sl s) (hk : k < 512) (ha : a + 24 ≤ n) (hw : nwS s s1 N ns kd ty wh sz nm) (h14 : s1.1 14 = nI l0.length) (h15 : s1.1 15 = s.1 15) (hpt : ptF c c' 1 4 (l0.map tm ++ [n])) {e : Nat → List Nat} (hP' : P' = (wF (wA (wF s1 4 1) 9 l0.length (nI N)) 14 (nI (l0.length + 1))).2) (nod : ndO P' (rtN rt ns N) (rlN rt rl ns e N) N) (h4 : ¬ kd = 4) (e2 : aK P' N → whC = wh) (hsz : tn sz ≤ 24) (n3 : kd = 3 → ns.length = 2) (n2 : kd = 2 → ns.length = aAr P' N) (n1 : kd = 1 → ns = []) {x4 : Nat} (hx4 : x4 ≤ 4) :
    rI E a (k + 1) P' (N + 1) t0 (rtN rt ns N) (rlN rt rl ns e N) (fun k => T k ∨ k = N) V (upN tm N n) (upd ob N 0) (l0 ++ [N]) vv cc c' (uTm u n ty (kdC kd) whC sz nm (ns.map tm)) (n + 2) (sl + 7 + x4) (wF (wA (wF s1 4 1) 9 l0.length (nI N)) 14 (nI (l0.length + 1))) := by
  have hlt := nd_lt h
  have h0 := h
  obtain ⟨a1, -, -, tr, ⟨x1, x2, x3, x4', x5, x6, x7, x8, x9, x10, x11, x12, x13, x14⟩, -⟩ := h
  obtain ⟨w0, w5, w1, w2, wi, k3, k4, k5, k7, k8, w6, wn⟩ := hw
  obtain ⟨p1, p2, p3, p4, p5, p6⟩ := hpt
  have hl0 : ∀ x ∈ l0, x < N := fun x hx => hlt.1 x (List.mem_append_left _ hx)
  have Pj : ∀ j, j ≠ 9 → P' j = s1.2 j := fun j hj => by rw [hP']; exact if_neg hj
  have P9 : ∀ i, P' 9 i = if i = l0.length then nI N else P 9 i := fun i => by
    rw [hP', ← a1 9 (by omega), ← w2 9 (by omega) (by omega) (by omega) (by omega) (by omega) (by omega)]
    rfl
  have PP : ∀ j, j < 13 → j ≠ 9 → j ≠ 3 → j ≠ 4 → j ≠ 5 → j ≠ 6 → j ≠ 7 → j ≠ 8 → P' j = P j := fun j hj h9 y3 y4 y5 y6 y7 y8 => by rw [Pj j h9, w2 j y3 y4 y5 y6 y7 y8, a1 j hj]
  have ag : agP P P' N := ⟨PP 0 (by omega) (by omega) (by omega) (by omega) (by omega) (by omega) (by omega) (by omega), PP 1 (by omega) (by omega) (by omega) (by omega) (by omega) (by omega) (by omega) (by omega), PP 2 (by omega) (by omega) (by omega) (by omega) (by omega) (by omega) (by omega) (by omega), fun i hi => by
    obtain ⟨z3, z4, z5, z7, z8⟩ := wi i (by omega)
    rw [Pj 3 (by omega), Pj 4 (by omega), Pj 5 (by omega), Pj 7 (by omega), Pj 8 (by omega), z3, z4, z5, z7, z8, a1 3 (by omega), a1 4 (by omega), a1 5 (by omega), a1 7 (by omega), a1 8 (by omega)]
    exact ⟨rfl, rfl, rfl, rfl, rfl⟩, fun i hi => by rw [Pj 6 (by omega), w6 i hi, a1 6 (by omega)]⟩
  have nsT : ∀ p ∈ ns, (p ∈ l0 ++ ns ∨ p ∈ vv) ∧ T p ∧ rt p = p ∧ rl p = [] := fun p hp => by
    have := x7 p (List.mem_append_right _ hp)
    exact ⟨Or.inl (List.mem_append_right _ hp), this.1, this.2.2.1, this.2.2.2.1⟩
  refine rI_new (pp' := l0 ++ [N]) (vv' := vv) (V' := V) (ns := ns) h0 hk ha ag (PP 11 (by omega) (by omega) (by omega) (by omega) (by omega) (by omega) (by omega) (by omega)) (PP 12 (by omega) (by omega) (by omega) (by omega) (by omega) (by omega) (by omega) (by omega)) (fun j _ => by rw [hP']) ?_ ?_ ?_ ?_ (fun j hj => ?_) (fun j hj => ?_) (by rw [p2]; decide) (fun j j0 j4 _ => p3 j j0 j4) p4 (fun j j1 _ => p5 j j1) p6 (fun i x hi => ?_) ?_ ?_ ?_ (fun x hx => ?_) (fun x hx => ?_) ?_ (fun _ => ⟨by rw [Pj 7 (by omega), k7]; exact hsz, fun z => ?_⟩) (fun z => ?_) nsT nod (by rw [Pj 3 (by omega), k3]; exact h4) (by rw [Pj 4 (by omega), k4]) (by rw [Pj 3 (by omega), k3]) (fun z => by rw [Pj 5 (by omega), k5]; exact e2 z) (by rw [Pj 7 (by omega), k7]) (by rw [Pj 8 (by omega), k8]) (fun i v hi => by rw [Pj 6 (by omega)]; exact wn i v hi) (by rw [Pj 3 (by omega), k3]; exact n3) (by rw [Pj 3 (by omega), k3]; exact n2) (by rw [Pj 3 (by omega), k3]; exact n1) (fun v hv => Or.inl hv) (fun v hv => hv) hx4
  · show s1.1 5 = _
    exact w5
  · show ¬ (1 : Int32) = 0
    decide
  · rw [List.length_append, List.length_singleton]
    rfl
  · show s1.1 15 = _
    rw [h15, x4']
  · refine (if_neg (by omega)).trans ((if_neg (by omega)).trans (w1 j (by omega) (by omega) (by omega) (by omega)))
  · refine (if_neg (by omega)).trans (w2 j (by omega) (by omega) (by omega) (by omega) (by omega) (by omega))
  · rw [P9]
    rcases get_new hi with ⟨rfl, rfl⟩ | ⟨hi1, hi2⟩
    · rw [if_pos rfl]
    · rw [if_neg (by omega)]
      exact x5 i x (by rw [List.getElem?_append_left hi1]; exact hi2)
  · rw [PP 10 (by omega) (by omega) (by omega) (by omega) (by omega) (by omega) (by omega) (by omega)]
    exact x6
  · rw [List.map_append, map_up hl0]
    show pil c' 1 4 (l0.map tm ++ [upN tm N n N])
    rw [upN_at]
    exact p1
  · rw [map_up hlt.2.1]
    exact ⟨(p3 5 (by omega) (by omega)).trans x2.1, x2.2.1, fun i t hi => by rw [p5 2 (by omega)]; exact x2.2.2 i t hi⟩
  · rcases List.mem_append.mp hx with hx | hx
    · exact Or.inr ⟨List.mem_append_left _ hx, fun z => (List.nodup_append.mp (List.nodup_append.mp x9).1).2.2 x hx x z rfl⟩
    · exact Or.inl (List.mem_singleton.mp hx)
  · refine Or.inr ⟨hx, fun z => ?_⟩
    exact mem_dis x9 (List.mem_append_right _ z) (List.mem_append_left _ hx)
  · exact nd_new x9 hlt.1 (fun x hx => (List.mem_append.mp hx).elim (hlt.2.1 x) (hlt.2.2 x))
  · have := (tr.2.2.2.2.2.1 N z).1
    omega
  · exact absurd (hlt.2.1 N z) (by omega)
/-- upon the values -/
theorem rI_nwV (h : rI E a k P N t0 rt rl T V tm ob pp (l0 ++ ns) cc c u n sl s) (hk : k < 512) (ha : a + 24 ≤ n) (hw : nwS s s1 N ns kd ty wh sz nm) (h14 : s1.1 14 = s.1 14) (h15 : s1.1 15 = nI l0.length) (hpt : ptF c c' 2 5 (l0.map tm ++ [n])) {e : Nat → List Nat} (hP' : P' = (wF (wA (wF s1 4 1) 10 l0.length (nI N)) 15 (nI (l0.length + 1))).2) (nod : ndO P' (rtN rt ns N) (rlN rt rl ns e N) N) (hkd : kd = 1 ∨ kd = 2) (n2 : kd = 2 → ns.length = aAr P' N) (n1 : kd = 1 → ns = []) {x4 : Nat} (hx4 : x4 ≤ 4) :
    rI E a (k + 1) P' (N + 1) t0 (rtN rt ns N) (rlN rt rl ns e N) (fun k => T k ∨ k = N) (fun v => V v ∨ v = N) (upN tm N n) (upd ob N 0) pp (l0 ++ [N]) cc c' (uTm u n ty (kdC kd) wh sz nm (ns.map tm)) (n + 2) (sl + 7 + x4) (wF (wA (wF s1 4 1) 10 l0.length (nI N)) 15 (nI (l0.length + 1))) := by
  have hlt := nd_lt h
  have h0 := h
  obtain ⟨a1, -, -, tr, ⟨x1, x2, x3, x4', x5, x6, x7, x8, x9, x10, x11, x12, x13, x14⟩, -⟩ := h
  obtain ⟨w0, w5, w1, w2, wi, k3, k4, k5, k7, k8, w6, wn⟩ := hw
  obtain ⟨p1, p2, p3, p4, p5, p6⟩ := hpt
  have hl0 : ∀ x ∈ l0, x < N := fun x hx => hlt.2.1 x (List.mem_append_left _ hx)
  have Pj : ∀ j, j ≠ 10 → P' j = s1.2 j := fun j hj => by rw [hP']; exact if_neg hj
  have P10 : ∀ i, P' 10 i = if i = l0.length then nI N else P 10 i := fun i => by
    rw [hP', ← a1 10 (by omega), ← w2 10 (by omega) (by omega) (by omega) (by omega) (by omega) (by omega)]
    rfl
  have PP : ∀ j, j < 13 → j ≠ 10 → j ≠ 3 → j ≠ 4 → j ≠ 5 → j ≠ 6 → j ≠ 7 → j ≠ 8 → P' j = P j := fun j hj h9 y3 y4 y5 y6 y7 y8 => by rw [Pj j h9, w2 j y3 y4 y5 y6 y7 y8, a1 j hj]
  have ag : agP P P' N := ⟨PP 0 (by omega) (by omega) (by omega) (by omega) (by omega) (by omega) (by omega) (by omega), PP 1 (by omega) (by omega) (by omega) (by omega) (by omega) (by omega) (by omega) (by omega), PP 2 (by omega) (by omega) (by omega) (by omega) (by omega) (by omega) (by omega) (by omega), fun i hi => by
    obtain ⟨z3, z4, z5, z7, z8⟩ := wi i (by omega)
    rw [Pj 3 (by omega), Pj 4 (by omega), Pj 5 (by omega), Pj 7 (by omega), Pj 8 (by omega), z3, z4, z5, z7, z8, a1 3 (by omega), a1 4 (by omega), a1 5 (by omega), a1 7 (by omega), a1 8 (by omega)]
    exact ⟨rfl, rfl, rfl, rfl, rfl⟩, fun i hi => by rw [Pj 6 (by omega), w6 i hi, a1 6 (by omega)]⟩
  have nsT : ∀ p ∈ ns, (p ∈ pp ∨ p ∈ l0 ++ ns) ∧ T p ∧ rt p = p ∧ rl p = [] := fun p hp => by
    have := x8 p (List.mem_append_right _ hp)
    exact ⟨Or.inr (List.mem_append_right _ hp), tr.2.2.2.2.2.2 p this.1, this.2.1, this.2.2⟩
  have k3' : P' 3 N = kd := by rw [Pj 3 (by omega), k3]
  refine rI_new (pp' := pp) (vv' := l0 ++ [N]) (V' := fun v => V v ∨ v = N) (ns := ns) h0 hk ha ag (PP 11 (by omega) (by omega) (by omega) (by omega) (by omega) (by omega) (by omega) (by omega)) (PP 12 (by omega) (by omega) (by omega) (by omega) (by omega) (by omega) (by omega) (by omega)) (fun j _ => by rw [hP']) ?_ ?_ ?_ ?_ (fun j hj => ?_) (fun j hj => ?_) (by rw [p2]; decide) (fun j j0 _ j5 => p3 j j0 j5) p4 (fun j _ j2 => p5 j j2) p6 ?_ (fun i x hi => ?_) ?_ ?_ (fun x hx => ?_) (fun x hx => ?_) ?_ (fun z => ?_) (fun z => Or.inr rfl) nsT nod (by rw [k3']; rcases hkd with z | z <;> rw [z] <;> decide) (by rw [Pj 4 (by omega), k4]) (by rw [k3']) (fun z => by rw [Pj 5 (by omega), k5]) (by rw [Pj 7 (by omega), k7]) (by rw [Pj 8 (by omega), k8]) (fun i v hi => by rw [Pj 6 (by omega)]; exact wn i v hi) (fun z => ?_) (by rw [k3']; exact n2) (by rw [k3']; exact n1) (fun v hv => hv.elim Or.inl (fun z => Or.inr ⟨z, by rw [k3']; exact hkd, fun p hp => (x8 p (List.mem_append_right _ hp)).1⟩)) (fun v hv => Or.inl hv) hx4
  · show s1.1 5 = _
    exact w5
  · show ¬ (1 : Int32) = 0
    decide
  · show s1.1 14 = _
    rw [h14, x3]
  · rw [List.length_append, List.length_singleton]
    rfl
  · refine (if_neg (by omega)).trans ((if_neg (by omega)).trans (w1 j (by omega) (by omega) (by omega) (by omega)))
  · refine (if_neg (by omega)).trans (w2 j (by omega) (by omega) (by omega) (by omega) (by omega) (by omega))
  · rw [PP 9 (by omega) (by omega) (by omega) (by omega) (by omega) (by omega) (by omega) (by omega)]
    exact x5
  · rw [P10]
    rcases get_new hi with ⟨rfl, rfl⟩ | ⟨hi1, hi2⟩
    · rw [if_pos rfl]
    · rw [if_neg (by omega)]
      exact x6 i x (by rw [List.getElem?_append_left hi1]; exact hi2)
  · rw [map_up hlt.1]
    exact ⟨(p3 4 (by omega) (by omega)).trans x1.1, x1.2.1, fun i t hi => by rw [p5 1 (by omega)]; exact x1.2.2 i t hi⟩
  · rw [List.map_append, map_up hl0]
    show pil c' 2 5 (l0.map tm ++ [upN tm N n N])
    rw [upN_at]
    exact p1
  · refine Or.inr ⟨hx, fun z => ?_⟩
    exact mem_dis x9 hx (List.mem_append_left _ (List.mem_append_right _ z))
  · rcases List.mem_append.mp hx with hx | hx
    · exact Or.inr ⟨List.mem_append_left _ hx, fun z => (List.nodup_append.mp (List.nodup_append.mp (List.nodup_append.mp x9).2.1).1).2.2 x hx x z rfl⟩
    · exact Or.inl (List.mem_singleton.mp hx)
  · exact nd_newV x9 hlt.1 hlt.2.1 hlt.2.2
  · exact absurd (hlt.1 N z) (by omega)
  · rw [k3'] at z
    rcases hkd with y | y <;> rw [y] at z <;> exact absurd z (by decide)
end NV
