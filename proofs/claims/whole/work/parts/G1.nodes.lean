/-! The nodes of the reference between calls -/
section NG
variable {P P' : Nat → Nat → Int32} {N t0 k : Nat} {rt rt' : Nat → Nat} {rl rl' : Nat → List Nat} {cs : List Nat}
/-- a node as it may be; rt: the node that it stands in at last; rl: where -/
def ndO (P : Nat → Nat → Int32) (rt : Nat → Nat) (rl : Nat → List Nat) (k : Nat) : Prop :=
  (∃ t, t < 16 ∧ P 4 k = nI t) ∧ (∃ z, 1 ≤ z ∧ z ≤ 60 ∧ P 7 k = nI z) ∧ (∃ x, x < 256 ∧ P 8 k = nI x) ∧ (P 3 k = 0 ∨ P 3 k = 1 ∨ P 3 k = 2 ∨ P 3 k = 3 ∨ P 3 k = 4) ∧
  (P 3 k = 1 → P 0 (tn (P 4 k)) = 1 ∧ P 7 k = 1) ∧
  (P 3 k = 4 → ∃ w v, w < 8 ∧ P 5 k = nI w ∧ v < k ∧ P 6 (4 * k) = nI v ∧ P 7 v = P 7 k ∧ P 4 v = P 4 k ∧ (∀ j, j < 8 → (nmB (P 8 k) j ↔ (j = w ∨ nmB (P 8 v) j))) ∧ ¬ nmB (P 8 v) w ∧ rt v = rt k ∧ rl v = rl k) ∧
  (P 3 k = 3 → ∃ v v', v < k ∧ P 6 (4 * k) = nI v ∧ v' < k ∧ P 6 (4 * k + 1) = nI v' ∧ tn (P 7 v) + tn (P 7 v') + 1 = tn (P 7 k) ∧ P 4 v = P 4 k ∧ P 4 v' = P 4 k ∧ P 8 v = P 8 k ∧ P 8 v' = P 8 k ∧ rt v = rt k ∧ rl v = rl k ∧ rt v' = rt k ∧ rl v' = rl k) ∧
  (P 3 k = 2 → ∃ T w, 2 ≤ T ∧ T ≤ 9 ∧ P 0 (tn (P 4 k)) = nI T ∧ w < T - 1 ∧ P 5 k = nI w ∧ aZ P (aKs P (fun _ => ()) k (aAr P k)) + 1 = tn (P 7 k) ∧
    (∀ i, i < aAr P k → ∃ v, v < k ∧ P 6 (4 * k + i) = nI v ∧ P 4 v = P 2 (32 * tn (P 4 k) + (4 * w + i)) ∧ rt v = rt k ∧ rl v = rl k ++ [4 * w + i] ∧ ∀ j, j < 8 → nmB (P 8 v) j → nmB (P 8 k) j) ∧
    ∀ i j, i < j → j < aAr P k → ∀ w, w < 8 → nmB (P 8 (tn (P 6 (4 * k + i)))) w → ¬ nmB (P 8 (tn (P 6 (4 * k + j)))) w)
/-- the types' numbers -/
def tyO (P : Nat → Nat → Int32) : Prop := (∀ t, ∃ v, v ≤ 9 ∧ P 0 t = nI v) ∧ (∀ k, ∃ v, v ≤ 4 ∧ P 1 k = nI v) ∧ ∀ k, ∃ v, v < 16 ∧ P 2 k = nI v
/-- positions as places see them: only what stands in a case counts -/
def posF (rt : Nat → Nat) (rl : Nat → List Nat) (cs : List Nat) (k : Nat) : List Nat := (if rt k ∈ cs then [] else [1000]) ++ rl k
theorem pos_eq {v : Nat} (h1 : rt v = rt k) (h2 : rl v = rl k) : posF rt rl cs v = posF rt rl cs k := by
  unfold posF
  rw [h1, h2]
theorem pos_ap {v : Nat} {x : List Nat} (h1 : rt v = rt k) (h2 : rl v = rl k ++ x) : posF rt rl cs v = posF rt rl cs k ++ x := by
  unfold posF
  rw [h1, h2, List.append_assoc]
theorem tyO_9 (h : tyO P) : ∀ t, tn (P 0 t) ≤ 9 := fun t => by
  obtain ⟨v, hv, e⟩ := h.1 t
  rw [e, tnI (by omega)]
  exact hv
theorem tyO_4 (h : tyO P) : ∀ k, tn (P 1 k) ≤ 4 ∧ P 1 k = nI (tn (P 1 k)) := fun k => by
  obtain ⟨v, hv, e⟩ := h.2.1 k
  rw [e, tnI (by omega)]
  exact ⟨hv, rfl⟩
theorem aAr_4 (h : tyO P) {k : Nat} : aAr P k ≤ 4 := (tyO_4 h _).1
theorem nd_wfN (hN : N ≤ 512) (h : ∀ k, k < N → ndO P rt rl k) : wfN P N := by
  refine ⟨hN, fun k hk => ?_⟩
  obtain ⟨-, ⟨z, z1, z2, ez⟩, -, -, -, h4, h3, -⟩ := h k hk
  refine ⟨by rw [ez, tnI (by omega)]; exact z1, fun q => ?_, fun q => ?_⟩
  · obtain ⟨w, v, hw, e5, hv, e6, e7, -⟩ := h4 q
    exact ⟨w, v, hw, e5, hv, e6, by rw [e7]⟩
  · obtain ⟨v, v', hv, e6, hv', e6', e7, -⟩ := h3 q
    exact ⟨v, v', hv, e6, hv', e6', e7⟩
theorem nd_wfA (ty : tyO P) (hN : N ≤ 512) (h : ∀ k, k < N → ndO P rt rl k) : wfA P N (posF rt rl cs) := by
  refine ⟨nd_wfN hN h, fun k _ => ty.2.2 k, fun k hk => ?_⟩
  obtain ⟨⟨t, ht, et⟩, -, -, -, -, h4, h3, h2⟩ := h k hk
  refine ⟨⟨t, ht, et⟩, fun q => ?_, fun q => ?_, fun q => ?_⟩
  · obtain ⟨w, v, hw, e5, hv, e6, -, e4, -, -, r1, r2⟩ := h4 q
    rw [e6, tnI (by omega)]
    exact ⟨e4, pos_eq r1 r2⟩
  · obtain ⟨v, v', hv, e6, hv', e6', -, e4, e4', -, -, r1, r2, r1', r2'⟩ := h3 q
    rw [e6, e6', tnI (by omega), tnI (by omega)]
    exact ⟨e4, pos_eq r1 r2, e4', pos_eq r1' r2'⟩
  · obtain ⟨T, w, T2, T9, e0, hw, e5, ez, hp, -⟩ := h2 q
    have tw : tn (P 5 k) = w := by rw [e5, tnI (by omega)]
    refine ⟨⟨w, by omega, e5⟩, aAr_4 ty, (tyO_4 ty _).2, ez, fun i hi => ?_⟩
    obtain ⟨v, hv, e6, e4, r1, r2, -⟩ := hp i hi
    rw [tw]
    exact ⟨v, hv, e6, e4, pos_ap r1 r2⟩
theorem nd_wfB (hN : N ≤ 512) (h : ∀ k, k < N → ndO P rt rl k) : wfB P N := by
  intro k hk
  obtain ⟨-, -, -, -, -, h4, h3, h2⟩ := h k hk
  refine ⟨fun q => ?_, fun q => ?_, fun q => ?_⟩
  · obtain ⟨w, v, hw, e5, hv, e6, -, -, b1, b2, -⟩ := h4 q
    rw [e6, tnI (by omega), e5, tnI (by omega)]
    exact ⟨b1, b2⟩
  · obtain ⟨v, v', hv, e6, hv', e6', -, -, -, b1, b2, -⟩ := h3 q
    intro w _
    rw [e6, tnI (by omega), e6', tnI (by omega), b1, b2]
    exact ⟨id, id⟩
  · obtain ⟨T, w, T2, T9, e0, hw, e5, ez, hp, hd⟩ := h2 q
    refine ⟨fun i hi j hj => ?_, hd⟩
    obtain ⟨v, hv, e6, -, -, -, b⟩ := hp i hi
    rw [e6, tnI (by omega)]
    exact b j hj
theorem nd_wfK (h : ∀ k, k < N → ndO P rt rl k) : wfK P N := by
  intro k hk
  obtain ⟨-, -, -, h0, h1, -, -, h2⟩ := h k hk
  refine ⟨h0, fun q => (h1 q).1, fun q => ?_⟩
  obtain ⟨T, w, T2, T9, e0, hw, e5, -⟩ := h2 q
  exact ⟨T, w, T2, T9, e0, hw, e5⟩
theorem ty_Ar (h : tyO P) : ∀ (π : List Nat) (w : Nat), ¬ P 0 (tyP P t0 π) ≤ 1 → w < tn (P 0 (tyP P t0 π)) - 1 → ∃ a, a ≤ 4 ∧ P 1 (8 * tyP P t0 π + w) = nI a := fun _ _ _ _ => h.2.1 _
/-- nodes go into new ones: what stands in the same stays so -/
def reR (N : Nat) (rt : Nat → Nat) (rl : Nat → List Nat) (rt' : Nat → Nat) (rl' : Nat → List Nat) : Prop := ∀ v k, v < N → k < N → rt v = rt k → rt' v = rt' k ∧ ∀ x, rl v = rl k ++ x → rl' v = rl' k ++ x
theorem reR_eq (h : reR N rt rl rt' rl') {v k : Nat} (hv : v < N) (hk : k < N) (e1 : rt v = rt k) (e2 : rl v = rl k) : rt' v = rt' k ∧ rl' v = rl' k := by
  obtain ⟨h1, h2⟩ := h v k hv hk e1
  have := h2 [] (by rw [List.append_nil]; exact e2)
  rw [List.append_nil] at this
  exact ⟨h1, this⟩
theorem nd_nm (g : agP P P' N) (hN : N ≤ 512) (hr : reR N rt rl rt' rl') (hk : k < N) (h4 : P 3 k = 4 → ∃ w v, w < 8 ∧ P 5 k = nI w ∧ v < k ∧ P 6 (4 * k) = nI v ∧ P 7 v = P 7 k ∧ P 4 v = P 4 k ∧ (∀ j, j < 8 → (nmB (P 8 k) j ↔ (j = w ∨ nmB (P 8 v) j))) ∧ ¬ nmB (P 8 v) w ∧ rt v = rt k ∧ rl v = rl k) :
    P' 3 k = 4 → ∃ w v, w < 8 ∧ P' 5 k = nI w ∧ v < k ∧ P' 6 (4 * k) = nI v ∧ P' 7 v = P' 7 k ∧ P' 4 v = P' 4 k ∧ (∀ j, j < 8 → (nmB (P' 8 k) j ↔ (j = w ∨ nmB (P' 8 v) j))) ∧ ¬ nmB (P' 8 v) w ∧ rt' v = rt' k ∧ rl' v = rl' k := by
  obtain ⟨a3, a4, a5, a7, a8⟩ := g.2.2.2.1 k hk
  intro q
  obtain ⟨w, v, hw, e5, hv, e6, e7, e4, b1, b2, r1, r2⟩ := h4 (a3.symm.trans q)
  obtain ⟨c3, c4, c5, c7, c8⟩ := g.2.2.2.1 v (by omega)
  have x := reR_eq hr (by omega) hk r1 r2
  have x6 : P' 6 (4 * k) = P 6 (4 * k) := g.2.2.2.2 _ (by omega)
  refine ⟨w, v, hw, a5.trans e5, hv, x6.trans e6, (c7.trans e7).trans a7.symm, (c4.trans e4).trans a4.symm, ?_, ?_, x.1, x.2⟩
  · rw [a8, c8]
    exact b1
  · rw [c8]
    exact b2
theorem nd_ei (g : agP P P' N) (hN : N ≤ 512) (hr : reR N rt rl rt' rl') (hk : k < N) (h3 : P 3 k = 3 → ∃ v v', v < k ∧ P 6 (4 * k) = nI v ∧ v' < k ∧ P 6 (4 * k + 1) = nI v' ∧ tn (P 7 v) + tn (P 7 v') + 1 = tn (P 7 k) ∧ P 4 v = P 4 k ∧ P 4 v' = P 4 k ∧ P 8 v = P 8 k ∧ P 8 v' = P 8 k ∧ rt v = rt k ∧ rl v = rl k ∧ rt v' = rt k ∧ rl v' = rl k) :
    P' 3 k = 3 → ∃ v v', v < k ∧ P' 6 (4 * k) = nI v ∧ v' < k ∧ P' 6 (4 * k + 1) = nI v' ∧ tn (P' 7 v) + tn (P' 7 v') + 1 = tn (P' 7 k) ∧ P' 4 v = P' 4 k ∧ P' 4 v' = P' 4 k ∧ P' 8 v = P' 8 k ∧ P' 8 v' = P' 8 k ∧ rt' v = rt' k ∧ rl' v = rl' k ∧ rt' v' = rt' k ∧ rl' v' = rl' k := by
  obtain ⟨a3, a4, a5, a7, a8⟩ := g.2.2.2.1 k hk
  intro q
  obtain ⟨v, v', hv, e6, hv', e6', e7, e4, e4', e8, e8', r1, r2, r1', r2'⟩ := h3 (a3.symm.trans q)
  obtain ⟨c3, c4, c5, c7, c8⟩ := g.2.2.2.1 v (by omega)
  obtain ⟨d3, d4, d5, d7, d8⟩ := g.2.2.2.1 v' (by omega)
  have x1 := reR_eq hr (by omega) hk r1 r2
  have x2 := reR_eq hr (by omega) hk r1' r2'
  have x6 : P' 6 (4 * k) = P 6 (4 * k) := g.2.2.2.2 _ (by omega)
  have x7 : P' 6 (4 * k + 1) = P 6 (4 * k + 1) := g.2.2.2.2 _ (by omega)
  refine ⟨v, v', hv, x6.trans e6, hv', x7.trans e6', ?_, (c4.trans e4).trans a4.symm, (d4.trans e4').trans a4.symm, (c8.trans e8).trans a8.symm, (d8.trans e8').trans a8.symm, x1.1, x1.2, x2.1, x2.2⟩
  rw [c7, d7, a7]
  exact e7
theorem aZ_ag {α : Type} (g : agP P P' N) : ∀ (l : List (α × Nat)), (∀ q ∈ l, q.2 < N) → aZ P' l = aZ P l := by
  intro l
  induction l with
  | nil => intro _; rfl
  | cons q r ih =>
    intro h
    have e1 : P' 7 q.2 = P 7 q.2 := (g.2.2.2.1 q.2 (h q List.mem_cons_self)).2.2.2.1
    have e2 := ih (fun y hy => h y (List.mem_cons_of_mem _ hy))
    show tn (P' 7 q.2) + aZ P' r = tn (P 7 q.2) + aZ P r
    rw [e1, e2]
theorem aZ_ks (g : agP P P' N) (l : List Nat) (h : ∀ i ∈ l, P' 6 (4 * k + i) = P 6 (4 * k + i) ∧ tn (P 6 (4 * k + i)) < N) : aZ P' (l.map (fun i => ((), tn (P' 6 (4 * k + i))))) = aZ P (l.map (fun i => ((), tn (P 6 (4 * k + i))))) := by
  have e : l.map (fun i => ((), tn (P' 6 (4 * k + i)))) = l.map (fun i => ((), tn (P 6 (4 * k + i)))) := List.map_congr_left (fun i hi => congrArg (fun x => ((), tn x)) (h i hi).1)
  rw [e]
  refine aZ_ag g _ (fun q hq => ?_)
  obtain ⟨i, hi, rfl⟩ := List.mem_map.mp hq
  exact (h i hi).2
theorem nd_mk (g : agP P P' N) (hN : N ≤ 512) (ty : tyO P) (hr : reR N rt rl rt' rl') (hk : k < N) (h2 : P 3 k = 2 → ∃ T w, 2 ≤ T ∧ T ≤ 9 ∧ P 0 (tn (P 4 k)) = nI T ∧ w < T - 1 ∧ P 5 k = nI w ∧ aZ P (aKs P (fun _ => ()) k (aAr P k)) + 1 = tn (P 7 k) ∧
    (∀ i, i < aAr P k → ∃ v, v < k ∧ P 6 (4 * k + i) = nI v ∧ P 4 v = P 2 (32 * tn (P 4 k) + (4 * w + i)) ∧ rt v = rt k ∧ rl v = rl k ++ [4 * w + i] ∧ ∀ j, j < 8 → nmB (P 8 v) j → nmB (P 8 k) j) ∧
    ∀ i j, i < j → j < aAr P k → ∀ w, w < 8 → nmB (P 8 (tn (P 6 (4 * k + i)))) w → ¬ nmB (P 8 (tn (P 6 (4 * k + j)))) w) :
    P' 3 k = 2 → ∃ T w, 2 ≤ T ∧ T ≤ 9 ∧ P' 0 (tn (P' 4 k)) = nI T ∧ w < T - 1 ∧ P' 5 k = nI w ∧ aZ P' (aKs P' (fun _ => ()) k (aAr P' k)) + 1 = tn (P' 7 k) ∧
    (∀ i, i < aAr P' k → ∃ v, v < k ∧ P' 6 (4 * k + i) = nI v ∧ P' 4 v = P' 2 (32 * tn (P' 4 k) + (4 * w + i)) ∧ rt' v = rt' k ∧ rl' v = rl' k ++ [4 * w + i] ∧ ∀ j, j < 8 → nmB (P' 8 v) j → nmB (P' 8 k) j) ∧
    ∀ i j, i < j → j < aAr P' k → ∀ w, w < 8 → nmB (P' 8 (tn (P' 6 (4 * k + i)))) w → ¬ nmB (P' 8 (tn (P' 6 (4 * k + j)))) w := by
  obtain ⟨a3, a4, a5, a7, a8⟩ := g.2.2.2.1 k hk
  intro q
  have ar4 := aAr_4 ty (k := k)
  obtain ⟨T, w, T2, T9, e0, hw, e5, ez, hp, hd⟩ := h2 (a3.symm.trans q)
  have hpN : ∀ i, i < aAr P k → tn (P 6 (4 * k + i)) < N := fun i hi => by
    obtain ⟨v, hv, e6, -⟩ := hp i hi
    rw [e6, tnI (by omega)]
    omega
  have e66 : ∀ i, i < aAr P k → P' 6 (4 * k + i) = P 6 (4 * k + i) := fun i hi => g.2.2.2.2 _ (by omega)
  rw [aAr_ag g hk]
  refine ⟨T, w, T2, T9, by rw [g.1, a4]; exact e0, hw, a5.trans e5, ?_, fun i hi => ?_, fun i j hij hj w' hw' => ?_⟩
  · have e2 := aZ_ks (k := k) g (List.range (aAr P k)) (fun i hi => ⟨e66 i (List.mem_range.mp hi), hpN i (List.mem_range.mp hi)⟩)
    unfold aKs at ez ⊢
    rw [e2, a7]
    exact ez
  · obtain ⟨v, hv, e6, e4, r1, r2, b⟩ := hp i hi
    obtain ⟨c3, c4, c5, c7, c8⟩ := g.2.2.2.1 v (by omega)
    obtain ⟨x1, x2⟩ := hr v k (by omega) hk r1
    refine ⟨v, hv, (e66 i hi).trans e6, ?_, x1, x2 _ r2, ?_⟩
    · rw [c4, g.2.2.1, a4]
      exact e4
    · rw [c8, a8]
      exact b
  · rw [e66 i (by omega), e66 j hj, (g.2.2.2.1 _ (hpN i (by omega))).2.2.2.2, (g.2.2.2.1 _ (hpN j hj)).2.2.2.2]
    exact hd i j hij hj w' hw'
theorem ndO_ag (g : agP P P' N) (hN : N ≤ 512) (ty : tyO P) (hr : reR N rt rl rt' rl') (hk : k < N) (h : ndO P rt rl k) : ndO P' rt' rl' k := by
  obtain ⟨ht, hz, hx, hkd, h1, h4, h3, h2⟩ := h
  obtain ⟨a3, a4, a5, a7, a8⟩ := g.2.2.2.1 k hk
  refine ⟨?_, ?_, ?_, ?_, ?_, nd_nm g hN hr hk h4, nd_ei g hN hr hk h3, nd_mk g hN ty hr hk h2⟩
  · rw [a4]
    exact ht
  · rw [a7]
    exact hz
  · rw [a8]
    exact hx
  · rw [a3]
    exact hkd
  · rw [a3, a4, a7, g.1]
    exact h1
/-- a new node N of the parts ns -/
def rtN (rt : Nat → Nat) (ns : List Nat) (N : Nat) : Nat → Nat := fun k => if k = N then N else if rt k ∈ ns then N else rt k
def rlN (rt : Nat → Nat) (rl : Nat → List Nat) (ns : List Nat) (e : Nat → List Nat) (N : Nat) : Nat → List Nat := fun k => if k = N then [] else if rt k ∈ ns then e (ns.idxOf (rt k)) ++ rl k else rl k
theorem rtN_lt {ns : List Nat} (h : k < N) : rtN rt ns N k = if rt k ∈ ns then N else rt k := if_neg (by omega)
theorem rlN_lt {ns : List Nat} {e : Nat → List Nat} (h : k < N) : rlN rt rl ns e N k = if rt k ∈ ns then e (ns.idxOf (rt k)) ++ rl k else rl k := if_neg (by omega)
theorem reR_N {ns : List Nat} {e : Nat → List Nat} : reR N rt rl (rtN rt ns N) (rlN rt rl ns e N) := by
  intro v k hv hk h
  rw [rtN_lt hv, rtN_lt hk, rlN_lt hv, rlN_lt hk, h]
  refine ⟨rfl, fun x hx => ?_⟩
  split
  · rw [hx, List.append_assoc]
  · exact hx
theorem rN_self {ns : List Nat} {e : Nat → List Nat} : rtN rt ns N N = N ∧ rlN rt rl ns e N N = [] := ⟨if_pos rfl, if_pos rfl⟩
theorem rN_other {ns : List Nat} {e : Nat → List Nat} {p : Nat} (hp : p < N) (h1 : rt p = p) (h2 : rl p = []) (hn : ¬ p ∈ ns) : rtN rt ns N p = p ∧ rlN rt rl ns e N p = [] := by
  rw [rtN_lt hp, rlN_lt hp, h1, if_neg hn, if_neg hn]
  exact ⟨rfl, h2⟩
theorem idx_nd : ∀ {ns : List Nat}, ns.Nodup → ∀ (i p : Nat), ns[i]? = some p → ns.idxOf p = i
  | [], _, i, p, h => by simp at h
  | x :: r, hd, 0, p, h => by
    simp only [List.getElem?_cons_zero, Option.some.injEq] at h
    subst h
    simp [List.idxOf_cons]
  | x :: r, hd, i + 1, p, h => by
    simp only [List.getElem?_cons_succ] at h
    have hx : x ≠ p := fun e => (List.nodup_cons.mp hd).1 (by rw [e]; exact List.mem_of_getElem? h)
    have ih := idx_nd (List.nodup_cons.mp hd).2 i p h
    have hb : (x == p) = false := by simpa using hx
    rw [List.idxOf_cons, hb, ih]
    rfl
theorem rN_part {ns : List Nat} {e : Nat → List Nat} (hd : ns.Nodup) {i p : Nat} (hp : p < N) (h1 : rt p = p) (h2 : rl p = []) (hi : ns[i]? = some p) : rtN rt ns N p = N ∧ rlN rt rl ns e N p = e i := by
  have hm : p ∈ ns := List.mem_of_getElem? hi
  rw [rtN_lt hp, rlN_lt hp, h1, if_pos hm, if_pos hm, h2, idx_nd hd i p hi, List.append_nil]
  exact ⟨rfl, rfl⟩
/-- what stands in a case stays there -/
theorem rN_case {ns : List Nat} {e : Nat → List Nat} (hk : k < N) (hn : ¬ rt k ∈ ns) : rtN rt ns N k = rt k ∧ rlN rt rl ns e N k = rl k := by
  rw [rtN_lt hk, rlN_lt hk, if_neg hn, if_neg hn]
  exact ⟨rfl, rfl⟩
end NG
