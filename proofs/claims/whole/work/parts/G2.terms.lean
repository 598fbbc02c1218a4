/-! The terms of the class and the nodes of the reference -/
section NH
variable {P P' : Nat → Nat → Int32} {N k a n : Nat} {tm : Nat → Nat} {ob : Nat → Int32} {T V : Nat → Prop} {u u' : uS}
theorem bse_ag (wf : wfN P N) (g : agP P P' N) : ∀ (f k : Nat), k < N → bse P' f k = bse P f k
  | 0, _, _ => rfl
  | f + 1, k, hk => by
    simp only [bse]
    rw [(g.2.2.2.1 k hk).1]
    by_cases h4 : P 3 k = 4
    · obtain ⟨w, v, -, -, hv, ev, -⟩ := (wf.2 k hk).2.1 h4
      rw [if_pos h4, if_pos h4, g.2.2.2.2 _ (by omega)]
      have := wf.1
      exact bse_ag wf g f _ (by rw [ev, tnI (by omega)]; omega)
    · rw [if_neg h4, if_neg h4]
theorem own_ag (wf : wfN P N) (g : agP P P' N) : ∀ (f k w : Nat), k < N → (own P' f k w ↔ own P f k w)
  | 0, _, _, _ => Iff.rfl
  | f + 1, k, w, hk => by
    simp only [own]
    rw [(g.2.2.2.1 k hk).1, (g.2.2.2.1 k hk).2.2.1]
    by_cases h4 : P 3 k = 4
    · obtain ⟨w', v, -, -, hv, ev, -⟩ := (wf.2 k hk).2.1 h4
      rw [g.2.2.2.2 _ (by omega)]
      have := wf.1
      rw [own_ag wf g f _ w (by rw [ev, tnI (by omega)]; omega)]
    · exact ⟨fun h => absurd h.1 h4, fun h => absurd h.1 h4⟩
theorem bse_sf {f : Nat} (h : ¬ P 3 k = 4) : bse P f k = k := by
  cases f with
  | zero => rfl
  | succ f => exact if_neg h
theorem own_no {f w : Nat} (h : ¬ P 3 k = 4) : ¬ own P f k w := by
  cases f with
  | zero => exact id
  | succ f => exact fun q => h q.1
/-- terms and nodes: T: the nodes that terms stand for; V: those of values -/
def tmR (P : Nat → Nat → Int32) (N : Nat) (T V : Nat → Prop) (tm : Nat → Nat) (ob : Nat → Int32) (a n : Nat) (u : uS) : Prop :=
  tmP P N tm ob T ∧ tmW P u a tm ob T ∧ (∀ k, T k → tm k + 1 < n ∧ u.2.2.1 (tm k) 4 = P 7 k ∧ u.2.2.1 (tm k) 6 = P 8 k) ∧ (∀ k k', T k → T k' → tm k = tm k' → k = k') ∧ (∀ k k', T k → T k' → bse P 512 k = bse P 512 k' → k = k') ∧ vOkN P N V ∧ ∀ v, V v → T v
/-- tmW only looks at these -/
theorem tmW_cg {T' : Nat → Prop} {tm' : Nat → Nat} {ob' : Nat → Int32} (wf : wfN P N) (g : agP P P' N) (tp : tmP P N tm ob T) (h : tmW P u a tm ob T) (hT : ∀ k, T' k → T k) (htm : ∀ k, k < N → tm' k = tm k) (hob : ∀ k, T' k → ob' k = ob k)
    (hu : ∀ k, T k → u'.1 (tm k) = u.1 (tm k) ∧ u'.1 (tm k + 1) = u.1 (tm k + 1) ∧ u'.2.1 (tm k + 1) = u.2.1 (tm k + 1) ∧ u'.2.2.2 (tm k + 1) = u.2.2.2 (tm k + 1) ∧ ∀ j, j < 6 → (j = 5 → T' k) → u'.2.2.1 (tm k) j = u.2.2.1 (tm k) j) (ty : tyO P) : tmW P' u' a tm' ob' T' := by
  intro k hk
  obtain ⟨w1, w2, w3, w4, w5, w6, w7, w8, w9⟩ := h k (hT k hk)
  obtain ⟨p1, p2, p3, p4, p5, p6⟩ := tp k (hT k hk)
  obtain ⟨u1, u2, u3, u4, u5⟩ := hu k (hT k hk)
  have hb := bse_ok wf 512 k (by have := wf.1; omega) p1
  have hbN := hb.1
  have ar4 := aAr_4 ty (k := bse P 512 k)
  have bN := wf.1
  rw [htm k p1, hob k hk, bse_ag wf g 512 k p1, (g.2.2.2.1 _ hbN).1, (g.2.2.2.1 _ p1).2.1, (g.2.2.2.1 _ hbN).2.2.1, aAr_ag g hbN]
  have hK : aK P' (bse P 512 k) ↔ aK P (bse P 512 k) := by
    unfold aK
    rw [(g.2.2.2.1 _ hbN).1]
  refine ⟨⟨u1.trans w1.1, w1.2⟩, ⟨u2.trans w2.1, w2.2⟩, by rw [u5 0 (by omega) (by omega)]; exact w3, by rw [u5 1 (by omega) (by omega)]; exact w4, fun q => by rw [u5 2 (by omega) (by omega)]; exact w5 (hK.mp q), by rw [u5 5 (by omega) (fun _ => hk)]; exact w6, fun q => ?_, fun q => ?_, fun q => by rw [u3]; exact w9 q⟩
  · obtain ⟨v, v', hv, e6, hv', e6', -⟩ := (wf.2 _ hbN).2.2 q
    rw [u3, u4, g.2.2.2.2 _ (by omega), g.2.2.2.2 _ (by omega), htm _ (by rw [e6, tnI (by omega)]; omega), htm _ (by rw [e6', tnI (by omega)]; omega)]
    exact w7 q
  · obtain ⟨x1, x2⟩ := w8 q
    rw [u3, u4]
    refine ⟨x1, fun i hi => ?_⟩
    have hTi := (tp _ (p6 q i hi)).1
    rw [g.2.2.2.2 _ (by omega), htm _ hTi]
    exact x2 i hi
theorem tmP_cg {T' : Nat → Prop} {tm' : Nat → Nat} {ob' : Nat → Int32} (wf : wfN P N) (g : agP P P' N) {N' : Nat} (hN : N ≤ N') (tp : tmP P N tm ob T) (hT : ∀ k, T' k → T k) (hcl : ∀ k, T' k → (P 3 (bse P 512 k) = 3 → T' (tn (P 6 (4 * bse P 512 k))) ∧ T' (tn (P 6 (4 * bse P 512 k + 1)))) ∧ (P 3 (bse P 512 k) = 2 → ∀ i, i < aAr P (bse P 512 k) → T' (tn (P 6 (4 * bse P 512 k + i))))) (htm : ∀ k, k < N → tm' k = tm k) (hob : ∀ k, T' k → ob' k = ob k ∧ ob' (bse P 512 k) = ob (bse P 512 k)) (ty : tyO P) :
    ∀ k, T' k → k < N' ∧ (∀ w, w < 8 → (nmB (ob' k) w ↔ own P' 512 k w)) ∧ ob' (bse P' 512 k) = ob' k ∧ tm' (bse P' 512 k) = tm' k ∧
  (P' 3 (bse P' 512 k) = 3 → T' (tn (P' 6 (4 * bse P' 512 k))) ∧ T' (tn (P' 6 (4 * bse P' 512 k + 1)))) ∧ (P' 3 (bse P' 512 k) = 2 → ∀ i, i < aAr P' (bse P' 512 k) → T' (tn (P' 6 (4 * bse P' 512 k + i)))) := by
  intro k hk
  obtain ⟨p1, p2, p3, p4, p5, p6⟩ := tp k (hT k hk)
  have hb := bse_ok wf 512 k (by have := wf.1; omega) p1
  have hbN := hb.1
  have bN := wf.1
  have ar4 := aAr_4 ty (k := bse P 512 k)
  rw [(hob k hk).1, bse_ag wf g 512 k p1, (hob k hk).2, htm k p1, htm _ hbN, (g.2.2.2.1 _ hbN).1, aAr_ag g hbN]
  refine ⟨by omega, fun w hw => by rw [own_ag wf g 512 k w p1]; exact p2 w hw, p3, p4, fun q => ?_, fun q i hi => ?_⟩
  · rw [g.2.2.2.2 _ (by omega), g.2.2.2.2 _ (by omega)]
    exact (hcl k hk).1 q
  · rw [g.2.2.2.2 _ (by omega)]
    exact (hcl k hk).2 q i hi
theorem nmB_0 {w : Nat} (h : w < 8) : ¬ nmB 0 w := by
  unfold nmB
  match w, h with
  | 0, _ => decide
  | 1, _ => decide
  | 2, _ => decide
  | 3, _ => decide
  | 4, _ => decide
  | 5, _ => decide
  | 6, _ => decide
  | 7, _ => decide
/-- a new node that is no name, with its term at n -/
theorem tmR_new (h : tmR P N T V tm ob a n u) (wf : wfN P N) (hN : N < 512) (ty : tyO P) (g : agP P P' N) (ha : a + 24 ≤ n) {ns : List Nat} {V' : Nat → Prop} {tyx kd wh sz nm : Int32} (h4 : ¬ P' 3 N = 4) (e0 : tyx = P' 4 N) (e1 : kd = kdC (P' 3 N)) (e2 : aK P' N → wh = P' 5 N) (e7 : sz = P' 7 N) (e8 : nm = P' 8 N)
    (hns : ∀ i v, ns[i]? = some v → P' 6 (4 * N + i) = nI v ∧ T v) (n3 : P' 3 N = 3 → ns.length = 2) (n2 : P' 3 N = 2 → ns.length = aAr P' N) (n1 : P' 3 N = 1 → ns = []) (hV : ∀ v, V' v → V v ∨ (v = N ∧ (P' 3 N = 1 ∨ P' 3 N = 2) ∧ ∀ p ∈ ns, V p)) (hV' : ∀ v, V v → V' v) :
    tmR P' (N + 1) (fun k => T k ∨ k = N) V' (upN tm N n) (upd ob N 0) a (n + 2) (uTm u n tyx kd wh sz nm (ns.map tm)) := by
  obtain ⟨tp, tw, tx, ti, tb, hv, hvT⟩ := h
  have hTN : ∀ k, T k → k < N := fun k hk => (tp k hk).1
  have htm : ∀ k, k < N → upN tm N n k = tm k := fun k hk => upN_ne (by omega)
  have hob : ∀ k, k < N → upd ob N 0 k = ob k := fun k hk => if_neg (by omega)
  have bS : ∀ f, bse P' f N = N := fun f => bse_sf h4
  have hbk : ∀ k, T k → bse P 512 k < N := fun k hk => (bse_ok wf 512 k (by have := hTN k hk; omega) (hTN k hk)).1
  have hnsT : ∀ i v, ns[i]? = some v → tn (P' 6 (4 * N + i)) = v ∧ T v := fun i v hi => by
    obtain ⟨e, t⟩ := hns i v hi
    have := hTN v t
    exact ⟨by rw [e, tnI (by omega)], t⟩
  have C1 := tmP_cg (T' := T) (tm' := upN tm N n) (ob' := upd ob N 0) wf g (Nat.le_succ N) tp (fun _ q => q) (fun k hk => ⟨(tp k hk).2.2.2.2.1, (tp k hk).2.2.2.2.2⟩) htm (fun k hk => ⟨hob k (hTN k hk), hob _ (hbk k hk)⟩) ty
  have C2 := tmW_cg (u' := uTm u n tyx kd wh sz nm (ns.map tm)) (T' := T) (tm' := upN tm N n) (ob' := upd ob N 0) wf g tp tw (fun _ q => q) htm (fun k hk => hob k (hTN k hk)) (fun k hk => by
    have := (tx k hk).1
    have o1 := uTm_o (u := u) (n := n) (ty := tyx) (kd := kd) (wh := wh) (sz := sz) (nm := nm) (tp := ns.map tm) (q := tm k) (Or.inl (by omega))
    have o2 := uTm_o (u := u) (n := n) (ty := tyx) (kd := kd) (wh := wh) (sz := sz) (nm := nm) (tp := ns.map tm) (q := tm k + 1) (Or.inl (by omega))
    exact ⟨o1.1, o2.1, o2.2.1, o2.2.2.2, fun j _ _ => by rw [o1.2.2.1]⟩) ty
  have t1 := uTm_t (u := u) (n := n) (ty := tyx) (kd := kd) (wh := wh) (sz := sz) (nm := nm) (tp := ns.map tm)
  refine ⟨fun k hk => ?_, fun k hk => ?_, fun k hk => ?_, fun k k' hk hk' => ?_, fun k k' hk hk' => ?_, fun v hv' => ?_, fun v hv' => ?_⟩
  · rcases hk with hk | rfl
    · obtain ⟨q1, q2, q3, q4, q5, q6⟩ := C1 k hk
      exact ⟨q1, q2, q3, q4, fun q => ⟨Or.inl (q5 q).1, Or.inl (q5 q).2⟩, fun q i hi => Or.inl (q6 q i hi)⟩
    · rw [bS]
      refine ⟨by omega, fun w hw => ⟨fun q => ?_, fun q => absurd q (own_no h4)⟩, rfl, rfl, fun q => ?_, fun q i hi => ?_⟩
      · rw [show upd ob k 0 k = 0 from if_pos rfl] at q
        exact absurd q (nmB_0 hw)
      · have hl := n3 q
        have h0 : ns[0]? = some ns[0] := List.getElem?_eq_getElem (by omega)
        have h1 : ns[1]? = some ns[1] := List.getElem?_eq_getElem (by omega)
        have x0 := hnsT 0 _ h0
        have x1 := hnsT 1 _ h1
        rw [Nat.add_zero] at x0
        rw [x0.1, x1.1]
        exact ⟨Or.inl x0.2, Or.inl x1.2⟩
      · have hl := n2 q
        have h0 : ns[i]? = some ns[i] := List.getElem?_eq_getElem (by omega)
        have x0 := hnsT i _ h0
        rw [x0.1]
        exact Or.inl x0.2
  · rcases hk with hk | rfl
    · exact C2 k hk
    · rw [bS, show upN tm k n k = n from upN_at, show upd ob k 0 k = 0 from if_pos rfl]
      have hmp : ∀ (i v : Nat), ns[i]? = some v → (ns.map tm)[i]? = some (upN tm k n (tn (P' 6 (4 * k + i)))) := fun i v hi => by
        have x := hnsT i v hi
        rw [x.1, htm _ (hTN _ x.2), List.getElem?_map, hi]
        rfl
      refine ⟨⟨t1.1, ha⟩, ⟨t1.2.2.1, by omega⟩, by rw [t1.2.1]; exact e0, by rw [t1.2.1]; exact e1, fun q => by rw [t1.2.1]; exact e2 q, by rw [t1.2.1]; rfl, fun q => ?_, fun q => ?_, fun q => ?_⟩
      · have hl := n3 q
        have h0 : ns[0]? = some ns[0] := List.getElem?_eq_getElem (by omega)
        have h1 : ns[1]? = some ns[1] := List.getElem?_eq_getElem (by omega)
        rw [t1.2.2.2.1, t1.2.2.2.2]
        exact ⟨by rw [List.length_map]; exact hl, hmp 0 _ h0, hmp 1 _ h1⟩
      · have hl := n2 q
        rw [t1.2.2.2.1, t1.2.2.2.2]
        refine ⟨by rw [List.length_map]; exact hl, fun i hi => ?_⟩
        have h0 : ns[i]? = some ns[i] := List.getElem?_eq_getElem (by omega)
        exact hmp i _ h0
      · rw [t1.2.2.2.1, n1 q]
        rfl
  · rcases hk with hk | rfl
    · have hkN := hTN k hk
      obtain ⟨x1, x2, x3⟩ := tx k hk
      have o1 := uTm_o (u := u) (n := n) (ty := tyx) (kd := kd) (wh := wh) (sz := sz) (nm := nm) (tp := ns.map tm) (q := tm k) (Or.inl (by omega))
      rw [htm k hkN, o1.2.2.1, (g.2.2.2.1 k hkN).2.2.2.1, (g.2.2.2.1 k hkN).2.2.2.2]
      exact ⟨by omega, x2, x3⟩
    · rw [show upN tm k n k = n from upN_at, t1.2.1]
      exact ⟨by omega, e7, e8⟩
  · rcases hk with hk | rfl
    · have hkN := hTN k hk
      rcases hk' with hk' | rfl
      · rw [htm k hkN, htm k' (hTN k' hk')]
        exact ti k k' hk hk'
      · rw [htm k hkN, show upN tm k' n k' = n from upN_at]
        intro e
        have := (tx k hk).1
        omega
    · rcases hk' with hk' | rfl
      · rw [htm k' (hTN k' hk'), show upN tm k n k = n from upN_at]
        intro e
        have := (tx k' hk').1
        omega
      · intro _
        rfl
  · rcases hk with hk | rfl
    · have hkN := hTN k hk
      rcases hk' with hk' | rfl
      · rw [bse_ag wf g 512 k hkN, bse_ag wf g 512 k' (hTN k' hk')]
        exact tb k k' hk hk'
      · rw [bse_ag wf g 512 k hkN, bS]
        intro e
        have := hbk k hk
        omega
    · rcases hk' with hk' | rfl
      · rw [bse_ag wf g 512 k' (hTN k' hk'), bS]
        intro e
        have := hbk k' hk'
        omega
      · intro _
        rfl
  · rcases hV v hv' with q | ⟨rfl, q, hp⟩
    · obtain ⟨y1, y2, y3⟩ := hv v q
      have ar4 := aAr_4 ty (k := v)
      rw [(g.2.2.2.1 v y1).1, aAr_ag g y1]
      refine ⟨by omega, y2, fun z i hi => ?_⟩
      rw [g.2.2.2.2 _ (by omega)]
      exact hV' _ (y3 z i hi)
    · refine ⟨by omega, q, fun z i hi => ?_⟩
      have hl := n2 z
      have h0 : ns[i]? = some ns[i] := List.getElem?_eq_getElem (by omega)
      rw [(hnsT i _ h0).1]
      exact hV' _ (hp _ (List.getElem_mem _))
  · rcases hV v hv' with q | ⟨rfl, q, hp⟩
    · exact Or.inl (hvT v q)
    · exact Or.inr rfl
end NH
