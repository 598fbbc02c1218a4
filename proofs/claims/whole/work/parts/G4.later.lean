/-! The tree stays what it is while nodes are made -/
section NJ
variable {E : gE} {P P' : Nat → Nat → Int32} {N N' t0 C a B SS B' SS' n n' sl sl' nk X : Nat} {tm tm' cp : Nat → Nat} {ob ob' : Nat → Int32} {T T' : Nat → Prop} {u u' : uS} {c c' : cS} {ks sp ps qs ms : List Nat} {Z : List zQ} {st : aSt} {s s' : mS} {pos pos' pl : Nat → List Nat}
theorem rcs_ext : ∀ (ks : List Nat) (L : List rC), rcs u tm ks L → (∀ b ∈ ks, xOf u' b = xOf u b) → (∀ A ∈ L, ∀ q ∈ A.2.1, tm' q.2 = tm q.2) → rcs u' tm' ks L
  | [], [], _, _, _ => trivial
  | b :: ks, A :: L, h, hx, ht => by
    refine ⟨?_, rcs_ext ks L h.2 (fun y hy => hx y (List.mem_cons_of_mem _ hy)) (fun y hy => ht y (List.mem_cons_of_mem _ hy))⟩
    have h1 := h.1
    unfold rc at h1 ⊢
    rw [hx b List.mem_cons_self]
    have e : A.2.1.map (tmQ tm') = A.2.1.map (tmQ tm) := List.map_congr_left (fun q hq => by
      show (q.1, tm' q.2) = (q.1, tm q.2)
      rw [ht A List.mem_cons_self q hq])
    rw [e]
    exact h1
  | [], _ :: _, h, _, _ => h.elim
  | _ :: _, [], h, _, _ => h.elim
/-- what the nodes that count keep -/
def keT (P : Nat → Nat → Int32) (N : Nat) (T T' : Nat → Prop) (tm tm' : Nat → Nat) (ob ob' : Nat → Int32) : Prop := ∀ k, T k → k < N ∧ T' k ∧ tm' k = tm k ∧ tm' (bse P 512 k) = tm (bse P 512 k) ∧ ob' (bse P 512 k) = ob (bse P 512 k)
theorem pw_cg {α : Type} {R R' : α → α → Prop} : ∀ {l : List α}, (∀ x ∈ l, ∀ y ∈ l, R x y → R' x y) → l.Pairwise R → l.Pairwise R'
  | [], _, _ => List.Pairwise.nil
  | x :: r, h, hp => by
    rw [List.pairwise_cons] at hp ⊢
    exact ⟨fun y hy => h x List.mem_cons_self y (List.mem_cons_of_mem _ hy) (hp.1 y hy), pw_cg (fun x hx y hy => h x (List.mem_cons_of_mem _ hx) y (List.mem_cons_of_mem _ hy)) hp.2⟩
theorem tI_ext (wf : wfN P N) (g : agP P P' N) (hN : N ≤ N') (hT : keT P N T T' tm tm' ob ob') {ws : List (Nat × Nat)} {bd : Nat → Option Nat} (h : tI P N ob T ws bd) : tI P' N' ob' T' ws bd := by
  obtain ⟨h1, h2, h3, h4⟩ := h
  refine ⟨fun q hq => ?_, fun q hq => ?_, ?_, ?_⟩
  · obtain ⟨hqN, ho⟩ := h1 q hq
    refine ⟨by omega, ?_⟩
    rcases ho with ho | ⟨k1, ⟨k, hk, ek⟩, k3⟩
    · exact Or.inl (hT _ ho).2.1
    · obtain ⟨t1, t2, t3, t4, t5⟩ := hT k hk
      refine Or.inr ⟨?_, ⟨k, t2, by rw [bse_ag wf g 512 k t1]; exact ek⟩, ?_⟩
      · unfold aK at k1 ⊢
        rw [(g.2.2.2.1 _ hqN).1]
        exact k1
      · rw [← ek, t5, ek]
        exact k3
  · rw [(g.2.2.2.1 _ (h1 q hq).1).2.2.2.2]
    exact h2 q hq
  · refine pw_cg (fun x hx y hy hxy => ?_) h3
    rw [(g.2.2.2.1 _ (h1 x hx).1).2.2.2.2, (g.2.2.2.1 _ (h1 y hy).1).2.2.2.2]
    exact hxy
  · rw [aZ_ag g ws (fun q hq => (h1 q hq).1)]
    exact h4
theorem rws_ext (wf : wfN P N) (g : agP P P' N) (hN : N ≤ N') (hT : keT P N T T' tm tm' ob ob') {R : List rC} (h : rws P N ob T X R) : rws P' N' ob' T' X R := fun A hA => by
  obtain ⟨h1, h2, h3⟩ := h A hA
  refine ⟨tI_ext wf g hN hT h1, fun q hq => ?_, h3⟩
  have := h2 q hq
  unfold aK at this ⊢
  rw [(g.2.2.2.1 _ (h1.1 q hq).1).1]
  exact this
/-- a row's nodes keep their terms -/
theorem rws_tm (hT : keT P N T T' tm tm' ob ob') {R : List rC} (h : rws P N ob T X R) : ∀ A ∈ R, ∀ q ∈ A.2.1, tm' q.2 = tm q.2 := fun A hA q hq => by
  obtain ⟨-, ho⟩ := (h A hA).1.1 q hq
  rcases ho with ho | ⟨-, ⟨k, hk, ek⟩, -⟩
  · exact (hT _ ho).2.2.1
  · rw [← ek]
    exact (hT k hk).2.2.2.1
theorem zq_rN {plc : Nat → List Nat} {R : List rC} {L : List pRow} (h : rws P N ob T X R) (e : R.map (rP plc) = L) : rN N L := by
  subst e
  intro A hA q hq
  obtain ⟨B, hB, rfl⟩ := List.mem_map.mp hA
  obtain ⟨y, hy, rfl⟩ := List.mem_map.mp hq
  exact ((h B hB).1.1 y hy).1
theorem clT_rN {bs : List Nat} (h : clT E a B SS P N t0 tm ob T C cp c u n sl ks bs sp ps qs ms nk Z st) : ∀ (j : Nat) (x : qR), st.1[j]? = some x → rN N x.1 := fun j x hx => by
  obtain ⟨q, z, lA, lB, -, -, -, -, -, hz⟩ := h.2.2.2.1 j x hx
  exact zq_rN hz.2.2.2.2.1 hz.1
theorem arq_ag (g : agP P P' N) {π : List Nat} {k : Nat} : arq P' t0 π k = arq P t0 π k := by
  unfold arq
  rw [tyP_ag g, g.1, g.2.1]
theorem clT_ext (h : clT E a B SS P N t0 tm ob T C cp c u n sl ks [] sp ps qs ms nk Z st) (hp : hpOk E a B' SS' c' u' n' sl' ks sp ps qs ms) (tw : tmW P' u' a tm' ob' T') (hK : cK P' C cp tm' c') (wf : wfN P N) (g : agP P P' N) (hN : N ≤ N') (hT : keT P N T T' tm tm' ob ob')
    (hx : ∀ y ∈ ks, xOf u' y = xOf u y) (hq : ∀ q ∈ qs, u'.1 q = u.1 q ∧ u'.2.2.1 q = u.2.2.1 q) (hc : ∀ j, 6 ≤ j → j ≤ 12 → c'.1 j = c.1 j) (hc4 : c'.2.1 4 = c.2.1 4) (hc5 : c'.2.1 5 = c.2.1 5) : clT E a B' SS' P' N' t0 tm' ob' T' C cp c' u' n' sl' ks [] sp ps qs ms nk Z st := by
  obtain ⟨-, -, -, h4, h5, h6, h7, h8, h9, h10, h11, h12, h13⟩ := h
  refine ⟨by rw [List.append_nil]; exact hp, tw, hK, fun j x hj => ?_, ⟨h5.1, fun j x z hj hz => ?_⟩, by rw [hc 6 (by omega) (by omega)]; exact h6, h7, h8, h9, h10, by rw [hc 7 (by omega) (by omega)]; exact h11, h12, ?_⟩
  · obtain ⟨q, z, lA, lB, q1, q2, q3, q4, q5, q6⟩ := h4 j x hj
    obtain ⟨z1, z2, z3, z4, z5, z6, z7, z8, z9⟩ := q6
    have hqs : q ∈ qs := List.mem_of_getElem? q1
    obtain ⟨w1, w2⟩ := hq q hqs
    have hrN := zq_rN z5 z1
    refine ⟨q, z, lA, lB, q1, q2, q3, rcs_ext _ _ q4 (fun y hy => hx y (by rw [q3]; exact List.mem_append_right _ (List.mem_append_left _ hy))) (rws_tm hT z5), ?_, z1, z2, z3, z4, rws_ext wf g hN hT z5, z6, z7, z8, ?_⟩
    · unfold zqF at q5 ⊢
      rw [w2, tyP_ag g, g.1, qN_ag g hrN]
      exact ⟨⟨w1.trans q5.1.1, q5.1.2⟩, q5.2⟩
    · rw [tyP_ag g, g.1, qSr_ag g hrN]
      unfold nuA at z9 ⊢
      rw [hc4]
      exact z9
  · obtain ⟨y1, y2⟩ := h5.2 j x z hj hz
    refine ⟨y1, fun i xi zi k hi hk hu' hv hxi hzi => ?_⟩
    rw [arq_ag g]
    exact y2 i xi zi k hi hk hu' hv hxi hzi
  · unfold tC at h13 ⊢
    unfold mtT at h13 ⊢
    rw [hc 10 (by omega) (by omega), hc 11 (by omega) (by omega), hc 9 (by omega) (by omega), hc 8 (by omega) (by omega), hc 12 (by omega) (by omega), hc5]
    exact h13
theorem pl_32 (h : plOk s P N t0 pos pl X) : ∀ (m p : Nat), p ≤ m → p < X → ∀ e ∈ pl p, e < 32
  | 0, p, hp, _ => by
    obtain rfl : p = 0 := by omega
    rw [h.2.2.1]
    intro e he
    cases he
  | m + 1, p, hp, hX => by
    by_cases h0 : p = 0
    · subst h0
      rw [h.2.2.1]
      intro e he
      cases he
    · obtain ⟨-, p0, e0, hlt, he0, epl, -⟩ := h.2.2.2.2.2 p (by omega) hX
      rw [epl]
      intro e he
      rcases List.mem_append.mp he with he | he
      · exact pl_32 h m p0 (by omega) (by omega) e he
      · rw [List.mem_singleton.mp he]
        exact he0
theorem eSt_ext {an : aAn} (h : eSt P N t0 pos pl X an st s) (hs : sPA s' P') (g : agP P P' N) (hN : N ≤ N') (hpos : ∀ v, v < N → ¬ 1000 ∈ pos v → pos' v = pos v) (hq : ∀ (j : Nat) (x : qR), st.1[j]? = some x → rN N x.1) (h1 : ∀ j, (20 ≤ j ∧ j ≤ 26) ∨ j = 34 ∨ j = 47 → s'.1 j = s.1 j) (h2 : ∀ j, 13 ≤ j → j ≤ 24 → s'.2 j = s.2 j) : eSt P' N' t0 pos' pl X an st s' := by
  obtain ⟨-, e2, e3, e4, e5⟩ := h
  refine ⟨hs, ?_, ?_, ?_, by rw [h1 47 (by omega)]; exact e5⟩
  · have h32 := pl_32 e2
    obtain ⟨p1, p2, p3, p4, p5, p6⟩ := e2
    refine ⟨by rw [h1 34 (by omega)]; exact p1, p2, p3, ?_, p5, fun p' hp hX => ?_⟩
    · rw [h2 20 (by omega) (by omega), h2 21 (by omega) (by omega), h2 22 (by omega) (by omega)]
      intro p hp
      rw [tyP_ag g]
      exact p4 p hp
    · rw [h2 22 (by omega) (by omega)]
      obtain ⟨⟨v, hv, ev⟩, y⟩ := p6 p' hp hX
      refine ⟨⟨v, by omega, ?_⟩, y⟩
      rw [hpos v hv (fun z => by
        rw [ev] at z
        have := h32 p' p' (Nat.le_refl _) hX _ z
        omega)]
      exact ev
  · unfold anS at e3 ⊢
    rw [h2 23 (by omega) (by omega), h2 24 (by omega) (by omega)]
    exact e3
  · obtain ⟨r1, r2, r3, r4, r5, r6, r7, r8, r9⟩ := e4
    refine ⟨by rw [h1 20 (by omega)]; exact r1, by rw [h1 21 (by omega)]; exact r2, by rw [h1 22 (by omega)]; exact r3, by rw [h1 24 (by omega)]; exact r4, by rw [h1 25 (by omega)]; exact r5, ?_, by rw [h1 26 (by omega)]; exact r7, by rw [h1 23 (by omega)]; exact r8, fun i q hi => ?_⟩
    · unfold tld at r6 ⊢
      rw [h1 25 (by omega), h2 13 (by omega) (by omega)]
      exact r6
    · rw [h2 14 (by omega) (by omega), h2 15 (by omega) (by omega), h2 16 (by omega) (by omega), h2 17 (by omega) (by omega), h2 18 (by omega) (by omega), h2 19 (by omega) (by omega), qN_ag g (hq i q hi)]
      exact r9 i q hi
/-- terms come, or get names: the tree's objects stay in order -/
theorem hp_gen {K : Nat → Prop} (h : hpOk E a B SS c u n sl ks sp ps qs ms) (hf : kFr K u u' n) (hK : ∀ k, K k → k = 7) (hn : n ≤ n') (ho : uOk u' a n') (hc : ∀ j, j = 13 ∨ j = 15 ∨ j = 18 ∨ j = 20 ∨ j = 23 → c'.1 j = c.1 j) (hD : c'.2.2.2 = c.2.2.2) (r1 : n' + B ≤ n + B') (r2 : sl' + SS ≤ sl + SS') (r3 : B' + 40000 ≤ E.1.heap.size + room_1.cells) (r4 : SS' + 300000 ≤ room_1.slots) : hpOk E a B' SS' c' u' n' sl' ks sp ps qs ms ∧ (∀ y ∈ ks ++ sp, xOf u' y = xOf u y) ∧ ∀ q ∈ qs, u'.1 q = u.1 q ∧ u'.2.2.1 q = u.2.2.1 q := by
  obtain ⟨h1, h2, h3, h4, h5, h6, h7, h8⟩ := h
  have nK : ∀ D, ¬ K (9 + D) := fun D z => by have := hK _ z; omega
  obtain ⟨l1, m1⟩ := lOk_k (c' := c') h2 hf (nK 1) hn (hc 18 (by omega)) (by rw [hD])
  obtain ⟨l2, m2⟩ := lOk_k (c' := c') h3 hf (nK 2) hn (hc 20 (by omega)) (by rw [hD])
  obtain ⟨l3, m3⟩ := lOk_k (c' := c') h4 hf (nK 3) hn (hc 23 (by omega)) (by rw [hD])
  have hoN := oN_eq (ps := ps) (qs := qs) m1 m2 m3
  have hro := hpOk_room h2 h3 h4
  have hrw := rw_k (c' := c') (sl' := sl') (Nb' := B' + oN E c' u' ps qs) (Sb' := SS' + oS E c' u' ps qs) h1 hf (fun k z => by have := hK k z; omega) hn ho (hc 13 (by omega)) (hc 15 (by omega)) (by rw [hD]) (by rw [hoN.1]; omega) (by rw [hoN.2]; omega) (by rw [hoN.1]; omega) (by rw [hoN.2]; omega)
  refine ⟨⟨hrw.1, l1, l2, l3, r3, r4, h7, h8⟩, hrw.2, fun q hq => ?_⟩
  have hz := h3.2.2.2 q hq
  have k6 : u.1 q = 6 := hz.1.1
  exact ⟨hf.1 q hz.2, (hf.2 q hz.2 (by omega) (fun z => by have := hK _ z; omega)).2.1⟩
end NJ
