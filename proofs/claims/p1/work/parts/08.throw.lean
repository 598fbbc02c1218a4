/-! Rows of the ghost layer: exceptions -/
section GG
variable {cl : List vw_C} {E : gE} {Y Y' : gY} {d : Nat} {G0 G : gS} {Q Qc : gO → gS → Prop} {pc : Nat} {lv lv' : List (Nat × Value)} {st rest as : List Value}
/-- what 'throw new E()' needs of the tables -/
def gThr (own : String) (ik ic : Nat) (cls : String) (names : List String) : Prop :=
  Bundle.fit cls = true ∧ (∀ n ∈ names, Bundle.fit n = true) ∧ ∀ w ∈ Cond.classLink own ik cls :: Cond.initialized cls :: vx_at0 own ic cls names, w ∈ lw_tbl ∧ gWarm w = true ∧ vx_ot w = true
theorem g_throw {cls : String} {names : List String} {ik ic : Nat} (ht : gThr Y.1.cls ik ic cls names) (d0 : decode Y.2.1 pc = .ok (.new ik, 3)) (d3 : decode Y.2.1 (pc + 3) = .ok (.dup, 1)) (d4 : decode Y.2.1 (pc + 4) = .ok (.invokespecial ic, 3)) (d7 : decode Y.2.1 (pc + 7) = .ok (.athrow, 1)) (hh : Y.2.2.2.2 = [])
    (hc : G.2.1 + 1 ≤ E.1.heap.size + room_1.cells) (hs : G.2.2 + 6 ≤ room_1.slots) (hd : names.length + 3 < d) (hW : (rest.map fun v => v.category).sum ≤ 8) (hq : ∀ n : Nat, G.2.1 ≤ n → n ≤ G.2.1 + 1 → Q (.inr cls) (G.1, n, G.2.2 + 6)) : GTc cl E Y d G0 pc lv rest G Q := by
  intro p l e s m args below meth c X H locs ls hM hL h1 h2 hl
  obtain ⟨hx, hb, hml, hown, hE, hret, hlocks, htab, hnm, hM0, htr⟩ := id X
  obtain ⟨t1, t2, t3⟩ := ht
  obtain ⟨g1, g2, g3, g4, g5, g6⟩ := id hM
  obtain ⟨k1, k2, k3, k4, k5, k6⟩ := id hM0
  have hz : ∀ C n dd, vx_Zq C n dd (fun q => E.1.heap.size ≤ q) E.1 E.1.heap → vx_Zq C n dd (fun q => E.1.heap.size ≤ q) s s.heap := fun C n dd h => vx_Zq.moved hE.2.alike (h.kept (fun a ha _ => k4 a ha))
  have hS : va_S (fun q => E.1.heap.size ≤ q) s.heap H locs := ⟨by rw [g1, k1]; exact h1, fun q _ hq => by rw [g4 q (by omega), k4 q (by omega)], hL⟩
  have K := vx_throw0 (p := p) (l := l) (e := e) (R := gRoom E d G0) (s := s) (m := m) (args := args) (below := below) (meth := meth) (c := c) (H := H) (locs := locs) (cells := G.2.1 - G0.2.1) (slots := G.2.2 - G0.2.2) (ls := ls) (rest := rest) (pc := pc) (own := Y.1.cls) (cls := cls) (names := names) (ik := ik) (ic := ic) (mc := G.2.1 + 1 - G0.2.1) (ms := G.2.2 + 6 - G0.2.2) (A := fun q => E.1.heap.size ≤ q) (Qc := fun _ _ _ _ => False) (XC := fun D _ t => D = cls ∧ H.size ≤ t.heap.size ∧ ∀ q : Nat, q < H.size → t.heap[q]? = H[q]?) (free := fun q => E.1.heap.size ≤ q)
    hx hb htr hown t1 t2 (hE.word (t3 _ List.mem_cons_self).1 (t3 _ List.mem_cons_self).2.1 args) (hE.word (t3 _ (List.mem_cons_of_mem _ List.mem_cons_self)).1 (t3 _ (List.mem_cons_of_mem _ List.mem_cons_self)).2.1 args)
    (fun w hw => hE.word (t3 w (List.mem_cons_of_mem _ (List.mem_cons_of_mem _ hw))).1 (t3 w (List.mem_cons_of_mem _ (List.mem_cons_of_mem _ hw))).2.1 args) (fun w hw => (t3 w hw).2.2)
    (hz _ _ _ hE.1.2.2.2.1) (hz _ _ _ hE.1.2.2.2.2.1) hS (by rw [hml]; exact hl.1.1) d0 d3 d4 d7 (fun x hx => by rw [htab, hh] at hx; cases hx) (by show _ < d; exact hd) (by show _ ≤ 60 * d; omega) (by show _ ≤ room_1.cells - _; omega) (by show _ ≤ room_1.slots - _; omega) hlocks
    (fun t _ z1 z2 => ⟨rfl, z1, z2⟩) hL (by omega) (by omega)
  intro T hT XX
  obtain ⟨t, a1, o, b1, b2, b3⟩ := K T hT XX
  refine ⟨t, a1, o, b1, b2, ?_⟩
  rcases b3 with ⟨⟨⟩, -⟩ | ⟨q, rfl, D, ce, L, ⟨rfl, z1, z2⟩, c1, c2, c3, c4, c5, c6⟩
  have hsz : t.heap.size ≤ s.heap.size + (G.2.1 + 1 - G0.2.1) := c5.2.2.1
  refine ⟨.inr D, (G.1, t.heap.size, G.2.2 + 6), L, hq _ (by omega) (by omega), ⟨q, ce, rfl, c1, by rw [c2]; rfl, by rw [c4.alike.findClass]; exact c3⟩, ⟨rfl, by show _ ≤ t.heap.size; omega, fun a x hax => ⟨(g3 a x hax).1, (g3 a x hax).2.kept (z2 a (g3 a x hax).2.lt)⟩, fun q hq => by rw [z2 q (by omega)]; exact g4 q hq, by show t.heap.size ≤ _; omega, hs⟩, by show _ ≤ t.heap.size; omega, by show _ ≤ G.2.2 + 6; omega, ⟨c4, ?_⟩, c6⟩
  have hss := c5
  refine ⟨hss.1, hss.2.1, ?_, hss.2.2.2.1, ?_, hss.2.2.2.2.2⟩
  · show t.heap.size ≤ s.heap.size + (t.heap.size - G0.2.1)
    omega
  · exact hss.2.2.2.2.1
end GG
