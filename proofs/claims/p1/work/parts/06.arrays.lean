/-! Rows of the ghost layer: arrays -/
def gTy (E : gE) (k : Nat) : ClassId := (E.2.2.getD k (0, .int)).1
def gAI (E : gE) (n : Nat) (f : Nat → Int32) : va_E := .inl (gTy E 0, n, .inl f)
def gAZ (E : gE) (n : Nat) (f : Nat → Int32) : va_E := .inl (gTy E 1, n, .inl f)
def gAJ (E : gE) (n : Nat) (f : Nat → Int64) : va_E := .inl (gTy E 2, n, .inr (.inl f))
def gAT (E : gE) (n : Nat) (f : Nat → Option Nat) : va_E := .inl (gTy E 3, n, .inr (.inr (.inr (.inr f))))
def gAO (E : gE) (n : Nat) (f : Nat → Option Nat) : va_E := .inl (gTy E 4, n, .inr (.inr (.inr (.inr f))))
theorem gTy_at {cl : List vw_C} {E : gE} (h : gBase cl E) (k : Nat) {ty : FieldType} (hk : gTys[k]? = some ty) : E.2.2[k]? = some (gTy E k, ty) := by
  have h1 : (E.2.2.map (·.2))[k]? = some ty := by rw [h.1]; exact hk
  rw [List.getElem?_map] at h1
  cases h2 : E.2.2[k]? with
  | none => rw [h2] at h1; cases h1
  | some q =>
    rw [h2] at h1
    have h3 : q.2 = ty := Option.some.inj h1
    unfold gTy
    rw [List.getD_eq_getElem?_getD, h2]
    obtain ⟨a, b⟩ := q
    dsimp only at h3
    rw [h3]
    rfl
theorem g_ix {i : Int32} {j n : Nat} (hi : i.toInt = (j : Int)) (hj : j < n) : vp_in i n ∧ i.toNatClampNeg = j := by
  refine ⟨vp_in_iff.mpr ⟨by omega, by omega⟩, ?_⟩
  have h : i.toNatClampNeg = i.toInt.toNat := rfl
  rw [h, hi]
  rfl
theorem g_one {D : va_G} {cl : List vw_C} {H : Heap} {a : Nat} {x : va_E} (h : va_at D cl (a, x) H) : va_P D cl [(a, x)] H := fun i q hi => by
  have hz : i < 1 := (List.getElem?_eq_some_iff.mp hi).1
  rw [show i = 0 by omega] at hi
  cases hi
  exact h
theorem g_over {cl : List vw_C} {E : gE} {s : State} (h : gEnv cl E s) {C : String} (hw : Cond.arrayOver (.object C) ∈ lw_tbl) (a : Array Value) : (Cond.arrayOver (.object C)).before a s = true := by
  obtain ⟨⟨-, ⟨a0, h0, -⟩, -⟩, hW⟩ := h
  exact va_AO.use (va_AO.moved hW.alike (va_AO.of (h0 _ hw)))
section GE
variable {cl : List vw_C} {E : gE} {Y : gY} {d : Nat} {G0 G : gS} {Q : gO → gS → Prop} {pc : Nat} {lv lv' : List (Nat × Value)} {st rest : List Value} {a : Nat}

theorem g_iald {i : Int32} {j n : Nat} {f : Nat → Int32} (ha : G.1 a = some (gAI E n f)) (hi : i.toInt = (j : Int)) (hj : j < n) (hdg : decode Y.2.1 pc = .ok (.iaload, 1)) (kk : GTc cl E Y d G0 (pc + 1) lv (.int (f j) :: rest) G Q) : GTc cl E Y d G0 pc lv (.int i :: .ref a :: rest) G Q := by
  intro p l e s m args below meth c X H locs ls hM hL h1 h2 hl
  have hE := X.2.2.2.2.1
  obtain ⟨e1, e2⟩ := g_ix hi hj
  have K := kk p l e s m args below meth c X H locs ls hM hL h1 h2 hl
  rw [← e2] at K
  exact va_iald (D := E.2.1) (cl := cl) (tys := E.2.2) (ws := [(a, gAI E n f)]) X.1 X.2.1 hE.K (g_one (hM.2.2.1 a _ ha).2) 0 0 rfl (gTy_at hE.1 0 rfl) e1 hdg K

theorem g_zald {i : Int32} {j n : Nat} {f : Nat → Int32} (ha : G.1 a = some (gAZ E n f)) (hi : i.toInt = (j : Int)) (hj : j < n) (hdg : decode Y.2.1 pc = .ok (.baload, 1)) (kk : GTc cl E Y d G0 (pc + 1) lv (.int (f j) :: rest) G Q) : GTc cl E Y d G0 pc lv (.int i :: .ref a :: rest) G Q := by
  intro p l e s m args below meth c X H locs ls hM hL h1 h2 hl
  have hE := X.2.2.2.2.1
  obtain ⟨e1, e2⟩ := g_ix hi hj
  have K := kk p l e s m args below meth c X H locs ls hM hL h1 h2 hl
  rw [← e2] at K
  exact va_zald (D := E.2.1) (cl := cl) (tys := E.2.2) (ws := [(a, gAZ E n f)]) X.1 X.2.1 hE.K (g_one (hM.2.2.1 a _ ha).2) 0 1 rfl (gTy_at hE.1 1 rfl) e1 hdg K

theorem g_lald {i : Int32} {j n : Nat} {f : Nat → Int64} (ha : G.1 a = some (gAJ E n f)) (hi : i.toInt = (j : Int)) (hj : j < n) (hdg : decode Y.2.1 pc = .ok (.laload, 1)) (kk : GTc cl E Y d G0 (pc + 1) lv (.long (f j) :: rest) G Q) : GTc cl E Y d G0 pc lv (.int i :: .ref a :: rest) G Q := by
  intro p l e s m args below meth c X H locs ls hM hL h1 h2 hl
  have hE := X.2.2.2.2.1
  obtain ⟨e1, e2⟩ := g_ix hi hj
  have K := kk p l e s m args below meth c X H locs ls hM hL h1 h2 hl
  rw [← e2] at K
  exact va_lald (D := E.2.1) (cl := cl) (tys := E.2.2) (ws := [(a, gAJ E n f)]) X.1 X.2.1 hE.K (g_one (hM.2.2.1 a _ ha).2) 0 2 rfl (gTy_at hE.1 2 rfl) e1 hdg K

theorem g_tald {i : Int32} {j n : Nat} {f : Nat → Option Nat} (ha : G.1 a = some (gAT E n f)) (hi : i.toInt = (j : Int)) (hj : j < n) (hdg : decode Y.2.1 pc = .ok (.aaload, 1)) (kk : GTc cl E Y d G0 (pc + 1) lv (va_rf (f j) :: rest) G Q) : GTc cl E Y d G0 pc lv (.int i :: .ref a :: rest) G Q := by
  intro p l e s m args below meth c X H locs ls hM hL h1 h2 hl
  have hE := X.2.2.2.2.1
  obtain ⟨e1, e2⟩ := g_ix hi hj
  have K := kk p l e s m args below meth c X H locs ls hM hL h1 h2 hl
  rw [← e2] at K
  exact va_aldq (D := E.2.1) (cl := cl) (tys := E.2.2) (ws := [(a, gAT E n f)]) X.1 X.2.1 hE.K (g_one (hM.2.2.1 a _ ha).2) 0 3 rfl (gTy_at hE.1 3 rfl) e1 hdg K

theorem g_oald {i : Int32} {j n : Nat} {f : Nat → Option Nat} (ha : G.1 a = some (gAO E n f)) (hi : i.toInt = (j : Int)) (hj : j < n) (hdg : decode Y.2.1 pc = .ok (.aaload, 1)) (kk : GTc cl E Y d G0 (pc + 1) lv (va_rf (f j) :: rest) G Q) : GTc cl E Y d G0 pc lv (.int i :: .ref a :: rest) G Q := by
  intro p l e s m args below meth c X H locs ls hM hL h1 h2 hl
  have hE := X.2.2.2.2.1
  obtain ⟨e1, e2⟩ := g_ix hi hj
  have K := kk p l e s m args below meth c X H locs ls hM hL h1 h2 hl
  rw [← e2] at K
  exact va_aldq (D := E.2.1) (cl := cl) (tys := E.2.2) (ws := [(a, gAO E n f)]) X.1 X.2.1 hE.K (g_one (hM.2.2.1 a _ ha).2) 0 4 rfl (gTy_at hE.1 4 rfl) e1 hdg K

theorem g_ilen {n : Nat} {f : Nat → Int32} {v : Int32} (ha : G.1 a = some (gAI E n f)) (hv : Int32.ofNat n = v) (hdg : decode Y.2.1 pc = .ok (.arraylength, 1)) (kk : GTc cl E Y d G0 (pc + 1) lv (.int v :: rest) G Q) : GTc cl E Y d G0 pc lv (.ref a :: rest) G Q := by
  intro p l e s m args below meth c X H locs ls hM hL h1 h2 hl
  have hE := X.2.2.2.2.1
  exact va_alen (D := E.2.1) (cl := cl) (tys := E.2.2) (ws := [(a, gAI E n f)]) X.1 X.2.1 hE.K (g_one (hM.2.2.1 a _ ha).2) 0 0 rfl (gTy_at hE.1 0 rfl) hv hdg (kk p l e s m args below meth c X H locs ls hM hL h1 h2 hl)

theorem g_zlen {n : Nat} {f : Nat → Int32} {v : Int32} (ha : G.1 a = some (gAZ E n f)) (hv : Int32.ofNat n = v) (hdg : decode Y.2.1 pc = .ok (.arraylength, 1)) (kk : GTc cl E Y d G0 (pc + 1) lv (.int v :: rest) G Q) : GTc cl E Y d G0 pc lv (.ref a :: rest) G Q := by
  intro p l e s m args below meth c X H locs ls hM hL h1 h2 hl
  have hE := X.2.2.2.2.1
  exact va_alen (D := E.2.1) (cl := cl) (tys := E.2.2) (ws := [(a, gAZ E n f)]) X.1 X.2.1 hE.K (g_one (hM.2.2.1 a _ ha).2) 0 1 rfl (gTy_at hE.1 1 rfl) hv hdg (kk p l e s m args below meth c X H locs ls hM hL h1 h2 hl)

theorem g_tlen {n : Nat} {f : Nat → Option Nat} {v : Int32} (ha : G.1 a = some (gAT E n f)) (hv : Int32.ofNat n = v) (hdg : decode Y.2.1 pc = .ok (.arraylength, 1)) (kk : GTc cl E Y d G0 (pc + 1) lv (.int v :: rest) G Q) : GTc cl E Y d G0 pc lv (.ref a :: rest) G Q := by
  intro p l e s m args below meth c X H locs ls hM hL h1 h2 hl
  have hE := X.2.2.2.2.1
  exact va_alen (D := E.2.1) (cl := cl) (tys := E.2.2) (ws := [(a, gAT E n f)]) X.1 X.2.1 hE.K (g_one (hM.2.2.1 a _ ha).2) 0 3 rfl (gTy_at hE.1 3 rfl) hv hdg (kk p l e s m args below meth c X H locs ls hM hL h1 h2 hl)

theorem g_olen {n : Nat} {f : Nat → Option Nat} {v : Int32} (ha : G.1 a = some (gAO E n f)) (hv : Int32.ofNat n = v) (hdg : decode Y.2.1 pc = .ok (.arraylength, 1)) (kk : GTc cl E Y d G0 (pc + 1) lv (.int v :: rest) G Q) : GTc cl E Y d G0 pc lv (.ref a :: rest) G Q := by
  intro p l e s m args below meth c X H locs ls hM hL h1 h2 hl
  have hE := X.2.2.2.2.1
  exact va_alen (D := E.2.1) (cl := cl) (tys := E.2.2) (ws := [(a, gAO E n f)]) X.1 X.2.1 hE.K (g_one (hM.2.2.1 a _ ha).2) 0 4 rfl (gTy_at hE.1 4 rfl) hv hdg (kk p l e s m args below meth c X H locs ls hM hL h1 h2 hl)

theorem g_iast {i : Int32} {j n : Nat} {f : Nat → Int32} {x : Int32} (ha : G.1 a = some (gAI E n f)) (hi : i.toInt = (j : Int)) (hj : j < n) (hdg : decode Y.2.1 pc = .ok (.iastore, 1)) (kk : GTc cl E Y d G0 (pc + 1) lv rest (gUp G a (gAI E n (upd f j x))) Q) : GTc cl E Y d G0 pc lv (.int x :: .int i :: .ref a :: rest) G Q := by
  intro p l e s m args below meth c X H locs ls hM hL h1 h2 hl
  have hE := X.2.2.2.2.1
  obtain ⟨e1, e2⟩ := g_ix hi hj
  have hat : H[a]? = some (vp_cell (gTy E 0) (n, .inl f)) := (hM.2.2.1 a _ ha).2
  have hT := (hE.K.2 0 _ (gTy_at hE.1 0 rfl))
  refine W.iast X.1 X.2.1 hat (hT.1 n (fun j => .int (f j))) (fun q => by cases q) (by show ¬ (i < 0 ∨ (arrV _ _ _).slots.size ≤ _); rw [arrV_size]; exact e1) rfl rfl hdg fun H1 e0 z oq => ?_
  refine kk p l e s m args below meth c X H1 _ ls (hM.set ha ?_ z oq) (fun q hq => by
    rcases List.mem_append.mp hq with h | h
    · exact hL q h
    · rw [List.mem_singleton.mp h]; exact (hM.2.2.1 a _ ha).1) h1 h2 hl
  show H1[a]? = some (vp_cell _ _)
  rw [e0]
  rw [vp_cell_i, vp_cell_i, arrV_store, e2]
  congr 2
  funext q
  by_cases hq : q = j
  · subst hq
    simp [updV, upd]
  · simp [updV, upd, hq]

theorem g_zast {i : Int32} {j n : Nat} {f : Nat → Int32} {x : Int32} (ha : G.1 a = some (gAZ E n f)) (hi : i.toInt = (j : Int)) (hj : j < n) (hv : narrow .boolean (.int x) = .int x) (hdg : decode Y.2.1 pc = .ok (.bastore, 1)) (kk : GTc cl E Y d G0 (pc + 1) lv rest (gUp G a (gAZ E n (upd f j x))) Q) : GTc cl E Y d G0 pc lv (.int x :: .int i :: .ref a :: rest) G Q := by
  intro p l e s m args below meth c X H locs ls hM hL h1 h2 hl
  have hE := X.2.2.2.2.1
  obtain ⟨e1, e2⟩ := g_ix hi hj
  have hat : H[a]? = some (vp_cell (gTy E 1) (n, .inl f)) := (hM.2.2.1 a _ ha).2
  have hT := (hE.K.2 1 _ (gTy_at hE.1 1 rfl))
  refine W.zast X.1 X.2.1 hat (hT.1 n (fun j => .int (f j))) (fun q => by cases q) (by show ¬ (i < 0 ∨ (arrV _ _ _).slots.size ≤ _); rw [arrV_size]; exact e1) rfl rfl hdg fun H1 e0 z oq => ?_
  refine kk p l e s m args below meth c X H1 _ ls (hM.set ha ?_ z oq) (fun q hq => by
    rcases List.mem_append.mp hq with h | h
    · exact hL q h
    · rw [List.mem_singleton.mp h]; exact (hM.2.2.1 a _ ha).1) h1 h2 hl
  show H1[a]? = some (vp_cell _ _)
  rw [e0]
  rw [vp_cell_i, vp_cell_i, arrV_store, e2]
  congr 2
  funext q
  by_cases hq : q = j
  · subst hq
    simp [updV, upd]
    exact hv
  · simp [updV, upd, hq]

theorem g_last {i : Int32} {j n : Nat} {f : Nat → Int64} {x : Int64} (ha : G.1 a = some (gAJ E n f)) (hi : i.toInt = (j : Int)) (hj : j < n) (hdg : decode Y.2.1 pc = .ok (.lastore, 1)) (kk : GTc cl E Y d G0 (pc + 1) lv rest (gUp G a (gAJ E n (vp_updL f j x))) Q) : GTc cl E Y d G0 pc lv (.long x :: .int i :: .ref a :: rest) G Q := by
  intro p l e s m args below meth c X H locs ls hM hL h1 h2 hl
  have hE := X.2.2.2.2.1
  obtain ⟨e1, e2⟩ := g_ix hi hj
  have hat : H[a]? = some (vp_cell (gTy E 2) (n, .inr (.inl f))) := (hM.2.2.1 a _ ha).2
  have hT := (hE.K.2 2 _ (gTy_at hE.1 2 rfl))
  refine W.last X.1 X.2.1 hat (hT.1 n (fun j => .long (f j))) (fun q => by cases q) (by show ¬ (i < 0 ∨ (arrV _ _ _).slots.size ≤ _); rw [arrV_size]; exact e1) rfl rfl hdg fun H1 e0 z oq => ?_
  refine kk p l e s m args below meth c X H1 _ ls (hM.set ha ?_ z oq) (fun q hq => by
    rcases List.mem_append.mp hq with h | h
    · exact hL q h
    · rw [List.mem_singleton.mp h]; exact (hM.2.2.1 a _ ha).1) h1 h2 hl
  show H1[a]? = some (vp_cell _ _)
  rw [e0]
  rw [vp_cell_l, vp_cell_l, arrV_store, e2]
  congr 2
  funext q
  by_cases hq : q = j
  · subst hq
    simp [updV, vp_updL]
  · simp [updV, vp_updL, hq]

/-- null into an array of references -/
theorem g_tastN {i : Int32} {j n : Nat} {f : Nat → Option Nat} (ha : G.1 a = some (gAT E n f)) (hi : i.toInt = (j : Int)) (hj : j < n) (hdg : decode Y.2.1 pc = .ok (.aastore, 1)) (kk : GTc cl E Y d G0 (pc + 1) lv rest (gUp G a (gAT E n (va_up f j none))) Q) : GTc cl E Y d G0 pc lv (.null :: .int i :: .ref a :: rest) G Q := by
  intro p l e s m args below meth c X H locs ls hM hL h1 h2 hl
  have hE := X.2.2.2.2.1
  obtain ⟨e1, e2⟩ := g_ix hi hj
  have hat : H[a]? = some (vp_cell (gTy E 3) (n, .inr (.inr (.inr (.inr f))))) := (hM.2.2.1 a _ ha).2
  have hT := (hE.K.2 3 _ (gTy_at hE.1 3 rfl))
  refine va_WaastN (C := "MatchMill$Term") X.1 X.2.1 hat (hT.1 n (fun j => va_rf (f j))) (fun q => by cases q) (by show ¬ (i < 0 ∨ (arrV _ _ _).slots.size ≤ _); rw [arrV_size]; exact e1) rfl rfl hdg fun H1 e0 z oq => ?_
  refine kk p l e s m args below meth c X H1 _ ls (hM.set ha ?_ z oq) (fun q hq => by
    rcases List.mem_append.mp hq with h | h
    · exact hL q h
    · rw [List.mem_singleton.mp h]; exact (hM.2.2.1 a _ ha).1) h1 h2 hl
  show H1[a]? = some (vp_cell _ _)
  rw [e0]
  rw [vp_cell_q, vp_cell_q, arrV_store, e2]
  congr 2
  funext q
  by_cases hq : q = j
  · subst hq
    simp [updV, va_up, va_rf]
  · simp [updV, va_up, hq]
/-- a Term into an array of Terms -/
theorem g_tast {i : Int32} {j n v ci N : Nat} {T : u_T} {vs : List Value} {f : Nat → Option Nat} (ha : G.1 a = some (gAT E n f)) (hi : i.toInt = (j : Int)) (hj : j < n) (hv : G.1 v = some (.inr (ci, vs))) (hc : cl[ci]? = some ("MatchMill$Term", T, N)) (hdg : decode Y.2.1 pc = .ok (.aastore, 1)) (kk : GTc cl E Y d G0 (pc + 1) lv rest (gUp G a (gAT E n (va_up f j (some v)))) Q) : GTc cl E Y d G0 pc lv (.ref v :: .int i :: .ref a :: rest) G Q := by
  intro p l e s m args below meth c X H locs ls hM hL h1 h2 hl
  have hE := X.2.2.2.2.1
  obtain ⟨e1, e2⟩ := g_ix hi hj
  have hat : H[a]? = some (vp_cell (gTy E 3) (n, .inr (.inr (.inr (.inr f))))) := (hM.2.2.1 a _ ha).2
  obtain ⟨r', hr', cellV, g1, g2, g3, -⟩ := (hM.2.2.1 v _ hv).2
  have hcls := (hE.K.1 ci _ hc).2
  obtain ⟨kA, comp, k1, k2, k3, -⟩ := (hE.K.2 3 _ (gTy_at hE.1 3 rfl)).2
  have hcomp : comp = E.2.1.1 ci := Option.some.inj (k3.symm.trans hcls.1)
  subst hcomp
  obtain ⟨kC, hkC, -⟩ := hcls.2
  refine W.aast X.1 X.2.1 hat (fun q h => by cases h) (fun h => by cases h) k1 k2 rfl hkC ⟨fun q => e1 (Or.inl q), by show _ < (arrV _ _ _).slots.size; rw [arrV_size, e2]; exact hj⟩ g1 (fun q h => by rw [g3] at h; cases h) (by rw [g2]; exact hkC) (by rw [g2]; exact va_assign hcls) rfl rfl hdg fun H1 e0 z oq => ?_
  refine kk p l e s m args below meth c X H1 _ ls (hM.set ha ?_ z oq) (fun q hq => by
    rcases List.mem_append.mp hq with h | h
    · exact hL q h
    · rw [List.mem_singleton.mp h]; exact (hM.2.2.1 a _ ha).1) h1 h2 hl
  show H1[a]? = some (vp_cell _ _)
  rw [e0]
  rw [vp_cell_q, vp_cell_q, arrV_store, e2]
  congr 2
  funext q
  by_cases hq : q = j
  · subst hq
    simp [updV, va_up, va_rf]
  · simp [updV, va_up, hq]

theorem g_newI {i : Int32} {N : Nat} (hw : Cond.arrayClass .int ∈ lw_tbl) (hi : i.toInt = (N : Int)) (hb : N * componentBytes .int ≤ 536870912) (hcl : G.2.1 + 1 ≤ E.1.heap.size + room_1.cells) (hsl : G.2.2 + N ≤ room_1.slots) (hdg : decode Y.2.1 pc = .ok (.newarray .int, 2)) (kk : GTc cl E Y d G0 (pc + 2) lv (.ref G.2.1 :: rest) (gNew G (gAI E N (fun _ => 0)) N) Q) : GTc cl E Y d G0 pc lv (.int i :: rest) G Q := by
  intro p l e s m args below meth c X H locs ls hM hL h1 h2 hl
  have hE := X.2.2.2.2.1
  obtain ⟨g1, g2, g3, g4, g5, g6⟩ := id hM
  have b0 := X.2.2.2.2.2.2.2.2.2.1.2.1
  have hneg : ¬ i < 0 := fun h => by rw [Int32.lt_iff_toInt_lt, hi, Int32.toInt_zero] at h; omega
  have hN : i.toNatClampNeg = N := by
    have h : i.toNatClampNeg = i.toInt.toNat := rfl
    rw [h, hi]; rfl
  refine va_newaK X.1 X.2.1 (atype := .int) (hE.word hw rfl args) (g := F0 m pc ls (.int i :: rest)) rfl hdg rfl hneg hN hb (by show _ ≤ room_1.cells - _; omega) (by show _ ≤ room_1.slots - _; omega) rfl fun H1 cA e1 z1 o1 hAr hNm => ?_
  have hcA : cA = gTy E 0 := by
    have h5 := (hE.K.2 0 _ (gTy_at hE.1 0 rfl)).2
    exact Option.some.inj (hNm.symm.trans h5)
  subst hcA
  have K := kk p l e s m args below meth c X H1 locs ls (hM.new (show H1[H.size]? = some (vp_cell _ _) from e1) z1 o1 hcl hsl) hL (by show _ ≤ G.2.1 + 1; omega) (by show _ ≤ G.2.2 + N; omega) hl
  have ee1 : (gNew G (gAI E N (fun _ => 0)) N).2.1 - G0.2.1 = G.2.1 - G0.2.1 + 1 := by show G.2.1 + 1 - G0.2.1 = _; omega
  have ee2 : (gNew G (gAI E N (fun _ => 0)) N).2.2 - G0.2.2 = G.2.2 - G0.2.2 + N := by show G.2.2 + N - G0.2.2 = _; omega
  rw [ee1, ee2] at K
  rw [g1]
  exact K

theorem g_newZ {i : Int32} {N : Nat} (hw : Cond.arrayClass .boolean ∈ lw_tbl) (hi : i.toInt = (N : Int)) (hb : N * componentBytes .boolean ≤ 536870912) (hcl : G.2.1 + 1 ≤ E.1.heap.size + room_1.cells) (hsl : G.2.2 + N ≤ room_1.slots) (hdg : decode Y.2.1 pc = .ok (.newarray .boolean, 2)) (kk : GTc cl E Y d G0 (pc + 2) lv (.ref G.2.1 :: rest) (gNew G (gAZ E N (fun _ => 0)) N) Q) : GTc cl E Y d G0 pc lv (.int i :: rest) G Q := by
  intro p l e s m args below meth c X H locs ls hM hL h1 h2 hl
  have hE := X.2.2.2.2.1
  obtain ⟨g1, g2, g3, g4, g5, g6⟩ := id hM
  have b0 := X.2.2.2.2.2.2.2.2.2.1.2.1
  have hneg : ¬ i < 0 := fun h => by rw [Int32.lt_iff_toInt_lt, hi, Int32.toInt_zero] at h; omega
  have hN : i.toNatClampNeg = N := by
    have h : i.toNatClampNeg = i.toInt.toNat := rfl
    rw [h, hi]; rfl
  refine va_newaK X.1 X.2.1 (atype := .boolean) (hE.word hw rfl args) (g := F0 m pc ls (.int i :: rest)) rfl hdg rfl hneg hN hb (by show _ ≤ room_1.cells - _; omega) (by show _ ≤ room_1.slots - _; omega) rfl fun H1 cA e1 z1 o1 hAr hNm => ?_
  have hcA : cA = gTy E 1 := by
    have h5 := (hE.K.2 1 _ (gTy_at hE.1 1 rfl)).2
    exact Option.some.inj (hNm.symm.trans h5)
  subst hcA
  have K := kk p l e s m args below meth c X H1 locs ls (hM.new (show H1[H.size]? = some (vp_cell _ _) from e1) z1 o1 hcl hsl) hL (by show _ ≤ G.2.1 + 1; omega) (by show _ ≤ G.2.2 + N; omega) hl
  have ee1 : (gNew G (gAZ E N (fun _ => 0)) N).2.1 - G0.2.1 = G.2.1 - G0.2.1 + 1 := by show G.2.1 + 1 - G0.2.1 = _; omega
  have ee2 : (gNew G (gAZ E N (fun _ => 0)) N).2.2 - G0.2.2 = G.2.2 - G0.2.2 + N := by show G.2.2 + N - G0.2.2 = _; omega
  rw [ee1, ee2] at K
  rw [g1]
  exact K

theorem g_newJ {i : Int32} {N : Nat} (hw : Cond.arrayClass .long ∈ lw_tbl) (hi : i.toInt = (N : Int)) (hb : N * componentBytes .long ≤ 536870912) (hcl : G.2.1 + 1 ≤ E.1.heap.size + room_1.cells) (hsl : G.2.2 + N ≤ room_1.slots) (hdg : decode Y.2.1 pc = .ok (.newarray .long, 2)) (kk : GTc cl E Y d G0 (pc + 2) lv (.ref G.2.1 :: rest) (gNew G (gAJ E N (fun _ => 0)) N) Q) : GTc cl E Y d G0 pc lv (.int i :: rest) G Q := by
  intro p l e s m args below meth c X H locs ls hM hL h1 h2 hl
  have hE := X.2.2.2.2.1
  obtain ⟨g1, g2, g3, g4, g5, g6⟩ := id hM
  have b0 := X.2.2.2.2.2.2.2.2.2.1.2.1
  have hneg : ¬ i < 0 := fun h => by rw [Int32.lt_iff_toInt_lt, hi, Int32.toInt_zero] at h; omega
  have hN : i.toNatClampNeg = N := by
    have h : i.toNatClampNeg = i.toInt.toNat := rfl
    rw [h, hi]; rfl
  refine va_newaK X.1 X.2.1 (atype := .long) (hE.word hw rfl args) (g := F0 m pc ls (.int i :: rest)) rfl hdg rfl hneg hN hb (by show _ ≤ room_1.cells - _; omega) (by show _ ≤ room_1.slots - _; omega) rfl fun H1 cA e1 z1 o1 hAr hNm => ?_
  have hcA : cA = gTy E 2 := by
    have h5 := (hE.K.2 2 _ (gTy_at hE.1 2 rfl)).2
    exact Option.some.inj (hNm.symm.trans h5)
  subst hcA
  have K := kk p l e s m args below meth c X H1 locs ls (hM.new (show H1[H.size]? = some (vp_cell _ _) from e1) z1 o1 hcl hsl) hL (by show _ ≤ G.2.1 + 1; omega) (by show _ ≤ G.2.2 + N; omega) hl
  have ee1 : (gNew G (gAJ E N (fun _ => 0)) N).2.1 - G0.2.1 = G.2.1 - G0.2.1 + 1 := by show G.2.1 + 1 - G0.2.1 = _; omega
  have ee2 : (gNew G (gAJ E N (fun _ => 0)) N).2.2 - G0.2.2 = G.2.2 - G0.2.2 + N := by show G.2.2 + N - G0.2.2 = _; omega
  rw [ee1, ee2] at K
  rw [g1]
  exact K

theorem g_newT {i : Int32} {N index : Nat} (hw : Cond.classLink Y.1.cls index "MatchMill$Term" ∈ lw_tbl) (hw2 : Cond.arrayOver (.object "MatchMill$Term") ∈ lw_tbl) (hi : i.toInt = (N : Int)) (hb : N * 4 ≤ 536870912) (hcl : G.2.1 + 1 ≤ E.1.heap.size + room_1.cells) (hsl : G.2.2 + N ≤ room_1.slots) (hdg : decode Y.2.1 pc = .ok (.anewarray index, 3)) (kk : GTc cl E Y d G0 (pc + 3) lv (.ref G.2.1 :: rest) (gNew G (gAT E N (fun _ => none)) N) Q) : GTc cl E Y d G0 pc lv (.int i :: rest) G Q := by
  intro p l e s m args below meth c X H locs ls hM hL h1 h2 hl
  have hE := X.2.2.2.2.1
  obtain ⟨g1, g2, g3, g4, g5, g6⟩ := id hM
  have b0 := X.2.2.2.2.2.2.2.2.2.1.2.1
  have hneg : ¬ i < 0 := fun h => by rw [Int32.lt_iff_toInt_lt, hi, Int32.toInt_zero] at h; omega
  have hN : i.toNatClampNeg = N := by
    have h : i.toNatClampNeg = i.toInt.toNat := rfl
    rw [h, hi]; rfl
  subst hN
  refine W.anew X.1 X.2.1 X.2.2.2.1 (hE.word hw rfl args) (g_over hE hw2 args) (g := F0 m pc ls (.int i :: rest)) rfl hdg rfl hneg hb (by show _ ≤ room_1.cells - _; omega) (by show _ ≤ room_1.slots - _; omega) fun cA kA comp f1 f2 f3 f4 => ?_
  generalize hH1 : H.push ({ cls := cA, slots := Array.replicate i.toNatClampNeg .null, vm := .none } : Cell) = H1
  have z1 : H1.size = H.size + 1 := by rw [← hH1, Array.size_push]
  have e1 : H1[H.size]? = some (arrV cA i.toNatClampNeg (fun _ => .null)) := by rw [← hH1, Array.getElem?_push_size, ← arrV_new]
  have o1 : ∀ q : Nat, q < H.size → H1[q]? = H[q]? := fun q hq => by rw [← hH1, Array.getElem?_push, if_neg (Nat.ne_of_lt hq)]
  have hcA : cA = gTy E 3 := by
    obtain ⟨_, _, _, _, _, h5⟩ := (hE.K.2 3 _ (gTy_at hE.1 3 rfl)).2
    exact Option.some.inj (f1.symm.trans h5)
  subst hcA
  have K := kk p l e s m args below meth c X H1 locs ls (hM.new (show H1[H.size]? = some (vp_cell _ _) from e1) z1 o1 hcl hsl) hL (by show _ ≤ G.2.1 + 1; omega) (by show _ ≤ G.2.2 + _; omega) hl
  have ee1 : (gNew G (gAT E i.toNatClampNeg (fun _ => none)) i.toNatClampNeg).2.1 - G0.2.1 = G.2.1 - G0.2.1 + 1 := by show G.2.1 + 1 - G0.2.1 = _; omega
  have ee2 : (gNew G (gAT E i.toNatClampNeg (fun _ => none)) i.toNatClampNeg).2.2 - G0.2.2 = G.2.2 - G0.2.2 + i.toNatClampNeg := by show G.2.2 + _ - G0.2.2 = _; omega
  rw [ee1, ee2] at K
  rw [g1]
  exact K

theorem g_newO {i : Int32} {N index : Nat} (hw : Cond.classLink Y.1.cls index "java/lang/Object" ∈ lw_tbl) (hw2 : Cond.arrayOver (.object "java/lang/Object") ∈ lw_tbl) (hi : i.toInt = (N : Int)) (hb : N * 4 ≤ 536870912) (hcl : G.2.1 + 1 ≤ E.1.heap.size + room_1.cells) (hsl : G.2.2 + N ≤ room_1.slots) (hdg : decode Y.2.1 pc = .ok (.anewarray index, 3)) (kk : GTc cl E Y d G0 (pc + 3) lv (.ref G.2.1 :: rest) (gNew G (gAO E N (fun _ => none)) N) Q) : GTc cl E Y d G0 pc lv (.int i :: rest) G Q := by
  intro p l e s m args below meth c X H locs ls hM hL h1 h2 hl
  have hE := X.2.2.2.2.1
  obtain ⟨g1, g2, g3, g4, g5, g6⟩ := id hM
  have b0 := X.2.2.2.2.2.2.2.2.2.1.2.1
  have hneg : ¬ i < 0 := fun h => by rw [Int32.lt_iff_toInt_lt, hi, Int32.toInt_zero] at h; omega
  have hN : i.toNatClampNeg = N := by
    have h : i.toNatClampNeg = i.toInt.toNat := rfl
    rw [h, hi]; rfl
  subst hN
  refine W.anew X.1 X.2.1 X.2.2.2.1 (hE.word hw rfl args) (g_over hE hw2 args) (g := F0 m pc ls (.int i :: rest)) rfl hdg rfl hneg hb (by show _ ≤ room_1.cells - _; omega) (by show _ ≤ room_1.slots - _; omega) fun cA kA comp f1 f2 f3 f4 => ?_
  generalize hH1 : H.push ({ cls := cA, slots := Array.replicate i.toNatClampNeg .null, vm := .none } : Cell) = H1
  have z1 : H1.size = H.size + 1 := by rw [← hH1, Array.size_push]
  have e1 : H1[H.size]? = some (arrV cA i.toNatClampNeg (fun _ => .null)) := by rw [← hH1, Array.getElem?_push_size, ← arrV_new]
  have o1 : ∀ q : Nat, q < H.size → H1[q]? = H[q]? := fun q hq => by rw [← hH1, Array.getElem?_push, if_neg (Nat.ne_of_lt hq)]
  have hcA : cA = gTy E 4 := by
    obtain ⟨_, _, _, _, _, h5⟩ := (hE.K.2 4 _ (gTy_at hE.1 4 rfl)).2
    exact Option.some.inj (f1.symm.trans h5)
  subst hcA
  have K := kk p l e s m args below meth c X H1 locs ls (hM.new (show H1[H.size]? = some (vp_cell _ _) from e1) z1 o1 hcl hsl) hL (by show _ ≤ G.2.1 + 1; omega) (by show _ ≤ G.2.2 + _; omega) hl
  have ee1 : (gNew G (gAO E i.toNatClampNeg (fun _ => none)) i.toNatClampNeg).2.1 - G0.2.1 = G.2.1 - G0.2.1 + 1 := by show G.2.1 + 1 - G0.2.1 = _; omega
  have ee2 : (gNew G (gAO E i.toNatClampNeg (fun _ => none)) i.toNatClampNeg).2.2 - G0.2.2 = G.2.2 - G0.2.2 + i.toNatClampNeg := by show G.2.2 + _ - G0.2.2 = _; omega
  rw [ee1, ee2] at K
  rw [g1]
  exact K

end GE
