/-! Rows of the ghost layer: cells -/
def gUp (G : gS) (a : Nat) (x : va_E) : gS := (va_up G.1 a (some x), G.2.1, G.2.2)
def gNew (G : gS) (x : va_E) (n : Nat) : gS := (va_up G.1 G.2.1 (some x), G.2.1 + 1, G.2.2 + n)
theorem gMatch.set {cl : List vw_C} {E : gE} {G : gS} {H H1 : Heap} {a : Nat} {x0 x : va_E} (h : gMatch cl E G H) (ha : G.1 a = some x0) (hx : va_at E.2.1 cl (a, x) H1) (hz : H1.size = H.size) (ho : ∀ q : Nat, q ≠ a → H1[q]? = H[q]?) : gMatch cl E (gUp G a x) H1 := by
  obtain ⟨g1, g2, g3, g4, g5, g6⟩ := h
  have hba := (g3 a x0 ha).1
  refine ⟨by rw [hz]; exact g1, g2, fun b y hb => ?_, fun q hq => ?_, g5, g6⟩
  · by_cases hab : b = a
    · subst hab
      simp only [gUp, va_up, if_pos] at hb
      cases hb
      exact ⟨hba, hx⟩
    · simp only [gUp, va_up, if_neg hab] at hb
      obtain ⟨k1, k2⟩ := g3 b y hb
      exact ⟨k1, k2.kept (ho b hab)⟩
  · rw [ho q (by omega)]
    exact g4 q hq
theorem gMatch.new {cl : List vw_C} {E : gE} {G : gS} {H H1 : Heap} {x : va_E} {n : Nat} (h : gMatch cl E G H) (hx : va_at E.2.1 cl (H.size, x) H1) (hz : H1.size = H.size + 1) (ho : ∀ q : Nat, q < H.size → H1[q]? = H[q]?) (hc : G.2.1 + 1 ≤ E.1.heap.size + room_1.cells) (hs : G.2.2 + n ≤ room_1.slots) : gMatch cl E (gNew G x n) H1 := by
  obtain ⟨g1, g2, g3, g4, g5, g6⟩ := h
  refine ⟨by rw [hz, g1]; rfl, by show _ ≤ G.2.1 + 1; omega, fun b y hb => ?_, fun q hq => ?_, hc, hs⟩
  · by_cases hab : b = G.2.1
    · subst hab
      simp only [gNew, va_up, if_pos] at hb
      cases hb
      rw [← g1]
      exact ⟨by omega, hx⟩
    · simp only [gNew, va_up, if_neg hab] at hb
      obtain ⟨k1, k2⟩ := g3 b y hb
      exact ⟨k1, k2.kept (ho b k2.lt)⟩
  · rw [ho q (by omega)]
    exact g4 q hq
/-- a class, as the tables have it: its place among the classes, its fields, their types -/
def gCls (cl : List vw_C) (ci : Nat) (C : String) (T : u_T) (N : Nat) (ty : Nat → FieldType) : Prop :=
  cl[ci]? = some (C, T, N) ∧ (∀ w ∈ u_ws C T N, w ∈ lw_tbl ∧ gWarm w = true) ∧ (∀ k, k < N → parseFieldDescriptor (T k).2.2.1 = some (ty k)) ∧ ∀ a, a < N → ∀ b, b < N → a ≠ b → (T a).2.1 ≠ (T b).2.1
/-- a field as an instruction names it -/
def gFld (own : String) (index : Nat) (T : u_T) (k : Nat) : Prop :=
  (∃ ref : String, Cond.fieldLink own index ref (T k).2.1 (T k).2.2.1 ∈ lw_tbl ∧ (ref = (T k).1 ∨ Cond.sameField ref (T k).1 (T k).2.1 (T k).2.2.1 ∈ lw_tbl))
def gFldN (own : String) (index : Nat) (T : u_T) (k : Nat) : Prop :=
  ∃ host : String, Cond.fieldLinkNest own index (T k).1 (T k).2.1 (T k).2.2.1 host ∈ lw_tbl
theorem gFld.use {own : String} {index : Nat} {T : u_T} {k : Nat} (h : gFld own index T k) {cl : List vw_C} {E : gE} {s : State} (hE : gEnv cl E s) (a : Array Value) :
    ∃ ref : String, (Cond.fieldLink own index ref (T k).2.1 (T k).2.2.1).before a s = true ∧ ∀ x, s.fieldFound? (T k).1 (T k).2.1 (T k).2.2.1 = some x → s.fieldFound? ref (T k).2.1 (T k).2.2.1 = some x := by
  obtain ⟨ref, h1, h2⟩ := h
  refine ⟨ref, hE.word h1 rfl a, fun x hx => ?_⟩
  rcases h2 with rfl | h2
  · exact hx
  · exact u_same (hE.word (s := s) h2 rfl a) x hx
section GD
variable {cl : List vw_C} {E : gE} {Y : gY} {d : Nat} {G0 G : gS} {Q : gO → gS → Prop} {pc : Nat} {lv lv' : List (Nat × Value)} {st rest : List Value}
theorem g_getf {ci k N index : Nat} {C : String} {T : u_T} {ty : Nat → FieldType} {fs : List Value} {v : Value} {a : Nat} (hc : gCls cl ci C T N ty) (hf : gFld Y.1.cls index T k) (hk : k < N) (ha : G.1 a = some (.inr (ci, fs))) (hv : fs[k]? = some v) (hdg : decode Y.2.1 pc = .ok (.getfield index, 3)) (kk : GTc cl E Y d G0 (pc + 3) lv (v :: rest) G Q) : GTc cl E Y d G0 pc lv (.ref a :: rest) G Q := by
  intro p l e s m args below meth c X H locs ls hM hL h1 h2 hl
  have hE := X.2.2.2.2.1
  obtain ⟨ref, e1, e2⟩ := hf.use hE args
  exact va_get (D := E.2.1) (cl := cl) (tys := E.2.2) (ws := [(a, .inr (ci, fs))]) (Ts := u_ws C T N) X.1 X.2.1 (fun w hw => hE.word (hc.2.1 w hw).1 (hc.2.1 w hw).2 args) (fun w hw => hw) X.2.2.2.1 hE.K (fun i q hi => by
    have hz : i < 1 := (List.getElem?_eq_some_iff.mp hi).1
    rw [show i = 0 by omega] at hi
    cases hi
    exact (hM.2.2.1 a _ ha).2) 0 rfl hc.1 k hk e1 e2 hv hdg (kk p l e s m args below meth c X H locs ls hM hL h1 h2 hl)
theorem g_getfN {ci k N index : Nat} {C : String} {T : u_T} {ty : Nat → FieldType} {fs : List Value} {v : Value} {a : Nat} (hc : gCls cl ci C T N ty) (hf : gFldN Y.1.cls index T k) (hk : k < N) (ha : G.1 a = some (.inr (ci, fs))) (hv : fs[k]? = some v) (hdg : decode Y.2.1 pc = .ok (.getfield index, 3)) (kk : GTc cl E Y d G0 (pc + 3) lv (v :: rest) G Q) : GTc cl E Y d G0 pc lv (.ref a :: rest) G Q := by
  intro p l e s m args below meth c X H locs ls hM hL h1 h2 hl
  have hE := X.2.2.2.2.1
  obtain ⟨host, e1⟩ := hf
  exact va_getN (D := E.2.1) (cl := cl) (tys := E.2.2) (ws := [(a, .inr (ci, fs))]) (Ts := u_ws C T N) X.1 X.2.1 (fun w hw => hE.word (hc.2.1 w hw).1 (hc.2.1 w hw).2 args) (fun w hw => hw) X.2.2.2.1 hE.K (fun i q hi => by
    have hz : i < 1 := (List.getElem?_eq_some_iff.mp hi).1
    rw [show i = 0 by omega] at hi
    cases hi
    exact (hM.2.2.1 a _ ha).2) 0 rfl hc.1 k hk (hE.word e1 rfl args) (fun _ h => h) hv hdg (kk p l e s m args below meth c X H locs ls hM hL h1 h2 hl)
/-- what a store into a field needs of the tables -/
theorem g_fieldAt {ci k N : Nat} {C : String} {T : u_T} {ty : Nat → FieldType} {fs : List Value} {a : Nat} {s : State} {H : Heap} (hc : gCls cl ci C T N ty) (hE : gEnv cl E s) (hM : gMatch cl E G H) (hk : k < N) (ha : G.1 a = some (.inr (ci, fs))) (args : Array Value) :
    ∃ (cell : Cell) (cf : ClassId) (kf : Class) (fi : Nat) (f : Field) (kC : Class), H[a]? = some cell ∧ cell.cls = E.2.1.1 ci ∧ cell.vm = .none ∧ (∀ j, j < N → cell.slots[E.2.1.2 ci j]? = some (vp_V fs j)) ∧ s.fieldFound? (T k).1 (T k).2.1 (T k).2.2.1 = some (cf, kf, fi, f) ∧ f.slot = E.2.1.2 ci k ∧ s.vm.findClass C = some (E.2.1.1 ci) ∧ s.vm.classes[E.2.1.1 ci]? = some kC ∧ kC.kind = .ordinary ∧ f.isStatic = false ∧ (∀ x y, x < N → y < N → x ≠ y → E.2.1.2 ci x ≠ E.2.1.2 ci y) ∧ (u_lay C T k).before args s = true := by
  have hts : ∀ w ∈ u_ws C T N, w.before args s = true := fun w hw => hE.word (hc.2.1 w hw).1 (hc.2.1 w hw).2 args
  have hap := va_apart (own := C) (D := E.2.1) (cl := cl) (tys := E.2.2) hts (fun w hw => hw) ty hc.2.2.1 hc.2.2.2 hE.K hc.1
  obtain ⟨r, g1, cell, q1, q2, q3, q4⟩ := (hM.2.2.1 a _ ha).2
  have hr : r = (C, T, N) := Option.some.inj (g1.symm.trans hc.1)
  subst hr
  obtain ⟨hS, hfc, kC, hkC, hkind⟩ := hE.K.1 ci _ hc.1
  obtain ⟨cf, kf, fi, f, hi, hsl⟩ := hS k hk
  exact ⟨cell, cf, kf, fi, f, kC, q1, q2, q3, q4, hi, hsl, hfc, hkC, hkind, (u_facts hfc hkC (u_lays hts (fun w hw => hw) hk) hi).1, hap, hts _ (u_in_lay hk)⟩
theorem g_putf {ci k N index : Nat} {C : String} {T : u_T} {ty : Nat → FieldType} {fs fs' : List Value} {v : Value} {a : Nat} (hc : gCls cl ci C T N ty) (hf : gFld Y.1.cls index T k) (hk : k < N) (ha : G.1 a = some (.inr (ci, fs))) (hfin : (T k).2.2.2 = false) (hn : narrow (ty k) v = v) (hfit : fits (ty k) v = true) (hlen : k < fs.length) (hs : fs.set k v = fs') (hdg : decode Y.2.1 pc = .ok (.putfield index, 3)) (kk : GTc cl E Y d G0 (pc + 3) lv rest (gUp G a (.inr (ci, fs'))) Q) : GTc cl E Y d G0 pc lv (v :: .ref a :: rest) G Q := by
  subst hs
  intro p l e s m args below meth c X H locs ls hM hL h1 h2 hl
  have hE := X.2.2.2.2.1
  obtain ⟨ref, e1, e2⟩ := hf.use hE args
  obtain ⟨cell, cf, kf, fi, f, kC, q1, q2, q3, q4, hi, hsl, hfc, hkC, hkind, hst, hap, hlay⟩ := g_fieldAt hc hE hM hk ha args
  unfold u_lay at hlay
  rw [if_neg (by rw [hfin]; decide)] at hlay
  have h6 := u_store hfc hkC hkind hlay hi (hc.2.2.1 k hk) hn hfit
  refine W.putK X.1 X.2.1 (f := f) ⟨X.2.2.2.1, e1, ⟨_, _, _, e2 _ hi⟩, hst⟩ (by rw [q2]; exact h6) q1 q3 (by rw [hsl]; exact k2_hasslot (q4 k hk)) rfl rfl hdg fun H' e1 e2 e3 => ?_
  rw [hsl] at e1 ⊢
  exact kk p l e s m args below meth c X H' _ ls (hM.set ha ⟨_, hc.1, t_OB.to (V := updV (vp_V fs) k v) ⟨_, e1, q2, q3, t_set q4 hap hk v⟩ (fun j _ => vp_updV_set hlen v j)⟩ e2 e3) (fun q hq => by
    rcases List.mem_append.mp hq with h | h
    · exact hL q h
    · rw [List.mem_singleton.mp h]; exact (hM.2.2.1 a _ ha).1) h1 h2 hl
theorem g_putfN {ci k N index : Nat} {C : String} {T : u_T} {ty : Nat → FieldType} {fs fs' : List Value} {v : Value} {a : Nat} (hc : gCls cl ci C T N ty) (hf : gFldN Y.1.cls index T k) (hk : k < N) (ha : G.1 a = some (.inr (ci, fs))) (hfin : (T k).2.2.2 = false) (hn : narrow (ty k) v = v) (hfit : fits (ty k) v = true) (hlen : k < fs.length) (hs : fs.set k v = fs') (hdg : decode Y.2.1 pc = .ok (.putfield index, 3)) (kk : GTc cl E Y d G0 (pc + 3) lv rest (gUp G a (.inr (ci, fs'))) Q) : GTc cl E Y d G0 pc lv (v :: .ref a :: rest) G Q := by
  subst hs
  intro p l e s m args below meth c X H locs ls hM hL h1 h2 hl
  have hE := X.2.2.2.2.1
  obtain ⟨host, e1⟩ := hf
  obtain ⟨cell, cf, kf, fi, f, kC, q1, q2, q3, q4, hi, hsl, hfc, hkC, hkind, hst, hap, hlay⟩ := g_fieldAt hc hE hM hk ha args
  unfold u_lay at hlay
  rw [if_neg (by rw [hfin]; decide)] at hlay
  have h6 := u_store hfc hkC hkind hlay hi (hc.2.2.1 k hk) hn hfit
  refine va_WputK X.1 X.2.1 (f := f) X.2.2.2.1 (hE.word e1 rfl args) hi hst (by rw [q2]; exact h6) q1 q3 (by rw [hsl]; exact k2_hasslot (q4 k hk)) rfl rfl hdg fun H' e1 e2 e3 => ?_
  rw [hsl] at e1 ⊢
  exact kk p l e s m args below meth c X H' _ ls (hM.set ha ⟨_, hc.1, t_OB.to (V := updV (vp_V fs) k v) ⟨_, e1, q2, q3, t_set q4 hap hk v⟩ (fun j _ => vp_updV_set hlen v j)⟩ e2 e3) (fun q hq => by
    rcases List.mem_append.mp hq with h | h
    · exact hL q h
    · rw [List.mem_singleton.mp h]; exact (hM.2.2.1 a _ ha).1) h1 h2 hl
theorem g_putF {ci k N index : Nat} {C : String} {T : u_T} {ty : Nat → FieldType} {fs fs' : List Value} {v : Value} {a : Nat} (hc : gCls cl ci C T N ty) (hf : gFld Y.1.cls index T k) (hk : k < N) (ha : G.1 a = some (.inr (ci, fs))) (hfin : (T k).2.2.2 = true) (hin : Y.1.name = "<init>") (hdecl : (T k).1 = Y.1.cls) (hn : narrow (ty k) v = v) (hfit : fits (ty k) v = true) (hlen : k < fs.length) (hs : fs.set k v = fs') (hdg : decode Y.2.1 pc = .ok (.putfield index, 3)) (kk : GTc cl E Y d G0 (pc + 3) lv rest (gUp G a (.inr (ci, fs'))) Q) : GTc cl E Y d G0 pc lv (v :: .ref a :: rest) G Q := by
  subst hs
  intro p l e s m args below meth c X H locs ls hM hL h1 h2 hl
  have hE := X.2.2.2.2.1
  obtain ⟨ref, e1, e2⟩ := hf.use hE args
  obtain ⟨cell, cf, kf, fi, f, kC, q1, q2, q3, q4, hi, hsl, hfc, hkC, hkind, hst, hap, hlay⟩ := g_fieldAt hc hE hM hk ha args
  unfold u_lay at hlay
  rw [if_pos hfin] at hlay
  have hown := X.2.2.2.1
  have hcf : m.cls = cf := by
    obtain ⟨_, _, c', _, _, _, -, -, hf', -, -, -, hown2, -⟩ := Cond.laysFinal_spec hlay
    have e1 : c' = cf := by have := hi.symm.trans hf'; simp at this; exact this.1.symm
    rw [hdecl] at hown2
    rw [← e1]; exact Option.some.inj (hown.symm.trans hown2)
  have h6 := u_fits hfc hkC hkind (Or.inr hlay) hi (hc.2.2.1 k hk) hn hfit
  have hnm : meth.name = "<init>" := by rw [X.2.2.2.2.2.2.2.2.1]; exact hin
  refine W.putFinK X.1 X.2.1 hown e1 (e2 _ hi) hst hcf hnm (by rw [q2]; exact h6) q1 q3 (by rw [hsl]; exact k2_hasslot (q4 k hk)) rfl rfl hdg fun H' e1 e2 e3 => ?_
  rw [hsl] at e1 ⊢
  exact kk p l e s m args below meth c X H' _ ls (hM.set ha ⟨_, hc.1, t_OB.to (V := updV (vp_V fs) k v) ⟨_, e1, q2, q3, t_set q4 hap hk v⟩ (fun j _ => vp_updV_set hlen v j)⟩ e2 e3) (fun q hq => by
    rcases List.mem_append.mp hq with h | h
    · exact hL q h
    · rw [List.mem_singleton.mp h]; exact (hM.2.2.1 a _ ha).1) h1 h2 hl
theorem g_new {ci N index : Nat} {C : String} {T : u_T} {ty : Nat → FieldType} {fs : List Value} (hc : gCls cl ci C T N ty) (hw1 : Cond.classLink Y.1.cls index C ∈ lw_tbl) (hw2 : Cond.instantiable C N ∈ lw_tbl) (hw3 : Cond.initialized C ∈ lw_tbl) (hfs : ∀ j, j < N → defaultValue (ty j) = vp_V fs j) (hcl : G.2.1 + 1 ≤ E.1.heap.size + room_1.cells) (hsl : G.2.2 + N ≤ room_1.slots) (hdg : decode Y.2.1 pc = .ok (.new index, 3)) (kk : GTc cl E Y d G0 (pc + 3) lv (.ref G.2.1 :: rest) (gNew G (.inr (ci, fs)) N) Q) : GTc cl E Y d G0 pc lv rest G Q := by
  intro p l e s m args below meth c X H locs ls hM hL h1 h2 hl
  have hE := X.2.2.2.2.1
  have hts : ∀ w ∈ u_ws C T N, w.before args s = true := fun w hw => hE.word (hc.2.1 w hw).1 (hc.2.1 w hw).2 args
  have hKn := hE.K.1 ci _ hc.1
  obtain ⟨g1, g2, g3, g4, g5, g6⟩ := id hM
  have b0 := X.2.2.2.2.2.2.2.2.2.1.2.1
  refine W.newcK X.1 X.2.1 X.2.2.2.1 (hE.word hw1 rfl args) (hE.word hw2 rfl args) (hE.word hw3 rfl args) rfl hdg (by show _ ≤ room_1.cells - _; omega) (by show _ ≤ room_1.slots - _; omega) hKn.2.1 rfl fun H1 kC hkC e1 z1 o1 => ?_
  have K := kk p l e s m args below meth c X H1 locs ls (hM.new ⟨_, hc.1, (u_born ty hts (fun w hw => hw) hKn hkC e1 hc.2.2.1).to hfs⟩ z1 o1 hcl hsl) hL (by show _ ≤ G.2.1 + 1; omega) (by show _ ≤ G.2.2 + N; omega) hl
  have ee1 : (gNew G (.inr (ci, fs)) N).2.1 - G0.2.1 = G.2.1 - G0.2.1 + 1 := by show G.2.1 + 1 - G0.2.1 = _; omega
  have ee2 : (gNew G (.inr (ci, fs)) N).2.2 - G0.2.2 = G.2.2 - G0.2.2 + N := by show G.2.2 + N - G0.2.2 = _; omega
  rw [ee1, ee2] at K
  rw [g1]
  exact K
end GD
