/-! THE GHOST LAYER: one world for the whole run: what every cell holds that was made since the law's entry (a function of its address), how many cells there are, how many slots were made. A method's contract (GM) and a walk's goal (GT) speak of that world alone; the machine, the frames, the room and the tables are in gCtx. -/
/-- a method: its name, bytes, number of locals, type of its answer, handlers -/
abbrev gY : Type := MethodName × ByteArray × Nat × Option FieldType × List (Nat × Nat × Nat × Nat)
/-- contents by address; the heap's size; slots made so far -/
abbrev gS : Type := (Nat → Option va_E) × Nat × Nat
/-- an end: an answer, or an exception of the class of that name -/
abbrev gO : Type := Option Value ⊕ String
/-- what is fixed over the run: the state at the law's entry, the numbers of the classes and of their fields, the array classes -/
abbrev gE : Type := State × va_G × List (ClassId × FieldType)
def gWord (Y : gY) : Cond := if Y.2.2.2.2 = [] then .code Y.1 Y.2.1 Y.2.2.1 Y.2.2.2.1 else .codeWith Y.1 Y.2.1 Y.2.2.1 Y.2.2.2.1 Y.2.2.2.2
theorem gWord_spec {Y : gY} {args : Array Value} {s : State} {m : MethodId} (hn : s.methodNamed? Y.1 = some m) (h : (gWord Y).before args s = true) :
    ∃ (meth : Method) (c : Code), s.vm.method? m = some meth ∧ meth.code = some c ∧ c.code = Y.2.1 ∧ c.maxLocals = Y.2.2.1 ∧ meth.sig.returnType = Y.2.2.2.1 ∧ meth.locks = false ∧ c.exceptionTable.toList = tableOf Y.2.2.2.2 ∧ parseMethodDescriptor Y.1.desc = some meth.sig := by
  obtain ⟨y, cc, mL, ret, hand⟩ := Y
  unfold gWord at h
  dsimp only at h hn ⊢
  by_cases hh : hand = []
  · rw [if_pos hh] at h
    subst hh
    obtain ⟨meth, c, h1, h2, h3, h4, h5, h6, h7, h8⟩ := Cond.code_spec hn h
    have h0 : c.exceptionTable.size = 0 := by simpa [Array.isEmpty] using h7
    have h9 : c.exceptionTable.toList = [] := List.eq_nil_of_length_eq_zero (by simpa using h0)
    exact ⟨meth, c, h1, h2, h3, h4, h5, h6, h9, h8⟩
  · rw [if_neg hh] at h
    obtain ⟨m', meth, c, h0, h1, h2, h3, h4, h7, h5, h6, h8⟩ := Cond.codeWith_spec h
    cases hn.symm.trans h0
    exact ⟨meth, c, h1, h2, h3, h4, h5, h6, by rw [← h7, table_eq], h8⟩
/-- words that stay under warmer tables -/
def gWarm : Cond → Bool
  | .castable _ _ => true
  | .declares _ => true
  | .methodLinkNest _ _ _ _ => true
  | .fieldLinkNest _ _ _ _ _ _ => true
  | w => goodWord w
theorem gWarm_at {w : Cond} (hg : gWarm w = true) {a0 : Array Value} {s U : State} (hW : s.WarmedH U.vm) (h : w.before a0 s = true) (a : Array Value) : w.before a U = true := by
  have hg0 := hg
  cases w
  case castable x y => exact va_Nw.use rfl (va_Nw.warmC hW (va_Nw.of rfl h))
  case declares x => exact va_Nw.use rfl (va_Nw.warmD hW (va_Nw.of rfl h))
  case methodLinkNest x i y z => exact va_Nw.use rfl (va_Nw.warmM hW (va_Nw.of rfl h))
  case fieldLinkNest x i y z u v => exact va_Nw.use rfl (va_Nw.warmF hW (va_Nw.of rfl h))
  all_goals exact word_at hW (good_of_word hg0) h
def gIAE : String := "java/lang/IllegalArgumentException"
def gISE : String := "java/lang/IllegalStateException"
def gUOE : String := "java/lang/UnsupportedOperationException"
/-- at the law's entry: the tables' words; the classes and array classes; what the Statement says of Throwable's two statics, and of exceptions that are no others -/
def gTys : List FieldType := [.int, .boolean, .long, .object "MatchMill$Term", .object "java/lang/Object"]
def gBase (cl : List vw_C) (E : gE) : Prop := E.2.2.map (·.2) = gTys ∧ (∃ a0 : Array Value, (∀ w ∈ lw_tbl, w.before a0 E.1 = true) ∧ (Jvm.Cond.and given_1 narrow_1).before a0 E.1 = true) ∧ va_K E.2.1 cl E.2.2 E.1 ∧ vx_Zq Bundle.tN "UNASSIGNED_STACK" Bundle.steD (fun q => E.1.heap.size ≤ q) E.1 E.1.heap ∧ vx_Zq Bundle.tN "SUPPRESSED_SENTINEL" Bundle.listD (fun q => E.1.heap.size ≤ q) E.1 E.1.heap ∧ va_Nc gISE gIAE E.1 ∧ va_Nc gUOE gISE E.1
/-- the law's own state is behind: its tables, warmer -/
def gEnv (cl : List vw_C) (E : gE) (s : State) : Prop := gBase cl E ∧ E.1.WarmedH s.vm
theorem gEnv.word {cl : List vw_C} {E : gE} {s : State} (h : gEnv cl E s) {w : Cond} (hw : w ∈ lw_tbl) (hg : gWarm w = true) (a : Array Value) : w.before a s = true := by
  obtain ⟨⟨-, ⟨a0, h0, -⟩, -⟩, hW⟩ := h
  exact gWarm_at hg hW (h0 w hw) a
theorem gEnv.K {cl : List vw_C} {E : gE} {s : State} (h : gEnv cl E s) : va_K E.2.1 cl E.2.2 s := va_K.moved h.2.alike h.1.2.2.1
theorem gEnv.warm {cl : List vw_C} {E : gE} {s U : State} (h : gEnv cl E s) (hW : s.WarmedH U.vm) : gEnv cl E U := ⟨h.1, State.WarmedH.trans h.2 hW⟩
def gMatch (cl : List vw_C) (E : gE) (G : gS) (H : Heap) : Prop :=
  H.size = G.2.1 ∧ E.1.heap.size ≤ G.2.1 ∧ (∀ (a : Nat) (x : va_E), G.1 a = some x → E.1.heap.size ≤ a ∧ va_at E.2.1 cl (a, x) H) ∧ (∀ q : Nat, q < E.1.heap.size → H[q]? = E.1.heap[q]?) ∧ G.2.1 ≤ E.1.heap.size + room_1.cells ∧ G.2.2 ≤ room_1.slots
def gRoom (E : gE) (d : Nat) (G : gS) : Room := { frames := d, cells := room_1.cells - (G.2.1 - E.1.heap.size), slots := room_1.slots - G.2.2, locals := 60 * d }
def gFr (s t : State) (L : List Loc) (k n : Nat) : Prop := s.WarmedH t.vm ∧ s.sameButNew ({ t with vm := s.vm } : State) L k n
def gOut (out : gO) (o : Outcome) (t : State) : Prop := match out with
  | .inl v => o = .returned v
  | .inr C => ∃ (x : Addr) (cell : Cell), o = .threw x ∧ t.heap[x]? = some cell ∧ cell.vm.isStatics = false ∧ t.vm.findClass C = some cell.cls
def gPost (cl : List vw_C) (E : gE) (G0 : gS) (Q : gO → gS → Prop) (s : State) (o : Outcome) (t : State) : Prop :=
  ∃ (out : gO) (G : gS) (L : List Loc), Q out G ∧ gOut out o t ∧ gMatch cl E G t.heap ∧ G0.2.1 ≤ G.2.1 ∧ G0.2.2 ≤ G.2.2 ∧ gFr s t L (G.2.1 - G0.2.1) (G.2.2 - G0.2.2) ∧ ∀ q ∈ L, E.1.heap.size ≤ q.base
def gPre (cl : List vw_C) (E : gE) (G : gS) (as : List Value) (a : Array Value) (s : State) : Prop := a = as.toArray ∧ gEnv cl E s ∧ gMatch cl E G s.heap
/-- A METHOD'S CONTRACT: from the world G, with the arguments 'as', d frames deep at most: it ends so that Q -/
def GMc (cl : List vw_C) (E : gE) (Y : gY) (d : Nat) (as : List Value) (G : gS) (Q : gO → gS → Prop) : Prop :=
  ∀ l : Launch, l.stackTraces = false → MetFree l Y.1 (headSpec [gWord Y] (gRoom E d G)) (gPre cl E G as) (fun _ _ _ _ _ => True) (fun _ s o t => gPost cl E G Q s o t)
def gCtx (cl : List vw_C) (E : gE) (Y : gY) (G0 : gS) (p : Program) (l : Launch) (s : State) (m : MethodId) (meth : Method) (c : Code) : Prop :=
  p.tables.exec = Jvm.exec ∧ c.code = Y.2.1 ∧ c.maxLocals = Y.2.2.1 ∧ s.vm.findClass Y.1.cls = some m.cls ∧ gEnv cl E s ∧ meth.sig.returnType = Y.2.2.2.1 ∧ meth.locks = false ∧ c.exceptionTable.toList = tableOf Y.2.2.2.2 ∧ meth.name = Y.1.name ∧ gMatch cl E G0 s.heap ∧ l.stackTraces = false
/-- the locals: distinct places, one word each -/
def gLoc (ls : Array Slot) (n : Nat) (lv : List (Nat × Value)) : Prop := lv_has ls n lv ∧ (∀ q ∈ lv, q.2.category = 1) ∧ (lv.map (·.1)).Nodup
/-- A WALK'S GOAL: the machine, in the method Y entered at the world G0, now at pc with the locals lv, the stack st and the world G, comes to an end so that Q -/
def GTc (cl : List vw_C) (E : gE) (Y : gY) (d : Nat) (G0 : gS) (pc : Nat) (lv : List (Nat × Value)) (st : List Value) (G : gS) (Q : gO → gS → Prop) : Prop :=
  ∀ (p : Program) (l : Launch) (e : Env) (s : State) (m : MethodId) (args : Array Value) (below : List Frame) (meth : Method) (c : Code), gCtx cl E Y G0 p l s m meth c → ∀ (H : Heap) (locs : List Loc) (ls : Array Slot), gMatch cl E G H → (∀ q ∈ locs, E.1.heap.size ≤ q.base) → G0.2.1 ≤ G.2.1 → G0.2.2 ≤ G.2.2 → gLoc ls Y.2.2.1 lv →
    W p l e (gRoom E d G0) s m args below meth c H locs (G.2.1 - G0.2.1) (G.2.2 - G0.2.2) (fun t => ∃ o, t.status = .running ∧ Ended t below o ∧ gPost cl E G0 Q s o t) (F0 m pc ls st)
section GA
variable {cl : List vw_C} {E : gE} {Y : gY} {d : Nat} {G0 G : gS} {Q : gO → gS → Prop} {pc : Nat} {lv lv' : List (Nat × Value)} {st : List Value}
def gEntry : List Value → Nat → List (Nat × Value)
  | [], _ => []
  | v :: r, k => (k, v) :: gEntry r (k + 1)
theorem gEntry_mem : ∀ (as : List Value) (k : Nat) (q : Nat × Value), q ∈ gEntry as k → k ≤ q.1 ∧ as[q.1 - k]? = some q.2
  | [], _, _, h => by simp [gEntry] at h
  | v :: r, k, q, h => by
    simp only [gEntry, List.mem_cons] at h
    rcases h with rfl | h
    · exact ⟨Nat.le_refl _, by simp⟩
    · obtain ⟨h1, h2⟩ := gEntry_mem r (k + 1) q h
      refine ⟨by omega, ?_⟩
      rw [show q.1 - k = (q.1 - (k + 1)) + 1 by omega, List.getElem?_cons_succ]
      exact h2
theorem gEntry_nd : ∀ (as : List Value) (k : Nat), ((gEntry as k).map (·.1)).Nodup
  | [], _ => by simp [gEntry]
  | v :: r, k => by
    simp only [gEntry, List.map_cons, List.nodup_cons]
    refine ⟨fun h => ?_, gEntry_nd r (k + 1)⟩
    obtain ⟨q, h1, h2⟩ := List.mem_map.mp h
    have := (gEntry_mem r (k + 1) q h1).1
    omega
theorem gSl_one : ∀ (as : List Value), (∀ v ∈ as, v.category = 1) → lg_sl as = as.map Slot.val
  | [], _ => rfl
  | v :: r, h => by
    have h1 : v.category = 1 := h v List.mem_cons_self
    have ih := gSl_one r (fun w hw => h w (List.mem_cons_of_mem _ hw))
    simp only [lg_sl, List.flatMap_cons, List.map_cons] at ih ⊢
    rw [ih, if_neg (by omega)]
    rfl
theorem g_entry {as : List Value} (hy : plainName Y.1.cls = true) (hc : ∀ v ∈ as, v.category = 1) (hn : as.length ≤ Y.2.2.1) (h : GTc cl E Y d G 0 (gEntry as 0) [] G Q) : GMc cl E Y d as G Q := by
  intro l hl
  refine MetFree.of_bodyS (code := Y.2.1) (maxLocals := Y.2.2.1) (ret := Y.2.2.2.1) hy ?_ ?_
  · intro args s m hp hnm
    obtain ⟨meth, c, h1, h2, h3, h4, h5, h6, -, -⟩ := gWord_spec hnm (atoms_spec (ws := [gWord Y]) hp _ List.mem_cons_self)
    exact ⟨meth, c, h1, h2, h3, h4, h5, h6⟩
  · intro p e s m args below meth c s₁ B hml hP _
    obtain ⟨rfl, hE, hM⟩ := hP
    have X := Stand.of_body B
    have hh0 : s₁.heap = s.heap := by rw [B.state]; rfl
    obtain ⟨meth', c', h1, h2, -, -, -, -, h7, -⟩ := gWord_spec B.named (atoms_spec (ws := [gWord Y]) B.pre _ List.mem_cons_self)
    cases B.method.symm.trans h1
    cases X.code.symm.trans h2
    have hl0 := lv_entry as (n := Y.2.2.1) (by rw [gSl_one as hc, List.length_map]; exact hn)
    rw [lg_entry_eq]
    have hlg : gLoc (lg_sl as ++ List.replicate (Y.2.2.1 - (lg_sl as).length) Slot.unset).toArray Y.2.2.1 (gEntry as 0) := by
      refine ⟨⟨hl0.1, hl0.2.1, fun q hq => ?_⟩, fun q hq => ?_, gEntry_nd as 0⟩
      · have h9 := (gEntry_mem as 0 q hq).2
        rw [Nat.sub_zero] at h9
        rw [List.getElem?_toArray, gSl_one as hc, List.getElem?_append_left (by rw [List.length_map]; exact (List.getElem?_eq_some_iff.mp h9).1), List.getElem?_map, h9]
        rfl
      · exact hc _ (List.mem_of_getElem? (gEntry_mem as 0 q hq).2)
    have K := h p l e s m as.toArray below meth c ⟨B.exec, B.bytes, hml, findClass_of_methodNamed B.named, hE, B.returns, B.notSynchronized, h7, (name_of_methodNamed B.named B.method).1, hM, hl⟩ s.heap [] _ hM (fun q hq => by cases hq) (Nat.le_refl _) (Nat.le_refl _) hlg
    rw [Nat.sub_self, Nat.sub_self] at K
    obtain ⟨t, a1, o, b1, b2, b3⟩ := K s₁ hh0 X
    exact ⟨t, o, a1, b1, b2, b3⟩
end GA
