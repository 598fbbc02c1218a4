/-! Rows of the ghost layer: calls -/
section GF
variable {cl : List vw_C} {E : gE} {Y Y' : gY} {d : Nat} {G0 G : gS} {Q Qc : gO → gS → Prop} {pc : Nat} {lv lv' : List (Nat × Value)} {st rest as : List Value}
variable {p : Program} {l : Launch} {e : Env} {s : State} {m : MethodId} {args : Array Value} {below : List Frame} {meth : Method} {c : Code} {T : State} {locs : List Loc}
theorem gPre.blind {cl : List vw_C} {E : gE} {G : gS} {as : List Value} {a : Array Value} {U : State} (g : JFrame) (mk : MethodId) (h : gPre cl E G as a U) : gPre cl E G as a (U.calling g mk a) := h
/-- the callee has run: it came back with an answer, or with an exception that lies over the caller's frame -/
theorem g_run (hM : GMc cl E Y' d as G Qc) (htr : l.stackTraces = false) (X : Stand p l e (gRoom E (d + 1) G0) s m args below meth c T locs (G.2.1 - G0.2.1) (G.2.2 - G0.2.2)) (hT : gMatch cl E G T.heap) (hE : gEnv cl E s) (h1 : G0.2.1 ≤ G.2.1) (h2 : G0.2.2 ≤ G.2.2) (hb0 : E.1.heap.size ≤ G0.2.1) (hL : ∀ q ∈ locs, E.1.heap.size ≤ q.base)
    {g : JFrame} {ig : Instr} {mk : MethodId} (hg : g.method = m) (hsize : g.locals.size = c.maxLocals) (hdg : decode c.code g.pc = .ok (ig, 3)) (hW : 2 * g.monitorRoom + (g.stack.map fun v => v.category).sum ≤ 8) (hmax : Y'.2.2.1 ≤ 41) (hn : T.methodNamed? Y'.1 = some mk) (hw : gWord Y' ∈ lw_tbl) (hgw : gWarm (gWord Y') = true) (hini : Cond.initialized Y'.1.cls ∈ lw_tbl) :
    ∃ (out : gO) (G' : gS) (B : State) (L : List Loc), Qc out G' ∧ Stand p l e (gRoom E (d + 1) G0) s m args below meth c B (locs ++ L) (G'.2.1 - G0.2.1) (G'.2.2 - G0.2.2) ∧ gMatch cl E G' B.heap ∧ (∀ q ∈ locs ++ L, E.1.heap.size ≤ q.base) ∧ G0.2.1 ≤ G'.2.1 ∧ G0.2.2 ≤ G'.2.2 ∧ G.2.1 ≤ G'.2.1 ∧ G.2.2 ≤ G'.2.2 ∧
      (match out with
        | .inl v => Steps p.tables e below (doInvoke e (T.setTop g) [] mk as.toArray).1 (B.setTop { g with pc := g.pc + 3, stack := v.toList ++ g.stack })
        | .inr C => ∃ (x : Addr) (cell : Cell), B.heap[x]? = some cell ∧ cell.vm.isStatics = false ∧ s.vm.findClass C = some cell.cls ∧ Steps p.tables e below (doInvoke e (T.setTop g) [] mk as.toArray).1 ((B.setTop g).pushFrame (.throwing x))) := by
  have hET : gEnv cl E T := hE.warm X.warmed
  have hwT := hET.word hw hgw as.toArray
  obtain ⟨methY, cY, hmY, hcY, -, hlY, -, -, -, -⟩ := gWord_spec hn hwT
  obtain ⟨kY, hkY, -⟩ := className_of_methodNamed hn
  have hinitY : kY.init = .initialized := Cond.initialized_spec (findClass_of_methodNamed hn) hkY (hET.word hini rfl as.toArray)
  have h : At T g.method c below := by rw [hg]; exact X.here
  obtain ⟨t1, t2, t3, t4, t5, t6⟩ := id hT
  have happ : (headSpec [gWord Y'] (gRoom E d G)).appliesLoose Y'.1 e.platform (T.calling g mk as.toArray) = true :=
    Spec.appliesLoose_calling (g := g) h hdg hn hkY hinitY
      (X.room_calling (g := g) (R' := gRoom E d G) hsize hmY hcY (Nat.le_refl _) (by rw [hlY]; show _ + 60 * d ≤ 60 * (d + 1); omega) (by show _ + (room_1.cells - _) ≤ room_1.cells - _; omega) (by show _ + (room_1.slots - _) ≤ room_1.slots - _; omega))
      (atoms_intro fun w hw => by rw [List.mem_singleton.mp hw]; exact hwT)
  obtain ⟨mid, hmid⟩ := h.above
  have hfr : (T.setTop g).frames = (.java g :: mid) ++ below := by rw [State.frames_setTop' g h.top, hmid]; rfl
  obtain ⟨o, s₂, hsteps, -, hend, hq⟩ := Steps.callFree (hM l htr) p X.admits X.cas X.clock (acts := []) hfr happ (⟨rfl, hET, hT⟩ : gPre cl E G as as.toArray (T.calling g mk as.toArray)) trivial
  rw [State.frames_setTop' g h.top] at hend
  have hq' : gPost cl E G Qc (T.calling g mk as.toArray) o s₂ := hq
  obtain ⟨out, G', L, r1, r2, r3, r4, r5, ⟨hW₂, e2, q2, q3, q4, q5, q6⟩, r7⟩ := hq'
  have e3 : s₂ = ({ (T.calling g mk as.toArray).setFrames s₂.frames with heap := s₂.heap, slotsUsed := s₂.slotsUsed } : State).setVm s₂.vm := by
    have : s₂ = ({ s₂ with vm := (T.calling g mk as.toArray).vm } : State).setVm s₂.vm := rfl
    rw [e2] at this
    exact this
  have hW' : T.WarmedH s₂.vm := hW₂
  obtain ⟨g₀, hg0⟩ := Option.isSome_iff_exists.mp h.top
  obtain ⟨r, hr⟩ := State.topJava?_eq_some.mp hg0
  have hr' : (({ T with heap := s₂.heap, slotsUsed := s₂.slotsUsed } : State).setVm s₂.vm).frames = .java g₀ :: r := hr
  have hsame : T.sameButNew ({ T with heap := s₂.heap, slotsUsed := s₂.slotsUsed } : State) L (G'.2.1 - G.2.1) (G'.2.2 - G.2.2) := by
    refine ⟨?_, q2, q3, q4, q5, q6⟩
    obtain ⟨t, ht, -⟩ := State.frames_cons hr
    show ({ T with heap := s₂.heap, slotsUsed := s₂.slotsUsed } : State) = { T.setFrames T.frames with heap := s₂.heap, slotsUsed := s₂.slotsUsed }
    rw [State.setFrames_self ht]
  have hSt : Stand p l e (gRoom E (d + 1) G0) s m args below meth c (({ T with heap := s₂.heap, slotsUsed := s₂.slotsUsed } : State).setVm s₂.vm) (locs ++ L) (G'.2.1 - G0.2.1) (G'.2.2 - G0.2.2) := by
    have hs := X.same.trans (hsame.setVm s.vm)
    rw [show G.2.1 - G0.2.1 + (G'.2.1 - G.2.1) = G'.2.1 - G0.2.1 by omega, show G.2.2 - G0.2.2 + (G'.2.2 - G.2.2) = G'.2.2 - G0.2.2 by omega] at hs
    exact ⟨X.admits, X.cas, X.clock, X.frames, X.room, X.hears, X.method, X.code, (X.here.setHeapUsed s₂.heap s₂.slotsUsed).setVm hW'.alike, X.tail, State.WarmedH.trans X.warmed hW', X.limits, X.bytes, hs⟩
  refine ⟨out, G', (({ T with heap := s₂.heap, slotsUsed := s₂.slotsUsed } : State).setVm s₂.vm), L, r1, hSt, r3, fun q hq => ?_, by omega, by omega, r4, r5, ?_⟩
  · rcases List.mem_append.mp hq with h | h
    · exact hL q h
    · exact r7 q h
  · cases out with
    | inl v =>
      have hv : o = .returned v := r2
      subst hv
      obtain ⟨c₂, i₂, len₂, hc₂, hd₂, hf₂⟩ := hend
      have hcc : c₂ = c := by
        have h1 : s₂.code? g.method = T.code? g.method := by
          rw [State.code?_eq, State.code?_eq, hW'.alike.method?]
        exact Option.some.inj (hc₂.symm.trans (h1.trans h.code))
      subst hcc
      have hlen : len₂ = 3 := by rw [hdg] at hd₂; cases hd₂; rfl
      subst hlen
      have hs₂ : s₂ = (({ T with heap := s₂.heap, slotsUsed := s₂.slotsUsed } : State).setVm s₂.vm).setTop { g with pc := g.pc + 3, stack := v.toList ++ g.stack } := by
        refine e3.trans ?_
        rw [hf₂, State.calling_eq h.top, State.setFrames_setFrames, State.setTop_of_frames _ hr', hr]
        rfl
      show Steps p.tables e below _ ((({ T with heap := s₂.heap, slotsUsed := s₂.slotsUsed } : State).setVm s₂.vm).setTop { g with pc := g.pc + 3, stack := v.toList ++ g.stack })
      rw [← hs₂]
      exact hsteps
    | inr C =>
      obtain ⟨x, cell, ho, hc1, hc2, hc3⟩ := r2
      subst ho
      have hf₂ : s₂.frames = .throwing x :: .java g :: T.frames.tail := hend
      have hs₂ : s₂ = ((({ T with heap := s₂.heap, slotsUsed := s₂.slotsUsed } : State).setVm s₂.vm).setTop g).pushFrame (.throwing x) := by
        refine e3.trans ?_
        rw [hf₂, State.calling_eq h.top, State.setFrames_setFrames, State.pushFrame, State.setTop_of_frames _ hr', State.setFrames_setFrames, State.frames_setFrames _ (State.cur_lt_of_frames hr'), hr]
        rfl
      refine ⟨x, cell, hc1, hc2, ?_, ?_⟩
      · rw [← X.warmed.alike.findClass, ← hW'.alike.findClass]
        exact hc3
      · show Steps p.tables e below _ (((({ T with heap := s₂.heap, slotsUsed := s₂.slotsUsed } : State).setVm s₂.vm).setTop g).pushFrame (.throwing x))
        rw [← hs₂]
        exact hsteps
/-- behind the call: the walk goes on with the answer; an exception leaves the method -/
theorem g_fin (C : gCtx cl E Y G0 p l s m meth c) (hM : GMc cl E Y' d as G Qc) (X : Stand p l e (gRoom E (d + 1) G0) s m args below meth c T locs (G.2.1 - G0.2.1) (G.2.2 - G0.2.2)) (hT : gMatch cl E G T.heap) (h1 : G0.2.1 ≤ G.2.1) (h2 : G0.2.2 ≤ G.2.2) (hL : ∀ q ∈ locs, E.1.heap.size ≤ q.base)
    {ls : Array Slot} (hl : gLoc ls Y.2.2.1 lv) {ig : Instr} {mk : MethodId} (hdg : decode Y.2.1 pc = .ok (ig, 3)) (hW : (rest.map fun v => v.category).sum ≤ 8) (hmax : Y'.2.2.1 ≤ 41) (hn : T.methodNamed? Y'.1 = some mk) (hw : gWord Y' ∈ lw_tbl) (hgw : gWarm (gWord Y') = true) (hini : Cond.initialized Y'.1.cls ∈ lw_tbl)
    (hh : Y.2.2.2.2 = []) (kr : ∀ v G', Qc (.inl v) G' → GTc cl E Y (d + 1) G0 (pc + 3) lv (v.toList ++ rest) G' Q) (kt : ∀ D G', Qc (.inr D) G' → Q (.inr D) G') :
    ∃ t, Steps p.tables e below (doInvoke e (T.setTop (F0 m pc ls rest)) [] mk as.toArray).1 t ∧ ∃ o, t.status = .running ∧ Ended t below o ∧ gPost cl E G0 Q s o t := by
  obtain ⟨hx, hb, hml, hown, hE, hret, hlocks, htab, hnm, hM0, htr⟩ := id C
  obtain ⟨out, G', B, L, a1, X', a2, a3, a4, a5, a6, a7, a8⟩ := g_run hM htr X hT hE h1 h2 hM0.2.1 hL (g := F0 m pc ls rest) (ig := ig) (mk := mk) rfl (by rw [hml]; exact hl.1.1) (by rw [hb]; exact hdg) (by show 2 * 0 + (rest.map fun v => v.category).sum ≤ 8; omega) hmax hn hw hgw hini
  cases out with
  | inl v =>
    obtain ⟨t, b1, b2⟩ := kr v G' a1 p l e s m args below meth c C B.heap (locs ++ L) ls a2 a3 a4 a5 hl B rfl X'
    exact ⟨t, a8.trans b1, b2⟩
  | inr D =>
    obtain ⟨x, cell, c1, c2, c3, c4⟩ := a8
    obtain ⟨d1, d2, d3, d4, d5⟩ := X'.leaveThrown x (g := F0 m pc ls rest) rfl rfl rfl (fun y hy => by rw [htab, hh] at hy; cases hy) hlocks
    exact ⟨_, c4.trans d1, .threw x, d2, d3, .inr D, G', locs ++ L, kt D G' a1, ⟨x, cell, rfl, c1, c2, by show B.vm.findClass D = _; rw [X'.warmed.alike.findClass]; exact c3⟩, a2, a4, a5, ⟨d4, d5⟩, a3⟩
theorem g_callV {b ci index N : Nat} {K : String} {T : u_T} {fs : List Value} (hM : GMc cl E Y' d (.ref b :: as) G Qc) (ha : G.1 b = some (.inr (ci, fs))) (hc : cl[ci]? = some (K, T, N)) (hw1 : Cond.methodLink Y.1.cls index Y'.1 ∈ lw_tbl) (hw2 : Cond.instanceMethod Y'.1 ∈ lw_tbl) (hw3 : Cond.selects K Y'.1 Y'.1 ∈ lw_tbl) (hw4 : gWord Y' ∈ lw_tbl) (hgw : gWarm (gWord Y') = true) (hw5 : Cond.initialized Y'.1.cls ∈ lw_tbl)
    (hy : Y'.1.cls ≠ "java/lang/invoke/MethodHandle" ∧ Y'.1.cls ≠ "java/lang/invoke/VarHandle") (hpar : (parseMethodDescriptor Y'.1.desc).map (fun d => d.parameters.length) = some as.length) (hmax : Y'.2.2.1 ≤ 41) (hst : st = as.reverse ++ .ref b :: rest) (hW : (rest.map fun v => v.category).sum ≤ 8) (hh : Y.2.2.2.2 = []) (hdg : decode Y.2.1 pc = .ok (.invokevirtual index, 3))
    (kr : ∀ v G', Qc (.inl v) G' → GTc cl E Y (d + 1) G0 (pc + 3) lv (v.toList ++ rest) G' Q) (kt : ∀ D G', Qc (.inr D) G' → Q (.inr D) G') : GTc cl E Y (d + 1) G0 pc lv st G Q := by
  intro p l e s m args below meth c C H locs ls hM1 hL h1 h2 hl T hT X
  have hE := C.2.2.2.2.1
  obtain ⟨mk, methM, hnamed, hmethM, hstM, habM⟩ := Cond.instanceMethod_spec (hE.word hw2 rfl args)
  obtain ⟨methM', cM, hmethM', -, -, -, -, -, -, hsigM⟩ := gWord_spec hnamed (hE.word hw4 hgw args)
  cases hmethM.symm.trans hmethM'
  obtain ⟨c2, r2, m2, q1, q2, q3, q4, kP, hkP, hkPi⟩ := Cond.selects_spec (hE.word hw3 rfl args)
  obtain ⟨r, g1, cellB, k1, k2, k3, -⟩ := (hM1.2.2.1 b _ ha).2
  have hr : r = (K, _, N) := Option.some.inj (g1.symm.trans hc)
  subst hr
  have hcls : s.vm.findClass K = some cellB.cls := by rw [k2]; exact (hE.K.1 ci _ hc).2.1
  cases hcls.symm.trans q1
  cases (State.methodFound?_of_named hnamed hy).symm.trans q2
  cases hnamed.symm.trans q3
  have hselP : selectMethod e.platform s.vm cellB.cls mk = .method mk := by rw [Launch.admits_selectMethod X.admits]; exact q4
  have hlen : as.length = methM.sig.parameters.length := by
    rw [hsigM] at hpar
    exact (Option.some.inj hpar).symm
  obtain ⟨vm₁, X₁, hstep₁⟩ := X.invokevirtual C.1 C.2.2.2.1 (hE.word hw1 rfl args) hnamed hmethM hstM hkP hkPi hy (a := b) (cell := cellB) (by rw [hT]; exact k1)
    (fun z h => by rw [k3] at h; cases h) hselP hmethM habM hkP hkPi (g := F0 m pc ls st) rfl (argsL := as) (rest := rest) hlen hst (by rw [C.2.1]; exact hdg)
  obtain ⟨t, b1, b2⟩ := g_fin (T := T.setVm vm₁) (mk := mk) C hM X₁ (by show gMatch cl E G T.heap; rw [hT]; exact hM1) h1 h2 hL hl hdg hW hmax (X₁.named hnamed) hw4 hgw hw5 hh kr kt
  exact ⟨t, hstep₁ _ fun acts => by rw [doInvoke_state]; exact b1, b2⟩
theorem g_callS {index : Nat} (hM : GMc cl E Y' d as G Qc) (hw1 : Cond.methodLink Y.1.cls index Y'.1 ∈ lw_tbl) (hw2 : Cond.static Y'.1 ∈ lw_tbl) (hw4 : gWord Y' ∈ lw_tbl) (hgw : gWarm (gWord Y') = true) (hw5 : Cond.initialized Y'.1.cls ∈ lw_tbl)
    (hy : Y'.1.cls ≠ "java/lang/invoke/MethodHandle" ∧ Y'.1.cls ≠ "java/lang/invoke/VarHandle") (hpar : (parseMethodDescriptor Y'.1.desc).map (fun d => d.parameters.length) = some as.length) (hmax : Y'.2.2.1 ≤ 41) (hst : st = as.reverse ++ rest) (hW : (rest.map fun v => v.category).sum ≤ 8) (hh : Y.2.2.2.2 = []) (hdg : decode Y.2.1 pc = .ok (.invokestatic index, 3))
    (kr : ∀ v G', Qc (.inl v) G' → GTc cl E Y (d + 1) G0 (pc + 3) lv (v.toList ++ rest) G' Q) (kt : ∀ D G', Qc (.inr D) G' → Q (.inr D) G') : GTc cl E Y (d + 1) G0 pc lv st G Q := by
  intro p l e s m args below meth c C H locs ls hM1 hL h1 h2 hl T hT X
  have hE := C.2.2.2.2.1
  have hcd := hE.word hw4 hgw args
  obtain ⟨mk, hnamed⟩ : ∃ mk, s.methodNamed? Y'.1 = some mk := by
    unfold gWord at hcd
    split at hcd
    · exact Cond.code_named hcd
    · obtain ⟨mk, _, _, h0, _⟩ := Cond.codeWith_spec hcd
      exact ⟨mk, h0⟩
  obtain ⟨methM, cM, hmethM, -, -, -, -, -, -, hsigM⟩ := gWord_spec hnamed hcd
  have hstatic : methM.isStatic = true := Cond.static_spec hnamed hmethM (hE.word hw2 rfl args)
  obtain ⟨kP, hkP, -⟩ := className_of_methodNamed hnamed
  have hinitP : kP.init = .initialized := Cond.initialized_spec (findClass_of_methodNamed hnamed) hkP (hE.word hw5 rfl args)
  have hlen : as.length = methM.sig.parameters.length := by
    rw [hsigM] at hpar
    exact (Option.some.inj hpar).symm
  obtain ⟨vm₁, X₁, hstep₁⟩ := X.invokestatic C.1 C.2.2.2.1 (hE.word hw1 rfl args) hnamed hmethM hstatic hkP hinitP hy (g := F0 m pc ls st) rfl (argsL := as) (rest := rest) hlen hst (by rw [C.2.1]; exact hdg)
  obtain ⟨t, b1, b2⟩ := g_fin (T := T.setVm vm₁) (mk := mk) C hM X₁ (by show gMatch cl E G T.heap; rw [hT]; exact hM1) h1 h2 hL hl hdg hW hmax (X₁.named hnamed) hw4 hgw hw5 hh kr kt
  exact ⟨t, hstep₁ _ fun acts => by rw [doInvoke_state]; exact b1, b2⟩
/-- a constructor: its word is 'code' -/
theorem g_callI {b index maxL : Nat} {y : MethodName} {cc : ByteArray} (hM : GMc cl E (y, cc, maxL, none, []) d (.ref b :: as) G Qc) (hy1 : y.name = "<init>") (hw1 : Cond.methodLink Y.1.cls index y ∈ lw_tbl) (hw2 : Cond.instanceMethod y ∈ lw_tbl) (hw4 : Cond.code y cc maxL none ∈ lw_tbl) (hw5 : Cond.initialized y.cls ∈ lw_tbl)
    (hy : y.cls ≠ "java/lang/invoke/MethodHandle" ∧ y.cls ≠ "java/lang/invoke/VarHandle") (hpar : (parseMethodDescriptor y.desc).map (fun d => d.parameters.length) = some as.length) (hmax : maxL ≤ 41) (hst : st = as.reverse ++ .ref b :: rest) (hW : (rest.map fun v => v.category).sum ≤ 8) (hh : Y.2.2.2.2 = []) (hdg : decode Y.2.1 pc = .ok (.invokespecial index, 3))
    (kr : ∀ v G', Qc (.inl v) G' → GTc cl E Y (d + 1) G0 (pc + 3) lv (v.toList ++ rest) G' Q) (kt : ∀ D G', Qc (.inr D) G' → Q (.inr D) G') : GTc cl E Y (d + 1) G0 pc lv st G Q := by
  intro p l e s m args below meth c C H locs ls hM1 hL h1 h2 hl T hT X
  have hE := C.2.2.2.2.1
  have hpl : e.platform.magicAccessors = ({} : Platform).magicAccessors := by rw [X.admits.platform]
  obtain ⟨mk, methM, cM, kP, vm₁, hnamed, hmethM, hcodeM, -, hlocalsM, -, hkP, -, hW₁, hstep₁⟩ := Steps.initColdArgs (e := e) X.here C.1 X.warmed hpl C.2.2.2.1 hy1 hy (hE.word hw1 rfl args) (hE.word hw2 rfl args) (hE.word hw4 rfl args) (f := F0 m pc ls st) rfl (a := b) (argsL := as) (rest := rest) (fun sig h => by rw [h] at hpar; exact (Option.some.inj hpar).symm) hst (by rw [C.2.1]; exact hdg)
  have X₁ := X.noted hW₁
  obtain ⟨t, b1, b2⟩ := g_fin (T := T.setVm vm₁) (mk := mk) (Y' := (y, cc, maxL, none, [])) C hM X₁ (by show gMatch cl E G T.heap; rw [hT]; exact hM1) h1 h2 hL hl hdg hW hmax (X₁.named hnamed) hw4 rfl hw5 hh kr kt
  exact ⟨t, hstep₁ _ fun acts => by rw [doInvoke_state]; exact b1, b2⟩
/-- a private constructor of a nest mate -/
theorem g_callIN {b index maxL : Nat} {y : MethodName} {cc : ByteArray} {host : String} (hM : GMc cl E (y, cc, maxL, none, []) d (.ref b :: as) G Qc) (hy1 : y.name = "<init>") (hw1 : Cond.methodLinkNest Y.1.cls index y host ∈ lw_tbl) (hw2 : Cond.instanceMethod y ∈ lw_tbl) (hw4 : Cond.code y cc maxL none ∈ lw_tbl) (hw5 : Cond.initialized y.cls ∈ lw_tbl)
    (hy : y.cls ≠ "java/lang/invoke/MethodHandle" ∧ y.cls ≠ "java/lang/invoke/VarHandle") (hpar : (parseMethodDescriptor y.desc).map (fun d => d.parameters.length) = some as.length) (hmax : maxL ≤ 41) (hst : st = as.reverse ++ .ref b :: rest) (hW : (rest.map fun v => v.category).sum ≤ 8) (hh : Y.2.2.2.2 = []) (hdg : decode Y.2.1 pc = .ok (.invokespecial index, 3))
    (kr : ∀ v G', Qc (.inl v) G' → GTc cl E Y (d + 1) G0 (pc + 3) lv (v.toList ++ rest) G' Q) (kt : ∀ D G', Qc (.inr D) G' → Q (.inr D) G') : GTc cl E Y (d + 1) G0 pc lv st G Q := by
  intro p l e s m args below meth c C H locs ls hM1 hL h1 h2 hl T hT X
  have hE := C.2.2.2.2.1
  have hpl : e.platform.magicAccessors = ({} : Platform).magicAccessors := by rw [X.admits.platform]
  obtain ⟨mk, methM, cM, kP, vm₁, hnamed, hmethM, hcodeM, -, hlocalsM, -, hkP, -, hW₁, hstep₁⟩ := Steps.initColdArgsNest (e := e) X.here C.1 X.warmed hpl C.2.2.2.1 hy1 hy (hE.word hw1 rfl args) (hE.word hw2 rfl args) (hE.word hw4 rfl args) (f := F0 m pc ls st) rfl (a := b) (argsL := as) (rest := rest) (fun sig h => by rw [h] at hpar; exact (Option.some.inj hpar).symm) hst (by rw [C.2.1]; exact hdg)
  have X₁ := X.noted hW₁
  obtain ⟨t, b1, b2⟩ := g_fin (T := T.setVm vm₁) (mk := mk) (Y' := (y, cc, maxL, none, [])) C hM X₁ (by show gMatch cl E G T.heap; rw [hT]; exact hM1) h1 h2 hL hl hdg hW hmax (X₁.named hnamed) hw4 rfl hw5 hh kr kt
  exact ⟨t, hstep₁ _ fun acts => by rw [doInvoke_state]; exact b1, b2⟩
/-- Object's constructor -/
theorem g_objInit {a index : Nat} (hw1 : Cond.methodLink Y.1.cls index Lib.objectInit ∈ lw_tbl) (hw2 : Cond.instanceMethod Lib.objectInit ∈ lw_tbl) (hw3 : Cond.code Lib.objectInit ⟨#[0xb1]⟩ 1 none ∈ lw_tbl) (hW : (rest.map fun v => v.category).sum ≤ 8) (hdg : decode Y.2.1 pc = .ok (.invokespecial index, 3)) (kk : GTc cl E Y (d + 1) G0 (pc + 3) lv rest G Q) : GTc cl E Y (d + 1) G0 pc lv (.ref a :: rest) G Q := by
  intro p l e s m args below meth c C H locs ls hM1 hL h1 h2 hl
  have hE := C.2.2.2.2.1
  exact W.objInit C.1 C.2.1 C.2.2.2.1 (hE.word hw1 rfl args) (hE.word hw2 rfl args) (hE.word hw3 rfl args) rfl (by rw [C.2.2.1]; exact hl.1.1) rfl hdg (by show 1 ≤ d + 1; omega) (by show 2 * 0 + _ + 12 ≤ 60 * (d + 1); omega) (kk p l e s m args below meth c C H locs ls hM1 hL h1 h2 hl)
end GF
