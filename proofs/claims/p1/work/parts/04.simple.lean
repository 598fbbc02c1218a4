/-! Rows of the ghost layer: instructions that touch locals and stack alone -/
/-- the value at a place of the locals -/
def g_get : List (Nat × Value) → Nat → Option Value
  | [], _ => none
  | q :: r, i => if q.1 = i then some q.2 else g_get r i
theorem g_get_mem : ∀ {lv : List (Nat × Value)} {i : Nat} {v : Value}, g_get lv i = some v → (i, v) ∈ lv
  | [], _, _, h => by simp [g_get] at h
  | q :: r, i, v, h => by
    unfold g_get at h
    by_cases hq : q.1 = i
    · rw [if_pos hq] at h
      obtain ⟨a, b⟩ := q
      dsimp only at hq h
      subst hq
      cases h
      exact List.mem_cons_self
    · rw [if_neg hq] at h
      exact List.mem_cons_of_mem _ (g_get_mem h)
/-- a value put into a place of the locals -/
def g_put : List (Nat × Value) → Nat → Value → List (Nat × Value)
  | [], i, v => [(i, v)]
  | q :: r, i, v => if q.1 = i then (i, v) :: r else q :: g_put r i v
theorem g_put_mem : ∀ {lv : List (Nat × Value)} {i : Nat} {v : Value} {q : Nat × Value}, (lv.map (·.1)).Nodup → q ∈ g_put lv i v → q = (i, v) ∨ (q ∈ lv ∧ q.1 ≠ i)
  | [], _, _, _, _, h => by
    simp only [g_put, List.mem_singleton] at h
    exact Or.inl h
  | a :: r, i, v, q, hn, h => by
    unfold g_put at h
    simp only [List.map_cons, List.nodup_cons] at hn
    by_cases ha : a.1 = i
    · rw [if_pos ha] at h
      rcases List.mem_cons.mp h with h | h
      · exact Or.inl h
      · refine Or.inr ⟨List.mem_cons_of_mem _ h, fun e => hn.1 ?_⟩
        rw [ha, ← e]
        exact List.mem_map_of_mem h
    · rw [if_neg ha] at h
      rcases List.mem_cons.mp h with h | h
      · rw [h]
        exact Or.inr ⟨List.mem_cons_self, ha⟩
      · rcases g_put_mem hn.2 h with h | ⟨h, h2⟩
        · exact Or.inl h
        · exact Or.inr ⟨List.mem_cons_of_mem _ h, h2⟩
theorem g_put_keys : ∀ {lv : List (Nat × Value)} {i : Nat} {v : Value} {k : Nat}, k ∈ (g_put lv i v).map (·.1) → k = i ∨ k ∈ lv.map (·.1)
  | [], _, _, _, h => by
    simp only [g_put, List.map_cons, List.map_nil, List.mem_singleton] at h
    exact Or.inl h
  | a :: r, i, v, k, h => by
    unfold g_put at h
    by_cases ha : a.1 = i
    · rw [if_pos ha] at h
      simp only [List.map_cons, List.mem_cons] at h ⊢
      rcases h with h | h
      · exact Or.inl h
      · exact Or.inr (Or.inr h)
    · rw [if_neg ha] at h
      simp only [List.map_cons, List.mem_cons] at h ⊢
      rcases h with h | h
      · exact Or.inr (Or.inl h)
      · rcases g_put_keys h with h | h
        · exact Or.inl h
        · exact Or.inr (Or.inr h)
theorem g_put_nd : ∀ {lv : List (Nat × Value)} {i : Nat} {v : Value}, (lv.map (·.1)).Nodup → ((g_put lv i v).map (·.1)).Nodup
  | [], _, _, _ => by simp [g_put]
  | a :: r, i, v, hn => by
    simp only [List.map_cons, List.nodup_cons] at hn
    unfold g_put
    by_cases ha : a.1 = i
    · rw [if_pos ha]
      simp only [List.map_cons, List.nodup_cons]
      exact ⟨by rw [← ha]; exact hn.1, hn.2⟩
    · rw [if_neg ha]
      simp only [List.map_cons, List.nodup_cons]
      refine ⟨fun h => ?_, g_put_nd hn.2⟩
      rcases g_put_keys h with h | h
      · exact ha h
      · exact hn.1 h
theorem gLoc.put {ls : Array Slot} {n i : Nat} {lv : List (Nat × Value)} {v : Value} (h : gLoc ls n lv) (hi : i < n) (hv : v.category = 1) : ∃ ls' : Array Slot, storeLocals ls i v = some ls' ∧ gLoc ls' n (g_put lv i v) := by
  obtain ⟨ls', e1, e2⟩ := lv_store1 (v := v) h.1 hi hv
  refine ⟨ls', e1, ⟨e2.1, e2.2.1, fun q hq => ?_⟩, fun q hq => ?_, g_put_nd h.2.2⟩
  · rcases g_put_mem h.2.2 hq with rfl | ⟨h1, h2⟩
    · exact e2.2.2 _ List.mem_cons_self
    · refine e2.2.2 q (List.mem_cons_of_mem _ (List.mem_filter.mpr ⟨h1, ?_⟩))
      have := h.2.1 q h1
      simp [h2, this]
  · rcases g_put_mem h.2.2 hq with rfl | ⟨h1, h2⟩
    · exact hv
    · exact h.2.1 q h1
theorem gLoc.at {ls : Array Slot} {n i : Nat} {lv : List (Nat × Value)} {v : Value} (h : gLoc ls n lv) (hg : g_get lv i = some v) : ls[i]? = some (.val v) := h.1.2.2 (i, v) (g_get_mem hg)
section GC
variable {cl : List vw_C} {E : gE} {Y : gY} {d : Nat} {G0 G : gS} {Q : gO → gS → Prop} {pc : Nat} {lv lv' : List (Nat × Value)} {st rest : List Value}
/-- fewer locals are known -/
theorem g_weak (h : ∀ q ∈ lv', q ∈ lv) (hn : (lv'.map (·.1)).Nodup) (k : GTc cl E Y d G0 pc lv' st G Q) : GTc cl E Y d G0 pc lv st G Q :=
  fun p l e s m args below meth c C H locs ls hM hL h1 h2 hl => k p l e s m args below meth c C H locs ls hM hL h1 h2 ⟨⟨hl.1.1, hl.1.2.1, fun q hq => hl.1.2.2 q (h q hq)⟩, fun q hq => hl.2.1 q (h q hq), hn⟩
theorem g_post {Q' : gO → gS → Prop} (h : ∀ o G', Q' o G' → Q o G') (k : GTc cl E Y d G0 pc lv st G Q') : GTc cl E Y d G0 pc lv st G Q := by
  intro p l e s m args below meth c C H locs ls hM hL h1 h2 hl T hT X
  obtain ⟨t, a, o, b1, b2, out, G', L, c1, c2⟩ := k p l e s m args below meth c C H locs ls hM hL h1 h2 hl T hT X
  exact ⟨t, a, o, b1, b2, out, G', L, h _ _ c1, c2⟩

theorem g_iconst {n : Int} {v : Int32} (hdg : decode Y.2.1 pc = .ok (.iconst n, 1)) (hv : Int32.ofInt n = v) (k : GTc cl E Y d G0 (pc + 1) lv (.int v :: rest) G Q) : GTc cl E Y d G0 pc lv (rest) G Q :=
  fun p l e s m args below meth c C H locs ls hM hL h1 h2 hl => lv_iconst C.1 C.2.1 hdg hv (k p l e s m args below meth c C H locs ls hM hL h1 h2 hl)
theorem g_bipush {n : Int} {v : Int32} (hdg : decode Y.2.1 pc = .ok (.bipush n, 2)) (hv : (Int8.ofInt n).toInt32 = v) (k : GTc cl E Y d G0 (pc + 2) lv (.int v :: rest) G Q) : GTc cl E Y d G0 pc lv (rest) G Q :=
  fun p l e s m args below meth c C H locs ls hM hL h1 h2 hl => lv_bipush C.1 C.2.1 hdg hv (k p l e s m args below meth c C H locs ls hM hL h1 h2 hl)
theorem g_sipush {n : Int} {v : Int32} (hdg : decode Y.2.1 pc = .ok (.sipush n, 3)) (hv : (Int16.ofInt n).toInt32 = v) (k : GTc cl E Y d G0 (pc + 3) lv (.int v :: rest) G Q) : GTc cl E Y d G0 pc lv (rest) G Q :=
  fun p l e s m args below meth c C H locs ls hM hL h1 h2 hl => lv_sipush C.1 C.2.1 hdg hv (k p l e s m args below meth c C H locs ls hM hL h1 h2 hl)
theorem g_null (hdg : decode Y.2.1 pc = .ok (.aconst_null, 1)) (k : GTc cl E Y d G0 (pc + 1) lv (.null :: rest) G Q) : GTc cl E Y d G0 pc lv (rest) G Q :=
  fun p l e s m args below meth c C H locs ls hM hL h1 h2 hl => lv_null C.1 C.2.1 hdg (k p l e s m args below meth c C H locs ls hM hL h1 h2 hl)
theorem g_iload_n {i : Fin 4} {x : Int32} (hdg : decode Y.2.1 pc = .ok (.iload_n i, 1)) (hv : g_get lv i = some (.int x)) (k : GTc cl E Y d G0 (pc + 1) lv (.int x :: rest) G Q) : GTc cl E Y d G0 pc lv (rest) G Q :=
  fun p l e s m args below meth c C H locs ls hM hL h1 h2 hl => lv_iload_n C.1 C.2.1 hdg rfl (hl.at hv) (k p l e s m args below meth c C H locs ls hM hL h1 h2 hl)
theorem g_iload {i : Nat} {x : Int32} (hdg : decode Y.2.1 pc = .ok (.iload i, 2)) (hv : g_get lv i = some (.int x)) (k : GTc cl E Y d G0 (pc + 2) lv (.int x :: rest) G Q) : GTc cl E Y d G0 pc lv (rest) G Q :=
  fun p l e s m args below meth c C H locs ls hM hL h1 h2 hl => lv_iload C.1 C.2.1 hdg (hl.at hv) (k p l e s m args below meth c C H locs ls hM hL h1 h2 hl)
theorem g_aload_n {i : Fin 4} {x : Nat} (hdg : decode Y.2.1 pc = .ok (.aload_n i, 1)) (hv : g_get lv i = some (.ref x)) (k : GTc cl E Y d G0 (pc + 1) lv (.ref x :: rest) G Q) : GTc cl E Y d G0 pc lv (rest) G Q :=
  fun p l e s m args below meth c C H locs ls hM hL h1 h2 hl => lv_aload_n C.1 C.2.1 hdg rfl (hl.at hv) (k p l e s m args below meth c C H locs ls hM hL h1 h2 hl)
theorem g_aload {i : Nat} {x : Nat} (hdg : decode Y.2.1 pc = .ok (.aload i, 2)) (hv : g_get lv i = some (.ref x)) (k : GTc cl E Y d G0 (pc + 2) lv (.ref x :: rest) G Q) : GTc cl E Y d G0 pc lv (rest) G Q :=
  fun p l e s m args below meth c C H locs ls hM hL h1 h2 hl => lv_aload C.1 C.2.1 hdg (hl.at hv) (k p l e s m args below meth c C H locs ls hM hL h1 h2 hl)
theorem g_aload_nN {i : Fin 4} (hdg : decode Y.2.1 pc = .ok (.aload_n i, 1)) (hv : g_get lv i = some .null) (k : GTc cl E Y d G0 (pc + 1) lv (.null :: rest) G Q) : GTc cl E Y d G0 pc lv (rest) G Q :=
  fun p l e s m args below meth c C H locs ls hM hL h1 h2 hl => lv_aload_nN C.1 C.2.1 hdg rfl (hl.at hv) (k p l e s m args below meth c C H locs ls hM hL h1 h2 hl)
theorem g_aloadN {i : Nat} (hdg : decode Y.2.1 pc = .ok (.aload i, 2)) (hv : g_get lv i = some .null) (k : GTc cl E Y d G0 (pc + 2) lv (.null :: rest) G Q) : GTc cl E Y d G0 pc lv (rest) G Q :=
  fun p l e s m args below meth c C H locs ls hM hL h1 h2 hl => lv_aloadN C.1 C.2.1 hdg (hl.at hv) (k p l e s m args below meth c C H locs ls hM hL h1 h2 hl)
theorem g_iadd {x y : Int32} (hdg : decode Y.2.1 pc = .ok (.iadd, 1)) (k : GTc cl E Y d G0 (pc + 1) lv (.int (x + y) :: rest) G Q) : GTc cl E Y d G0 pc lv (.int y :: .int x :: rest) G Q :=
  fun p l e s m args below meth c C H locs ls hM hL h1 h2 hl => lv_iadd C.1 C.2.1 hdg (k p l e s m args below meth c C H locs ls hM hL h1 h2 hl)
theorem g_isub {x y : Int32} (hdg : decode Y.2.1 pc = .ok (.isub, 1)) (k : GTc cl E Y d G0 (pc + 1) lv (.int (x - y) :: rest) G Q) : GTc cl E Y d G0 pc lv (.int y :: .int x :: rest) G Q :=
  fun p l e s m args below meth c C H locs ls hM hL h1 h2 hl => lv_isub C.1 C.2.1 hdg (k p l e s m args below meth c C H locs ls hM hL h1 h2 hl)
theorem g_imul {x y : Int32} (hdg : decode Y.2.1 pc = .ok (.imul, 1)) (k : GTc cl E Y d G0 (pc + 1) lv (.int (x * y) :: rest) G Q) : GTc cl E Y d G0 pc lv (.int y :: .int x :: rest) G Q :=
  fun p l e s m args below meth c C H locs ls hM hL h1 h2 hl => lv_imul C.1 C.2.1 hdg (k p l e s m args below meth c C H locs ls hM hL h1 h2 hl)
theorem g_iand {x y : Int32} (hdg : decode Y.2.1 pc = .ok (.iand, 1)) (k : GTc cl E Y d G0 (pc + 1) lv (.int (x &&& y) :: rest) G Q) : GTc cl E Y d G0 pc lv (.int y :: .int x :: rest) G Q :=
  fun p l e s m args below meth c C H locs ls hM hL h1 h2 hl => lv_iand C.1 C.2.1 hdg (k p l e s m args below meth c C H locs ls hM hL h1 h2 hl)
theorem g_ior {x y : Int32} (hdg : decode Y.2.1 pc = .ok (.ior, 1)) (k : GTc cl E Y d G0 (pc + 1) lv (.int (x ||| y) :: rest) G Q) : GTc cl E Y d G0 pc lv (.int y :: .int x :: rest) G Q :=
  fun p l e s m args below meth c C H locs ls hM hL h1 h2 hl => lv_ior C.1 C.2.1 hdg (k p l e s m args below meth c C H locs ls hM hL h1 h2 hl)
theorem g_ixor {x y : Int32} (hdg : decode Y.2.1 pc = .ok (.ixor, 1)) (k : GTc cl E Y d G0 (pc + 1) lv (.int (x ^^^ y) :: rest) G Q) : GTc cl E Y d G0 pc lv (.int y :: .int x :: rest) G Q :=
  fun p l e s m args below meth c C H locs ls hM hL h1 h2 hl => lv_ixor C.1 C.2.1 hdg (k p l e s m args below meth c C H locs ls hM hL h1 h2 hl)
theorem g_ishl {x y : Int32} (hdg : decode Y.2.1 pc = .ok (.ishl, 1)) (k : GTc cl E Y d G0 (pc + 1) lv (.int (x <<< (y &&& 31)) :: rest) G Q) : GTc cl E Y d G0 pc lv (.int y :: .int x :: rest) G Q :=
  fun p l e s m args below meth c C H locs ls hM hL h1 h2 hl => lv_ishl C.1 C.2.1 hdg (k p l e s m args below meth c C H locs ls hM hL h1 h2 hl)
theorem g_ishr {x y : Int32} (hdg : decode Y.2.1 pc = .ok (.ishr, 1)) (k : GTc cl E Y d G0 (pc + 1) lv (.int (x >>> (y &&& 31)) :: rest) G Q) : GTc cl E Y d G0 pc lv (.int y :: .int x :: rest) G Q :=
  fun p l e s m args below meth c C H locs ls hM hL h1 h2 hl => lv_ishr C.1 C.2.1 hdg (k p l e s m args below meth c C H locs ls hM hL h1 h2 hl)
theorem g_dup {v : Value} (hdg : decode Y.2.1 pc = .ok (.dup, 1)) (hv : v.category = 1) (k : GTc cl E Y d G0 (pc + 1) lv (v :: v :: rest) G Q) : GTc cl E Y d G0 pc lv (v :: rest) G Q :=
  fun p l e s m args below meth c C H locs ls hM hL h1 h2 hl => lv_dup C.1 C.2.1 hdg hv (k p l e s m args below meth c C H locs ls hM hL h1 h2 hl)
theorem g_pop {v : Value} (hdg : decode Y.2.1 pc = .ok (.pop, 1)) (hv : v.category = 1) (k : GTc cl E Y d G0 (pc + 1) lv (rest) G Q) : GTc cl E Y d G0 pc lv (v :: rest) G Q :=
  fun p l e s m args below meth c C H locs ls hM hL h1 h2 hl => lv_pop C.1 C.2.1 hdg hv (k p l e s m args below meth c C H locs ls hM hL h1 h2 hl)
theorem g_i2l {x : Int32} {v : Int64} (hdg : decode Y.2.1 pc = .ok (.i2l, 1)) (hv : x.toInt64 = v) (k : GTc cl E Y d G0 (pc + 1) lv (.long v :: rest) G Q) : GTc cl E Y d G0 pc lv (.int x :: rest) G Q :=
  fun p l e s m args below meth c C H locs ls hM hL h1 h2 hl => lv_i2l C.1 C.2.1 hdg hv (k p l e s m args below meth c C H locs ls hM hL h1 h2 hl)
theorem g_lcmp {x y : Int64} (hdg : decode Y.2.1 pc = .ok (.lcmp, 1)) (k : GTc cl E Y d G0 (pc + 1) lv (.int (lg_cmp x y) :: rest) G Q) : GTc cl E Y d G0 pc lv (.long y :: .long x :: rest) G Q :=
  fun p l e s m args below meth c C H locs ls hM hL h1 h2 hl => W.lcmp C.1 C.2.1 hdg (k p l e s m args below meth c C H locs ls hM hL h1 h2 hl)
theorem g_goto {off : Int} {tgt : Nat} (hdg : decode Y.2.1 pc = .ok (.goto off, 3)) (ht : (pc : Int) + off = (tgt : Int)) (k : GTc cl E Y d G0 tgt lv (rest) G Q) : GTc cl E Y d G0 pc lv (rest) G Q :=
  fun p l e s m args below meth c C H locs ls hM hL h1 h2 hl => lv_goto C.1 C.2.1 hdg ht (k p l e s m args below meth c C H locs ls hM hL h1 h2 hl)
theorem g_ifnull {x : Nat} {off : Int} (hdg : decode Y.2.1 pc = .ok (.ifnull off, 3)) (k : GTc cl E Y d G0 (pc + 3) lv (rest) G Q) : GTc cl E Y d G0 pc lv (.ref x :: rest) G Q :=
  fun p l e s m args below meth c C H locs ls hM hL h1 h2 hl => lv_ifnull C.1 C.2.1 hdg (k p l e s m args below meth c C H locs ls hM hL h1 h2 hl)
theorem g_ifnullN {off : Int} {tgt : Nat} (hdg : decode Y.2.1 pc = .ok (.ifnull off, 3)) (ht : (pc : Int) + off = (tgt : Int)) (k : GTc cl E Y d G0 tgt lv (rest) G Q) : GTc cl E Y d G0 pc lv (.null :: rest) G Q :=
  fun p l e s m args below meth c C H locs ls hM hL h1 h2 hl => lv_ifnullN C.1 C.2.1 hdg ht (k p l e s m args below meth c C H locs ls hM hL h1 h2 hl)
theorem g_ifnonnull {x : Nat} {off : Int} {tgt : Nat} (hdg : decode Y.2.1 pc = .ok (.ifnonnull off, 3)) (ht : (pc : Int) + off = (tgt : Int)) (k : GTc cl E Y d G0 tgt lv (rest) G Q) : GTc cl E Y d G0 pc lv (.ref x :: rest) G Q :=
  fun p l e s m args below meth c C H locs ls hM hL h1 h2 hl => lv_ifnonnull C.1 C.2.1 hdg ht (k p l e s m args below meth c C H locs ls hM hL h1 h2 hl)
theorem g_ifnonnullN {off : Int} (hdg : decode Y.2.1 pc = .ok (.ifnonnull off, 3)) (k : GTc cl E Y d G0 (pc + 3) lv (rest) G Q) : GTc cl E Y d G0 pc lv (.null :: rest) G Q :=
  fun p l e s m args below meth c C H locs ls hM hL h1 h2 hl => lv_ifnonnullN C.1 C.2.1 hdg (k p l e s m args below meth c C H locs ls hM hL h1 h2 hl)
theorem g_istore_n {i : Fin 4} {x : Int32} (hdg : decode Y.2.1 pc = .ok (.istore_n i, 1)) (hn : (i : Nat) < Y.2.2.1) (hp : g_put lv i (.int x) = lv') (k : GTc cl E Y d G0 (pc + 1) lv' rest G Q) : GTc cl E Y d G0 pc lv (.int x :: rest) G Q := by
  subst hp
  intro p l e s m args below meth c C H locs ls hM hL h1 h2 hl T hT X
  obtain ⟨ls', e1, hl'⟩ := hl.put (v := .int x) hn rfl
  obtain ⟨t, a, b⟩ := k p l e s m args below meth c C H locs ls' hM hL h1 h2 hl' T hT X
  refine ⟨t, ?_, b⟩
  jvm_step X.here [X.here.top, ↓top_set X.here.top, C.1, C.2.1, hdg, e1, Value.isRef]
  exact a
theorem g_istore {i : Nat} {x : Int32} (hdg : decode Y.2.1 pc = .ok (.istore i, 2)) (hn : (i : Nat) < Y.2.2.1) (hp : g_put lv i (.int x) = lv') (k : GTc cl E Y d G0 (pc + 2) lv' rest G Q) : GTc cl E Y d G0 pc lv (.int x :: rest) G Q := by
  subst hp
  intro p l e s m args below meth c C H locs ls hM hL h1 h2 hl T hT X
  obtain ⟨ls', e1, hl'⟩ := hl.put (v := .int x) hn rfl
  obtain ⟨t, a, b⟩ := k p l e s m args below meth c C H locs ls' hM hL h1 h2 hl' T hT X
  refine ⟨t, ?_, b⟩
  jvm_step X.here [X.here.top, ↓top_set X.here.top, C.1, C.2.1, hdg, e1, Value.isRef]
  exact a
theorem g_astore_n {i : Fin 4} {x : Nat} (hdg : decode Y.2.1 pc = .ok (.astore_n i, 1)) (hn : (i : Nat) < Y.2.2.1) (hp : g_put lv i (.ref x) = lv') (k : GTc cl E Y d G0 (pc + 1) lv' rest G Q) : GTc cl E Y d G0 pc lv (.ref x :: rest) G Q := by
  subst hp
  intro p l e s m args below meth c C H locs ls hM hL h1 h2 hl T hT X
  obtain ⟨ls', e1, hl'⟩ := hl.put (v := .ref x) hn rfl
  obtain ⟨t, a, b⟩ := k p l e s m args below meth c C H locs ls' hM hL h1 h2 hl' T hT X
  refine ⟨t, ?_, b⟩
  jvm_step X.here [X.here.top, ↓top_set X.here.top, C.1, C.2.1, hdg, e1, Value.isRef]
  exact a
theorem g_astore {i : Nat} {x : Nat} (hdg : decode Y.2.1 pc = .ok (.astore i, 2)) (hn : (i : Nat) < Y.2.2.1) (hp : g_put lv i (.ref x) = lv') (k : GTc cl E Y d G0 (pc + 2) lv' rest G Q) : GTc cl E Y d G0 pc lv (.ref x :: rest) G Q := by
  subst hp
  intro p l e s m args below meth c C H locs ls hM hL h1 h2 hl T hT X
  obtain ⟨ls', e1, hl'⟩ := hl.put (v := .ref x) hn rfl
  obtain ⟨t, a, b⟩ := k p l e s m args below meth c C H locs ls' hM hL h1 h2 hl' T hT X
  refine ⟨t, ?_, b⟩
  jvm_step X.here [X.here.top, ↓top_set X.here.top, C.1, C.2.1, hdg, e1, Value.isRef]
  exact a
theorem g_astore_nN {i : Fin 4} (hdg : decode Y.2.1 pc = .ok (.astore_n i, 1)) (hn : (i : Nat) < Y.2.2.1) (hp : g_put lv i .null = lv') (k : GTc cl E Y d G0 (pc + 1) lv' rest G Q) : GTc cl E Y d G0 pc lv (.null :: rest) G Q := by
  subst hp
  intro p l e s m args below meth c C H locs ls hM hL h1 h2 hl T hT X
  obtain ⟨ls', e1, hl'⟩ := hl.put (v := .null) hn rfl
  obtain ⟨t, a, b⟩ := k p l e s m args below meth c C H locs ls' hM hL h1 h2 hl' T hT X
  refine ⟨t, ?_, b⟩
  jvm_step X.here [X.here.top, ↓top_set X.here.top, C.1, C.2.1, hdg, e1, Value.isRef]
  exact a
theorem g_astoreN {i : Nat} (hdg : decode Y.2.1 pc = .ok (.astore i, 2)) (hn : (i : Nat) < Y.2.2.1) (hp : g_put lv i .null = lv') (k : GTc cl E Y d G0 (pc + 2) lv' rest G Q) : GTc cl E Y d G0 pc lv (.null :: rest) G Q := by
  subst hp
  intro p l e s m args below meth c C H locs ls hM hL h1 h2 hl T hT X
  obtain ⟨ls', e1, hl'⟩ := hl.put (v := .null) hn rfl
  obtain ⟨t, a, b⟩ := k p l e s m args below meth c C H locs ls' hM hL h1 h2 hl' T hT X
  refine ⟨t, ?_, b⟩
  jvm_step X.here [X.here.top, ↓top_set X.here.top, C.1, C.2.1, hdg, e1, Value.isRef]
  exact a
theorem g_iinc {i : Nat} {n : Int} {x v : Int32} (hdg : decode Y.2.1 pc = .ok (.iinc i n, 3)) (hx : g_get lv i = some (.int x)) (hv : x + Int32.ofInt n = v) (hn : i < Y.2.2.1) (hp : g_put lv i (.int v) = lv') (k : GTc cl E Y d G0 (pc + 3) lv' rest G Q) : GTc cl E Y d G0 pc lv rest G Q := by
  subst hp
  subst hv
  intro p l e s m args below meth c C H locs ls hM hL h1 h2 hl T hT X
  have hg := hl.at hx
  obtain ⟨ls', e1, hl'⟩ := hl.put (v := .int (x + Int32.ofInt n)) hn rfl
  obtain ⟨t, a, b⟩ := k p l e s m args below meth c C H locs ls' hM hL h1 h2 hl' T hT X
  refine ⟨t, ?_, b⟩
  jvm_step X.here [X.here.top, ↓top_set X.here.top, C.1, C.2.1, hdg, hg, e1]
  exact a
theorem g_if_eq {x : Int32} {off : Int} {tgt : Nat} (hdg : decode Y.2.1 pc = .ok (.ifCond .eq off, 3)) (ht : (pc : Int) + off = (tgt : Int)) (kt : x = 0 → GTc cl E Y d G0 tgt lv rest G Q) (kf : ¬ x = 0 → GTc cl E Y d G0 (pc + 3) lv rest G Q) : GTc cl E Y d G0 pc lv (.int x :: rest) G Q :=
  fun p l e s m args below meth c C H locs ls hM hL h1 h2 hl => lv_if_eq C.1 C.2.1 hdg ht (fun hh => kt hh p l e s m args below meth c C H locs ls hM hL h1 h2 hl) (fun hh => kf hh p l e s m args below meth c C H locs ls hM hL h1 h2 hl)
theorem g_if_ne {x : Int32} {off : Int} {tgt : Nat} (hdg : decode Y.2.1 pc = .ok (.ifCond .ne off, 3)) (ht : (pc : Int) + off = (tgt : Int)) (kt : ¬ x = 0 → GTc cl E Y d G0 tgt lv rest G Q) (kf : x = 0 → GTc cl E Y d G0 (pc + 3) lv rest G Q) : GTc cl E Y d G0 pc lv (.int x :: rest) G Q :=
  fun p l e s m args below meth c C H locs ls hM hL h1 h2 hl => lv_if_ne C.1 C.2.1 hdg ht (fun hh => kt hh p l e s m args below meth c C H locs ls hM hL h1 h2 hl) (fun hh => kf hh p l e s m args below meth c C H locs ls hM hL h1 h2 hl)
theorem g_if_lt {x : Int32} {off : Int} {tgt : Nat} (hdg : decode Y.2.1 pc = .ok (.ifCond .lt off, 3)) (ht : (pc : Int) + off = (tgt : Int)) (kt : x < 0 → GTc cl E Y d G0 tgt lv rest G Q) (kf : ¬ x < 0 → GTc cl E Y d G0 (pc + 3) lv rest G Q) : GTc cl E Y d G0 pc lv (.int x :: rest) G Q :=
  fun p l e s m args below meth c C H locs ls hM hL h1 h2 hl => lv_if_lt C.1 C.2.1 hdg ht (fun hh => kt hh p l e s m args below meth c C H locs ls hM hL h1 h2 hl) (fun hh => kf hh p l e s m args below meth c C H locs ls hM hL h1 h2 hl)
theorem g_if_ge {x : Int32} {off : Int} {tgt : Nat} (hdg : decode Y.2.1 pc = .ok (.ifCond .ge off, 3)) (ht : (pc : Int) + off = (tgt : Int)) (kt : 0 ≤ x → GTc cl E Y d G0 tgt lv rest G Q) (kf : ¬ 0 ≤ x → GTc cl E Y d G0 (pc + 3) lv rest G Q) : GTc cl E Y d G0 pc lv (.int x :: rest) G Q :=
  fun p l e s m args below meth c C H locs ls hM hL h1 h2 hl => lv_if_ge C.1 C.2.1 hdg ht (fun hh => kt hh p l e s m args below meth c C H locs ls hM hL h1 h2 hl) (fun hh => kf hh p l e s m args below meth c C H locs ls hM hL h1 h2 hl)
theorem g_if_gt {x : Int32} {off : Int} {tgt : Nat} (hdg : decode Y.2.1 pc = .ok (.ifCond .gt off, 3)) (ht : (pc : Int) + off = (tgt : Int)) (kt : 0 < x → GTc cl E Y d G0 tgt lv rest G Q) (kf : ¬ 0 < x → GTc cl E Y d G0 (pc + 3) lv rest G Q) : GTc cl E Y d G0 pc lv (.int x :: rest) G Q :=
  fun p l e s m args below meth c C H locs ls hM hL h1 h2 hl => lv_if_gt C.1 C.2.1 hdg ht (fun hh => kt hh p l e s m args below meth c C H locs ls hM hL h1 h2 hl) (fun hh => kf hh p l e s m args below meth c C H locs ls hM hL h1 h2 hl)
theorem g_if_le {x : Int32} {off : Int} {tgt : Nat} (hdg : decode Y.2.1 pc = .ok (.ifCond .le off, 3)) (ht : (pc : Int) + off = (tgt : Int)) (kt : x ≤ 0 → GTc cl E Y d G0 tgt lv rest G Q) (kf : ¬ x ≤ 0 → GTc cl E Y d G0 (pc + 3) lv rest G Q) : GTc cl E Y d G0 pc lv (.int x :: rest) G Q :=
  fun p l e s m args below meth c C H locs ls hM hL h1 h2 hl => lv_if_le C.1 C.2.1 hdg ht (fun hh => kt hh p l e s m args below meth c C H locs ls hM hL h1 h2 hl) (fun hh => kf hh p l e s m args below meth c C H locs ls hM hL h1 h2 hl)
theorem g_icmp_eq {x y : Int32} {off : Int} {tgt : Nat} (hdg : decode Y.2.1 pc = .ok (.if_icmp .eq off, 3)) (ht : (pc : Int) + off = (tgt : Int)) (kt : x = y → GTc cl E Y d G0 tgt lv rest G Q) (kf : ¬ x = y → GTc cl E Y d G0 (pc + 3) lv rest G Q) : GTc cl E Y d G0 pc lv (.int y :: .int x :: rest) G Q :=
  fun p l e s m args below meth c C H locs ls hM hL h1 h2 hl => lv_icmp_eq C.1 C.2.1 hdg ht (fun hh => kt hh p l e s m args below meth c C H locs ls hM hL h1 h2 hl) (fun hh => kf hh p l e s m args below meth c C H locs ls hM hL h1 h2 hl)
theorem g_icmp_ne {x y : Int32} {off : Int} {tgt : Nat} (hdg : decode Y.2.1 pc = .ok (.if_icmp .ne off, 3)) (ht : (pc : Int) + off = (tgt : Int)) (kt : ¬ x = y → GTc cl E Y d G0 tgt lv rest G Q) (kf : x = y → GTc cl E Y d G0 (pc + 3) lv rest G Q) : GTc cl E Y d G0 pc lv (.int y :: .int x :: rest) G Q :=
  fun p l e s m args below meth c C H locs ls hM hL h1 h2 hl => lv_icmp_ne C.1 C.2.1 hdg ht (fun hh => kt hh p l e s m args below meth c C H locs ls hM hL h1 h2 hl) (fun hh => kf hh p l e s m args below meth c C H locs ls hM hL h1 h2 hl)
theorem g_icmp_lt {x y : Int32} {off : Int} {tgt : Nat} (hdg : decode Y.2.1 pc = .ok (.if_icmp .lt off, 3)) (ht : (pc : Int) + off = (tgt : Int)) (kt : x < y → GTc cl E Y d G0 tgt lv rest G Q) (kf : ¬ x < y → GTc cl E Y d G0 (pc + 3) lv rest G Q) : GTc cl E Y d G0 pc lv (.int y :: .int x :: rest) G Q :=
  fun p l e s m args below meth c C H locs ls hM hL h1 h2 hl => lv_icmp_lt C.1 C.2.1 hdg ht (fun hh => kt hh p l e s m args below meth c C H locs ls hM hL h1 h2 hl) (fun hh => kf hh p l e s m args below meth c C H locs ls hM hL h1 h2 hl)
theorem g_icmp_ge {x y : Int32} {off : Int} {tgt : Nat} (hdg : decode Y.2.1 pc = .ok (.if_icmp .ge off, 3)) (ht : (pc : Int) + off = (tgt : Int)) (kt : y ≤ x → GTc cl E Y d G0 tgt lv rest G Q) (kf : ¬ y ≤ x → GTc cl E Y d G0 (pc + 3) lv rest G Q) : GTc cl E Y d G0 pc lv (.int y :: .int x :: rest) G Q :=
  fun p l e s m args below meth c C H locs ls hM hL h1 h2 hl => lv_icmp_ge C.1 C.2.1 hdg ht (fun hh => kt hh p l e s m args below meth c C H locs ls hM hL h1 h2 hl) (fun hh => kf hh p l e s m args below meth c C H locs ls hM hL h1 h2 hl)
theorem g_icmp_gt {x y : Int32} {off : Int} {tgt : Nat} (hdg : decode Y.2.1 pc = .ok (.if_icmp .gt off, 3)) (ht : (pc : Int) + off = (tgt : Int)) (kt : y < x → GTc cl E Y d G0 tgt lv rest G Q) (kf : ¬ y < x → GTc cl E Y d G0 (pc + 3) lv rest G Q) : GTc cl E Y d G0 pc lv (.int y :: .int x :: rest) G Q :=
  fun p l e s m args below meth c C H locs ls hM hL h1 h2 hl => lv_icmp_gt C.1 C.2.1 hdg ht (fun hh => kt hh p l e s m args below meth c C H locs ls hM hL h1 h2 hl) (fun hh => kf hh p l e s m args below meth c C H locs ls hM hL h1 h2 hl)
theorem g_icmp_le {x y : Int32} {off : Int} {tgt : Nat} (hdg : decode Y.2.1 pc = .ok (.if_icmp .le off, 3)) (ht : (pc : Int) + off = (tgt : Int)) (kt : x ≤ y → GTc cl E Y d G0 tgt lv rest G Q) (kf : ¬ x ≤ y → GTc cl E Y d G0 (pc + 3) lv rest G Q) : GTc cl E Y d G0 pc lv (.int y :: .int x :: rest) G Q :=
  fun p l e s m args below meth c C H locs ls hM hL h1 h2 hl => lv_icmp_le C.1 C.2.1 hdg ht (fun hh => kt hh p l e s m args below meth c C H locs ls hM hL h1 h2 hl) (fun hh => kf hh p l e s m args below meth c C H locs ls hM hL h1 h2 hl)
theorem g_ineg {x : Int32} (hdg : decode Y.2.1 pc = .ok (.ineg, 1)) (k : GTc cl E Y d G0 (pc + 1) lv (.int (-x) :: rest) G Q) : GTc cl E Y d G0 pc lv (.int x :: rest) G Q :=
  fun p l e s m args below meth c C H locs ls hM hL h1 h2 hl => lv_ineg C.1 C.2.1 hdg (k p l e s m args below meth c C H locs ls hM hL h1 h2 hl)
theorem g_idiv {x y : Int32} (hdg : decode Y.2.1 pc = .ok (.idiv, 1)) (hne : ¬ y = 0) (k : GTc cl E Y d G0 (pc + 1) lv (.int (x / y) :: rest) G Q) : GTc cl E Y d G0 pc lv (.int y :: .int x :: rest) G Q :=
  fun p l e s m args below meth c C H locs ls hM hL h1 h2 hl => lv_idiv C.1 C.2.1 hdg hne (k p l e s m args below meth c C H locs ls hM hL h1 h2 hl)
theorem g_irem {x y : Int32} (hdg : decode Y.2.1 pc = .ok (.irem, 1)) (hne : ¬ y = 0) (k : GTc cl E Y d G0 (pc + 1) lv (.int (x - x / y * y) :: rest) G Q) : GTc cl E Y d G0 pc lv (.int y :: .int x :: rest) G Q :=
  fun p l e s m args below meth c C H locs ls hM hL h1 h2 hl => lv_irem C.1 C.2.1 hdg hne (k p l e s m args below meth c C H locs ls hM hL h1 h2 hl)
theorem g_iushr {x y v : Int32} (hdg : decode Y.2.1 pc = .ok (.iushr, 1)) (hv : (x.toUInt32 >>> (y.toUInt32 &&& Int32.toUInt32 31)).toInt32 = v) (k : GTc cl E Y d G0 (pc + 1) lv (.int v :: rest) G Q) : GTc cl E Y d G0 pc lv (.int y :: .int x :: rest) G Q :=
  fun p l e s m args below meth c C H locs ls hM hL h1 h2 hl => lv_iushr C.1 C.2.1 hdg hv (k p l e s m args below meth c C H locs ls hM hL h1 h2 hl)
theorem g_dup_x1 {v w : Value} (hdg : decode Y.2.1 pc = .ok (.dup_x1, 1)) (hv : v.category = 1) (hw : w.category = 1) (k : GTc cl E Y d G0 (pc + 1) lv (v :: w :: v :: rest) G Q) : GTc cl E Y d G0 pc lv (v :: w :: rest) G Q :=
  fun p l e s m args below meth c C H locs ls hM hL h1 h2 hl => lv_dup_x1 C.1 C.2.1 hdg hv hw (k p l e s m args below meth c C H locs ls hM hL h1 h2 hl)
theorem g_dup2 {v w : Value} (hdg : decode Y.2.1 pc = .ok (.dup2, 1)) (hv : v.category = 1) (hw : w.category = 1) (k : GTc cl E Y d G0 (pc + 1) lv (v :: w :: v :: w :: rest) G Q) : GTc cl E Y d G0 pc lv (v :: w :: rest) G Q :=
  fun p l e s m args below meth c C H locs ls hM hL h1 h2 hl => lv_dup2_11 C.1 C.2.1 hdg hv hw (k p l e s m args below meth c C H locs ls hM hL h1 h2 hl)
theorem g_tableIn {dflt lo hi : Int} {offs : Array Int} {len : Nat} {x : Int32} {off : Int} {tgt : Nat} (hdg : decode Y.2.1 pc = .ok (.tableswitch dflt lo hi offs, len)) (h1 : ¬ x.toInt < lo) (h2 : ¬ hi < x.toInt) (ho : offs[(x.toInt - lo).toNat]? = some off) (ht : (pc : Int) + off = (tgt : Int)) (k : GTc cl E Y d G0 tgt lv rest G Q) : GTc cl E Y d G0 pc lv (.int x :: rest) G Q :=
  fun p l e s m args below meth c C H locs ls hM hL g1 g2 hl => lv_tableIn C.1 C.2.1 hdg h1 h2 ho ht (k p l e s m args below meth c C H locs ls hM hL g1 g2 hl)
theorem g_tableOut {dflt lo hi : Int} {offs : Array Int} {len : Nat} {x : Int32} {tgt : Nat} (hdg : decode Y.2.1 pc = .ok (.tableswitch dflt lo hi offs, len)) (h : x.toInt < lo ∨ hi < x.toInt) (ht : (pc : Int) + dflt = (tgt : Int)) (k : GTc cl E Y d G0 tgt lv rest G Q) : GTc cl E Y d G0 pc lv (.int x :: rest) G Q :=
  fun p l e s m args below meth c C H locs ls hM hL g1 g2 hl => lv_tableOut C.1 C.2.1 hdg h ht (k p l e s m args below meth c C H locs ls hM hL g1 g2 hl)
end GC
