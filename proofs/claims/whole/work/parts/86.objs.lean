/-! More rows: arrays of objects, System.arraycopy between them, class objects -/
theorem w_cpN : Cond.native arraycopyName ∈ lw_tbl := wI (i := 723) (by decide +kernel)
theorem w_cpS : Cond.static arraycopyName ∈ lw_tbl := wI (i := 722) (by decide +kernel)
theorem w_sys : Cond.initialized "java/lang/System" ∈ lw_tbl := wI (i := 24) (by decide +kernel)
theorem w_cp1 : Cond.methodLink "java/util/Arrays" 150 arraycopyName ∈ lw_tbl := wI (i := 721) (by decide +kernel)
theorem w_cp2 : Cond.methodLink "java/util/ArrayList" 112 arraycopyName ∈ lw_tbl := wI (i := 796) (by decide +kernel)
/-- a class of which there are objects in lists -/
def gOb (ci : Nat) : Prop := ∃ r : vw_C, gCl[ci]? = some r ∧ Cond.castable r.1 "java/lang/Object" ∈ lw_tbl
theorem ob_Row : gOb 7 := ⟨_, rfl, wI (i := 1495) (by decide +kernel)⟩
theorem ob_Place : gOb 4 := ⟨_, rfl, wI (i := 1494) (by decide +kernel)⟩
theorem ob_Question : gOb 6 := ⟨_, rfl, wI (i := 1496) (by decide +kernel)⟩
theorem ob_Term : gOb 9 := ⟨_, rfl, wI (i := 1493) (by decide +kernel)⟩
section CF
variable {E : gE} {Y : gY} {d : Nat} {G0 G : gS} {Q : gO → gS → Prop} {pc : Nat} {lv : List (Nat × Value)} {rest : List Value} {a : Nat}
/-- null into an array of objects -/
theorem g_oastN {i : Int32} {j n : Nat} {f : Nat → Option Nat} (ha : G.1 a = some (gAO E n f)) (hi : i.toInt = (j : Int)) (hj : j < n) (hdg : decode Y.2.1 pc = .ok (.aastore, 1)) (kk : GT E Y d G0 (pc + 1) lv rest (gUp G a (gAO E n (va_up f j none))) Q) : GT E Y d G0 pc lv (.null :: .int i :: .ref a :: rest) G Q := by
  intro p l e s m args below meth c X H locs ls hM hL h1 h2 hl
  have hE := X.2.2.2.2.1
  obtain ⟨e1, e2⟩ := g_ix hi hj
  have hat : H[a]? = some (vp_cell (gTy E 4) (n, .inr (.inr (.inr (.inr f))))) := (hM.2.2.1 a _ ha).2
  have hT := (hE.K.2 4 _ (gTy_at hE.1 4 rfl))
  refine va_WaastN (C := "java/lang/Object") X.1 X.2.1 hat (hT.1 n (fun j => va_rf (f j))) (fun q => by cases q) (by show ¬ (i < 0 ∨ (arrV _ _ _).slots.size ≤ _); rw [arrV_size]; exact e1) rfl rfl hdg fun H1 e0 z oq => ?_
  refine kk p l e s m args below meth c X H1 _ ls (hM.set ha ?_ z oq) (fun q hq => by
    rcases List.mem_append.mp hq with h | h
    · exact hL q h
    · rw [List.mem_singleton.mp h]; exact (hM.2.2.1 a _ ha).1) h1 h2 hl
  show H1[a]? = some (vp_cell _ _)
  rw [e0]
  rw [vp_cell_q, vp_cell_q, arrV_store, e2]
  congr 2
  funext q
  by_cases hq : q = j
  · subst hq
    simp [updV, va_up, va_rf]
  · simp [updV, va_up, hq]
theorem g_oast {i : Int32} {j n v ci : Nat} {vs : List Value} {f : Nat → Option Nat} (ha : G.1 a = some (gAO E n f)) (hi : i.toInt = (j : Int)) (hj : j < n) (hv : G.1 v = some (.inr (ci, vs))) (hc : gOb ci) (hdg : decode Y.2.1 pc = .ok (.aastore, 1)) (kk : GT E Y d G0 (pc + 1) lv rest (gUp G a (gAO E n (va_up f j (some v)))) Q) : GT E Y d G0 pc lv (.ref v :: .int i :: .ref a :: rest) G Q := by
  intro p l e s m args below meth c X H locs ls hM hL h1 h2 hl
  have hE := X.2.2.2.2.1
  obtain ⟨e1, e2⟩ := g_ix hi hj
  have hat : H[a]? = some (vp_cell (gTy E 4) (n, .inr (.inr (.inr (.inr f))))) := (hM.2.2.1 a _ ha).2
  obtain ⟨r', hr', cellV, g1, g2, g3, -⟩ := (hM.2.2.1 v _ hv).2
  obtain ⟨r, hr, hca⟩ := hc
  have hcls := (hE.K.1 ci _ hr).2
  obtain ⟨kA, comp, k1, k2, k3, -⟩ := (hE.K.2 4 _ (gTy_at hE.1 4 rfl)).2
  obtain ⟨kE, hkE, -⟩ := Vm.findClass_spec k3
  obtain ⟨c0, t1, f1, f2, f3⟩ := Cond.castable_spec (hE.word hca rfl args)
  cases hcls.1.symm.trans f1
  cases k3.symm.trans f2
  obtain ⟨kC, hkC, -⟩ := hcls.2
  refine W.aast X.1 X.2.1 hat (fun q h => by cases h) (fun h => by cases h) k1 k2 rfl hkE ⟨fun q => e1 (Or.inl q), by show _ < (arrV _ _ _).slots.size; rw [arrV_size, e2]; exact hj⟩ g1 (fun q h => by rw [g3] at h; cases h) (by rw [g2]; exact hkC) (by rw [g2]; exact f3) rfl rfl hdg fun H1 e0 z oq => ?_
  refine kk p l e s m args below meth c X H1 _ ls (hM.set ha ?_ z oq) (fun q hq => by
    rcases List.mem_append.mp hq with h | h
    · exact hL q h
    · rw [List.mem_singleton.mp h]; exact (hM.2.2.1 a _ ha).1) h1 h2 hl
  show H1[a]? = some (vp_cell _ _)
  rw [e0]
  rw [vp_cell_q, vp_cell_q, arrV_store, e2]
  congr 2
  funext q
  by_cases hq : q = j
  · subst hq
    simp [updV, va_up, va_rf]
  · simp [updV, va_up, hq]
theorem nn_clamp {z : Int32} {k : Nat} (h : z.toInt = (k : Int)) : ¬ z < 0 ∧ z.toNatClampNeg = k := by
  refine ⟨fun q => ?_, ?_⟩
  · rw [Int32.lt_iff_toInt_lt, h, Int32.toInt_zero] at q
    omega
  · show z.toInt.toNat = k
    rw [h]
    rfl
/-- System.arraycopy between arrays of objects -/
theorem g_copy {index a0 n0 n1 N J K ci : Nat} {f g : Nat → Option Nat} {sp dp n : Int32} (hl : Cond.methodLink Y.1.cls index arraycopyName ∈ lw_tbl) (ha0 : G.1 a0 = some (gAO E n0 f)) (ha : G.1 a = some (gAO E n1 g)) (h1 : sp.toInt = (J : Int)) (h2 : dp.toInt = (K : Int)) (h3 : n.toInt = (N : Int)) (h4 : J + N ≤ n0) (h5 : K + N ≤ n1)
    (hc : gOb ci) (hel : ∀ i, i < N → ∀ y, f (J + i) = some y → ∃ vs, G.1 y = some (.inr (ci, vs))) (hW : (rest.map fun v => v.category).sum ≤ 8) (hdg : decode Y.2.1 pc = .ok (.invokestatic index, 3)) (kk : GT E Y (d + 1) G0 (pc + 3) lv rest (gUp G a (gAO E n1 (va_cpy f g J K N))) Q) : GT E Y (d + 1) G0 pc lv (.int n :: .int dp :: .ref a :: .int sp :: .ref a0 :: rest) G Q := by
  intro p l e s m args below meth c X H locs ls hM hL g1 g2 hls
  have hE := X.2.2.2.2.1
  obtain ⟨n1', e1⟩ := nn_clamp h1
  obtain ⟨n2', e2⟩ := nn_clamp h2
  obtain ⟨n3', e3⟩ := nn_clamp h3
  have hc0 : H[a0]? = some (vp_cell (gTy E 4) (n0, .inr (.inr (.inr (.inr f))))) := (hM.2.2.1 a0 _ ha0).2
  have hc1 : H[a]? = some (vp_cell (gTy E 4) (n1, .inr (.inr (.inr (.inr g))))) := (hM.2.2.1 a _ ha).2
  have hT4 := hE.K.2 4 _ (gTy_at hE.1 4 rfl)
  obtain ⟨-, k0, hk0, cm0, hkk0⟩ := hT4.1 n0 (fun j => va_rf (f j))
  obtain ⟨-, k1, hk1, cm1, hkk1⟩ := hT4.1 n1 (fun j => va_rf (g j))
  obtain ⟨r, hr, hca⟩ := hc
  have hcls := (hE.K.1 ci _ hr).2
  have hw : nativeFrameWords "java/lang/System" "arraycopy" 5 ≤ 40 := by decide
  intro T hT XX
  obtain ⟨vm', X', step⟩ := XX.arraycopy X.1 X.2.2.2.1 (hE.word hl rfl args) (hE.word w_cpN rfl args) (hE.word w_cpS rfl args) (hE.word w_sys rfl args) (src := a0) (dst := a) (cs := vp_cell (gTy E 4) (n0, .inr (.inr (.inr (.inr f))))) (cd := vp_cell (gTy E 4) (n1, .inr (.inr (.inr (.inr g))))) (srcPos := sp) (destPos := dp) (n := n) (by rw [hT]; exact hc0) (by rw [hT]; exact hc1)
    (fun _ h => by cases h) (fun _ h => by cases h) (fun h => by cases h) (fun h => by cases h) hk0 hk1 hkk0 hkk1 rfl n1' n2' n3'
    (by rw [h1, h3]; show ¬ _ > ((arrV _ n0 (fun j => va_rf (f j))).slots.size : Int); rw [arrV_size]; omega)
    (by rw [h2, h3]; show ¬ _ > ((arrV _ n1 (fun j => va_rf (g j))).slots.size : Int); rw [arrV_size]; omega)
    (fun vm₁ hal i hi => by
      rw [e3] at hi
      have e : (vp_cell (gTy E 4) (n0, .inr (.inr (.inr (.inr f))))).slots.getD (sp.toNatClampNeg + i) .null = va_rf (f (J + i)) := by
        show (arrV _ n0 (fun j => va_rf (f j))).slots.getD _ _ = _
        rw [Array.getD_eq_getD_getElem?, e1, arrV_read _ _ (by omega)]
        rfl
      rw [e]
      cases hy : f (J + i) with
      | none => exact ⟨rfl, trivial⟩
      | some y =>
        obtain ⟨vs, hvs⟩ := hel i hi y hy
        obtain ⟨r', hr', cellV, g1, g2, g3, -⟩ := (hM.2.2.1 y _ hvs).2
        obtain ⟨kA, comp, r1, r2, r3, -⟩ := hT4.2
        cases hk1.symm.trans r1
        cases hkk1.symm.trans r2
        obtain ⟨kC, hkC, -⟩ := hcls.2
        obtain ⟨kE, hkE, -⟩ := Vm.findClass_spec r3
        obtain ⟨kC', hkC', -⟩ := hal.2.2 _ _ hkC
        obtain ⟨kE', hkE', -⟩ := hal.2.2 _ _ hkE
        obtain ⟨c0, t1, f1, f2, f3⟩ := Cond.castable_spec (hE.word hca rfl args)
        cases hcls.1.symm.trans f1
        cases r3.symm.trans f2
        refine ⟨rfl, cellV, (show T.heap[y]? = some cellV by rw [hT]; exact g1), (fun q h => by rw [g3] at h; cases h), ⟨kC', by rw [g2]; exact hkC'⟩, ?_, ?_⟩
        · exact ⟨kE', hkE'⟩
        · show vm₁.assignable _ _ = true
          rw [hal.assignable, g2]
          exact f3)
    (g := F0 m pc ls (.int n :: .int dp :: .ref a :: .int sp :: .ref a0 :: rest)) rfl (by rw [X.2.2.1]; exact hls.1.1) (rest := rest) rfl (by rw [X.2.1]; exact hdg) (by show 1 ≤ d + 1; omega) (by show 2 * 0 + _ + _ ≤ 60 * (d + 1); omega)
  have ec : copied (vp_cell (gTy E 4) (n0, .inr (.inr (.inr (.inr f))))) (vp_cell (gTy E 4) (n1, .inr (.inr (.inr (.inr g))))) sp dp n = vp_cell (gTy E 4) (n1, .inr (.inr (.inr (.inr (va_cpy f g J K N))))) := by
    rw [vp_cell_q, vp_cell_q, vp_cell_q, ← e1, ← e2, ← e3]
    exact va_copied (fun z => va_rf z) _ _ f g (by rw [e1, e3]; exact h4)
  rw [ec] at X' step
  have hlt : a < H.size := (Array.getElem?_eq_some_iff.mp hc1).1
  have hheap : ((T.setVm vm').setCell a (vp_cell (gTy E 4) (n1, .inr (.inr (.inr (.inr (va_cpy f g J K N))))))).heap = H.setIfInBounds a (vp_cell (gTy E 4) (n1, .inr (.inr (.inr (.inr (va_cpy f g J K N)))))) := by rw [← hT]; rfl
  have oq : ∀ q : Nat, q ≠ a → (H.setIfInBounds a (vp_cell (gTy E 4) (n1, .inr (.inr (.inr (.inr (va_cpy f g J K N)))))))[q]? = H[q]? := fun q hq => by simp [Array.getElem?_setIfInBounds, Ne.symm hq]
  obtain ⟨t, a1, b1⟩ := kk p l e s m args below meth c X _ _ ls (hM.set ha (show (H.setIfInBounds a _)[a]? = some _ by simp [Array.getElem?_setIfInBounds, hlt]) (by simp) oq) (fun q hq => by
      rcases List.mem_append.mp hq with h | h
      · exact hL q h
      · obtain ⟨z, -, hz⟩ := List.mem_map.mp h
        rw [← hz]
        exact (hM.2.2.1 a _ ha).1) g1 g2 hls _ hheap X'
  exact ⟨t, step t a1, b1⟩
/-- where the class object of Object[] lies -/
def gMir (E : gE) : Nat := match (Jvm.Term.mirror "[Ljava/lang/Object;").eval #[] E.1 none [] E.1 with
  | some (.ref q) => q
  | _ => 0
theorem w_gcL : Cond.methodLink "java/util/Arrays" 86 ⟨"java/lang/Object", "getClass", "()Ljava/lang/Class;"⟩ ∈ lw_tbl := wI (i := 693) (by decide +kernel)
theorem w_gcD : Cond.declares ⟨"java/lang/Object", "getClass", "()Ljava/lang/Class;"⟩ ∈ lw_tbl := wI (i := 1483) (by decide +kernel)
theorem w_gcS : Cond.selects "[Ljava/lang/Object;" ⟨"java/lang/Object", "getClass", "()Ljava/lang/Class;"⟩ ⟨"java/lang/Object", "getClass", "()Ljava/lang/Class;"⟩ ∈ lw_tbl := wI (i := 1482) (by decide +kernel)
theorem w_gcI : Cond.instanceMethod ⟨"java/lang/Object", "getClass", "()Ljava/lang/Class;"⟩ ∈ lw_tbl := wI (i := 694) (by decide +kernel)
theorem w_gcN : Cond.native ⟨"java/lang/Object", "getClass", "()Ljava/lang/Class;"⟩ ∈ lw_tbl := wI (i := 713) (by decide +kernel)
theorem w_gcC : Cond.classLink "java/util/Arrays" 110 "[Ljava/lang/Object;" ∈ lw_tbl := wI (i := 717) (by decide +kernel)
theorem gMir_ok (h : gBase gCl E) : va_Mi "[Ljava/lang/Object;" (gMir E) E.1 := by
  obtain ⟨-, ⟨a0, h0, hn⟩, -⟩ := h
  have hs := flat_of_before _ hn
  have hm : (Cond.isRef (.mirror "[Ljava/lang/Object;")).before a0 E.1 = true := hs _ (by decide +kernel)
  obtain ⟨mi, c, k, h1, h2, h3⟩ := va_Mi.of hm
  refine ⟨c, k, h1, h2, ?_⟩
  have : gMir E = mi := by
    unfold gMir
    have e : (Jvm.Term.mirror "[Ljava/lang/Object;").eval #[] E.1 none [] E.1 = some (.ref mi) := by simp [Term.eval, h1, h2, h3]
    rw [e]
  rw [this]
  exact h3
theorem g_ldcM (hl : Cond.classLink Y.1.cls 110 "[Ljava/lang/Object;" ∈ lw_tbl) (hdg : decode Y.2.1 pc = .ok (.ldc 110, 2)) (kk : GT E Y d G0 (pc + 2) lv (.ref (gMir E) :: rest) G Q) : GT E Y d G0 pc lv rest G Q :=
  fun p l e s m args below meth c X H locs ls hM hL h1 h2 hls => va_ldcM X.1 X.2.1 X.2.2.2.1 (X.2.2.2.2.1.word hl rfl args) (va_Mi.moved X.2.2.2.2.1.2.alike (gMir_ok X.2.2.2.2.1.1)) hdg (kk p l e s m args below meth c X H locs ls hM hL h1 h2 hls)
theorem g_getC {n : Nat} {f : Nat → Option Nat} {index : Nat} (hl : Cond.methodLink Y.1.cls index ⟨"java/lang/Object", "getClass", "()Ljava/lang/Class;"⟩ ∈ lw_tbl) (ha : G.1 a = some (gAO E n f)) (hW : (rest.map fun v => v.category).sum ≤ 8) (hdg : decode Y.2.1 pc = .ok (.invokevirtual index, 3)) (kk : GT E Y (d + 1) G0 (pc + 3) lv (.ref (gMir E) :: rest) G Q) : GT E Y (d + 1) G0 pc lv (.ref a :: rest) G Q := by
  intro p l e s m args below meth c X H locs ls hM hL h1 h2 hls
  have hE := X.2.2.2.2.1
  have hc0 : H[a]? = some (vp_cell (gTy E 4) (n, .inr (.inr (.inr (.inr f))))) := (hM.2.2.1 a _ ha).2
  have hT4 := hE.K.2 4 _ (gTy_at hE.1 4 rfl)
  exact va_getC X.1 X.2.1 (by rw [X.2.2.1]; exact hls.1.1.symm) X.2.2.2.1 (hE.word hl rfl args) (hE.word w_gcD rfl args) (hE.word w_gcS rfl args) (hE.word w_gcI rfl args) (hE.word w_gcN rfl args) (va_Mi.moved hE.2.alike (gMir_ok hE.1)) ⟨_, hc0, rfl, va_nmO hT4.2 (by decide)⟩ (by show 1 ≤ d + 1; omega) (by show _ ≤ 60 * (d + 1); omega) hdg (kk p l e s m args below meth c X H locs ls hM hL h1 h2 hls)
end CF
