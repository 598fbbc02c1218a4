/-! More rows: ArrayList's empty array, constants, casts, comparisons of references -/
def gDefT : Term := .static "java/util/ArrayList" "DEFAULTCAPACITY_EMPTY_ELEMENTDATA" "[Ljava/lang/Object;"
/-- where ArrayList's empty array lies -/
def gDef (E : gE) : Nat := match gDefT.eval #[] E.1 none [] E.1 with
  | some (.ref q) => q
  | _ => 0
theorem w_defL : Cond.laysStatic "java/util/ArrayList" "DEFAULTCAPACITY_EMPTY_ELEMENTDATA" "[Ljava/lang/Object;" ∈ lw_tbl := wI (i := 116) (by decide +kernel)
theorem w_defF : Cond.fieldLink "java/util/ArrayList" 39 "java/util/ArrayList" "DEFAULTCAPACITY_EMPTY_ELEMENTDATA" "[Ljava/lang/Object;" ∈ lw_tbl := wI (i := 115) (by decide +kernel)
theorem gDef_ok {cl : List vw_C} {E : gE} (h : gBase cl E) : va_Z "java/util/ArrayList" "DEFAULTCAPACITY_EMPTY_ELEMENTDATA" "[Ljava/lang/Object;" (.ref (gDef E)) (fun q => E.1.heap.size ≤ q) E.1 E.1.heap ∧ va_T (.object "java/lang/Object") (gDef E) 0 (fun _ => .null) (fun q => E.1.heap.size ≤ q) E.1 E.1.heap := by
  obtain ⟨-, ⟨a0, h0, hn⟩, -⟩ := h
  have hs := flat_of_before _ hn
  have harr : (Cond.arrayOf gDefT (.object "java/lang/Object")).before a0 E.1 = true := hs _ (by decide +kernel)
  have hlen : (Cond.eq (.length gDefT) (.int 0)).before a0 E.1 = true := hs _ (by decide +kernel)
  obtain ⟨t, h1, h2⟩ := va_Tof (N := 0) (f := fun _ => .null) (A := fun q => E.1.heap.size ≤ q) (by decide) harr (va_eqt hlen) (fun j hj => by omega) (fun a ha => by omega)
  have hg : gDef E = t := by
    have h3 : gDefT.eval #[] E.1 none [] E.1 = some (.ref t) := by
      rw [← h1]
      rfl
    unfold gDef
    rw [h3]
  rw [hg]
  exact ⟨va_Zref (h0 _ w_defL) (h0 _ (ki_ArrayList.2)) h1 (fun a ha => by omega), h2⟩
section GJ
variable {E : gE} {Y Y' : gY} {d : Nat} {G0 G G' : gS} {Q Qc : gO → gS → Prop} {pc : Nat} {lv lv' : List (Nat × Value)} {st st' rest as : List Value} {a : Nat}
theorem g_getDef (hf : Cond.fieldLink Y.1.cls 39 "java/util/ArrayList" "DEFAULTCAPACITY_EMPTY_ELEMENTDATA" "[Ljava/lang/Object;" ∈ lw_tbl) (hdg : decode Y.2.1 pc = .ok (.getstatic 39, 3)) (kk : GT E Y d G0 (pc + 3) lv (.ref (gDef E) :: rest) G Q) : GT E Y d G0 pc lv rest G Q := by
  intro p l e s m args below meth c X H locs ls hM hL h1 h2 hl
  have hE := X.2.2.2.2.1
  have hM0 := X.2.2.2.2.2.2.2.2.2.1
  have hZ : va_Z "java/util/ArrayList" "DEFAULTCAPACITY_EMPTY_ELEMENTDATA" "[Ljava/lang/Object;" (.ref (gDef E)) (fun q => E.1.heap.size ≤ q) s s.heap := va_Z.moved hE.2.alike ((gDef_ok hE.1).1.kept (fun a ha _ => hM0.2.2.2.1 a ha))
  have hS : va_S (fun q => E.1.heap.size ≤ q) s.heap H locs := ⟨by rw [hM.1, hM0.1]; exact h1, fun q _ hq => by rw [hM.2.2.2.1 q (by omega), hM0.2.2.2.1 q (by omega)], hL⟩
  exact va_gets X.1 X.2.1 hZ hS X.2.2.2.1 (hE.word hf rfl args) (fun _ h => h) hdg (kk p l e s m args below meth c X H locs ls hM hL h1 h2 hl)
theorem g_defLen (hdg : decode Y.2.1 pc = .ok (.arraylength, 1)) (kk : GT E Y d G0 (pc + 1) lv (.int 0 :: rest) G Q) : GT E Y d G0 pc lv (.ref (gDef E) :: rest) G Q := by
  intro p l e s m args below meth c X H locs ls hM hL h1 h2 hl
  have hE := X.2.2.2.2.1
  have hM0 := X.2.2.2.2.2.2.2.2.2.1
  have hZ := va_T.moved hE.2.alike ((gDef_ok hE.1).2.kept (fun a ha _ => hM0.2.2.2.1 a ha))
  have hS : va_S (fun q => E.1.heap.size ≤ q) s.heap H locs := ⟨by rw [hM.1, hM0.1]; exact h1, fun q _ hq => by rw [hM.2.2.2.1 q (by omega), hM0.2.2.2.1 q (by omega)], hL⟩
  exact va_tlen X.1 X.2.1 hZ hS rfl hdg (kk p l e s m args below meth c X H locs ls hM hL h1 h2 hl)
/-- ArrayList's empty array is older than the law -/
theorem gDef_lt {cl : List vw_C} (h : gBase cl E) : gDef E < E.1.heap.size := by
  obtain ⟨-, cell, h1, -, -, -, -, -, h2⟩ := gDef_ok h
  exact (Array.getElem?_eq_some_iff.mp h1).1
theorem g_ldc {index : Nat} {v : Int32} (hw : Cond.constant Y.1.cls index v ∈ lw_tbl) (hdg : decode Y.2.1 pc = .ok (.ldc index, 2)) (kk : GT E Y d G0 (pc + 2) lv (.int v :: rest) G Q) : GT E Y d G0 pc lv rest G Q :=
  fun p l e s m args below meth c X H locs ls hM hL h1 h2 hl => lv_ldc X.1 X.2.1 X.2.2.2.1 (X.2.2.2.2.1.word hw rfl args) hdg (kk p l e s m args below meth c X H locs ls hM hL h1 h2 hl)
theorem g_acmp_eq {x y : Nat} {off : Int} {tgt : Nat} (hdg : decode Y.2.1 pc = .ok (.if_acmp .eq off, 3)) (ht : (pc : Int) + off = (tgt : Int)) (kt : x = y → GT E Y d G0 tgt lv rest G Q) (kf : ¬ x = y → GT E Y d G0 (pc + 3) lv rest G Q) : GT E Y d G0 pc lv (.ref y :: .ref x :: rest) G Q :=
  fun p l e s m args below meth c X H locs ls hM hL h1 h2 hl => lv_acmp_eq (rx := some x) (ry := some y) X.1 X.2.1 hdg ht (fun h => kt (Option.some.inj h) p l e s m args below meth c X H locs ls hM hL h1 h2 hl) (fun h => kf (fun e0 => h (by rw [e0])) p l e s m args below meth c X H locs ls hM hL h1 h2 hl)
theorem g_acmp_ne {x y : Nat} {off : Int} {tgt : Nat} (hdg : decode Y.2.1 pc = .ok (.if_acmp .ne off, 3)) (ht : (pc : Int) + off = (tgt : Int)) (kt : ¬ x = y → GT E Y d G0 tgt lv rest G Q) (kf : x = y → GT E Y d G0 (pc + 3) lv rest G Q) : GT E Y d G0 pc lv (.ref y :: .ref x :: rest) G Q :=
  fun p l e s m args below meth c X H locs ls hM hL h1 h2 hl => lv_acmp_ne (rx := some x) (ry := some y) X.1 X.2.1 hdg ht (fun h => kt (fun e0 => h (by rw [e0])) p l e s m args below meth c X H locs ls hM hL h1 h2 hl) (fun h => kf (Option.some.inj h) p l e s m args below meth c X H locs ls hM hL h1 h2 hl)
/-- a cast of an object to its own class -/
theorem g_cast {index ci N : Nat} {C : String} {T : u_T} {fs : List Value} (hw : Cond.classLink Y.1.cls index C ∈ lw_tbl) (hc : gCl[ci]? = some (C, T, N)) (ha : G.1 a = some (.inr (ci, fs))) (hdg : decode Y.2.1 pc = .ok (.checkcast index, 3)) (kk : GT E Y d G0 (pc + 3) lv (.ref a :: rest) G Q) : GT E Y d G0 pc lv (.ref a :: rest) G Q := by
  intro p l e s m args below meth c X H locs ls hM hL h1 h2 hl
  have hE := X.2.2.2.2.1
  obtain ⟨r, g1, cell, k1, k2, k3, -⟩ := (hM.2.2.1 a _ ha).2
  have hcA := (hE.K.1 ci _ hc).2
  exact va_castS X.1 X.2.1 X.2.2.2.1 (hE.word hw rfl args) hcA ⟨cell, k1, by rw [k3]; rfl, by rw [k2]; exact hcA.1⟩ hdg (kk p l e s m args below meth c X H locs ls hM hL h1 h2 hl)
end GJ
