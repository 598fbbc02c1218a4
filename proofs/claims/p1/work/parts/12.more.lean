/-! More rows: worlds after stores, calls with a known answer, arrays of references whose place is known -/
theorem gUp_at {G : gS} {a : Nat} {x0 x : va_E} (_ : G.1 a = some x0) : (gUp G a x).1 a = some x := by simp [gUp, va_up]
theorem gUp_ne {G : gS} {a b : Nat} {x y : va_E} (h : G.1 b = some y) (hn : a ≠ b) : (gUp G a x).1 b = some y := by
  simp only [gUp, va_up]
  rw [if_neg (Ne.symm hn)]
  exact h
theorem gUp_k {G : gS} {a b : Nat} {x0 x y : va_E} (ha : G.1 a = some x0) (h : G.1 b = some y) (hn : x0 ≠ y) : (gUp G a x).1 b = some y :=
  gUp_ne h (fun e => hn (by subst e; exact Option.some.inj (ha.symm.trans h)))
theorem gNew_at {G : gS} {x : va_E} {n : Nat} : (gNew G x n).1 G.2.1 = some x := by simp [gNew, va_up]
theorem gNew_ne {G : gS} {b : Nat} {x y : va_E} {n : Nat} (h : G.1 b = some y) (hb : b < G.2.1) : (gNew G x n).1 b = some y := by
  simp only [gNew, va_up]
  rw [if_neg (by omega)]
  exact h
def gOk (E : gE) (G : gS) : Prop := E.1.heap.size ≤ G.2.1 ∧ ∀ b y, G.1 b = some y → E.1.heap.size ≤ b ∧ b < G.2.1
theorem va_rf_cat (o : Option Nat) : (va_rf o).category = 1 := by cases o <;> rfl
def b32 (p : Prop) [Decidable p] : Int32 := if p then 1 else 0
section GI
variable {E : gE} {Y Y' : gY} {d : Nat} {G0 G G' : gS} {Q Qc : gO → gS → Prop} {pc : Nat} {lv lv' : List (Nat × Value)} {st st' rest as : List Value} {a : Nat}
theorem g_ok (k : gOk E G → GT E Y d G0 pc lv st G Q) : GT E Y d G0 pc lv st G Q := by
  intro p l e s m args below meth c C H locs ls hM hL h1 h2 hl
  exact k ⟨hM.2.1, fun b y hb => ⟨(hM.2.2.1 b y hb).1, by rw [← hM.1]; exact (hM.2.2.1 b y hb).2.lt⟩⟩ p l e s m args below meth c C H locs ls hM hL h1 h2 hl
theorem g_base (k : gBase gCl E → GT E Y d G0 pc lv st G Q) : GT E Y d G0 pc lv st G Q := by
  intro p l e s m args below meth c C H locs ls hM hL h1 h2 hl
  exact k C.2.2.2.2.1.1 p l e s m args below meth c C H locs ls hM hL h1 h2 hl
theorem GM.ok {as : List Value} (k : gOk E G → GM E Y d as G Q) : GM E Y d as G Q := by
  intro l hl p e ha hc hk s m args below hf happ hP hK
  obtain ⟨h1, h2, hM⟩ := id hP
  exact k ⟨hM.2.1, fun b y hb => ⟨(hM.2.2.1 b y hb).1, by rw [← hM.1]; exact (hM.2.2.1 b y hb).2.lt⟩⟩ l hl p e ha hc hk s m args below hf happ hP hK
theorem c_Vr {b ci index N : Nat} {K : String} {T : u_T} {fs : List Value} {v : Option Value} (hk : gKV K Y' as.length) (hl : Cond.methodLink Y.1.cls index Y'.1 ∈ lw_tbl) (hc : gCl[ci]? = some (K, T, N)) (ha : G.1 b = some (.inr (ci, fs))) (hM : GM E Y' d (.ref b :: as) G (rIs v G')) (hst : st = as.reverse ++ .ref b :: rest) (hW : (rest.map fun v => v.category).sum ≤ 8) (hh : Y.2.2.2.2 = []) (hdg : decode Y.2.1 pc = .ok (.invokevirtual index, 3)) (hs : v.toList ++ rest = st')
    (k : GT E Y (d + 1) G0 (pc + 3) lv st' G' Q) : GT E Y (d + 1) G0 pc lv st G Q := by
  subst hs
  exact c_V hk hl hc ha hM hst hW hh hdg (fun w G2 hq => by obtain ⟨e1, rfl⟩ := hq; cases e1; exact k) (fun D G2 hq => by cases hq.1)
theorem c_Vt {b ci index N : Nat} {K C : String} {T : u_T} {fs : List Value} (hk : gKV K Y' as.length) (hl : Cond.methodLink Y.1.cls index Y'.1 ∈ lw_tbl) (hc : gCl[ci]? = some (K, T, N)) (ha : G.1 b = some (.inr (ci, fs))) (hM : GM E Y' d (.ref b :: as) G (tIs C G')) (hst : st = as.reverse ++ .ref b :: rest) (hW : (rest.map fun v => v.category).sum ≤ 8) (hh : Y.2.2.2.2 = []) (hdg : decode Y.2.1 pc = .ok (.invokevirtual index, 3))
    (k : ∀ G2, tIs C G' (.inr C) G2 → Q (.inr C) G2) : GT E Y (d + 1) G0 pc lv st G Q :=
  c_V hk hl hc ha hM hst hW hh hdg (fun w G2 hq => by cases hq.1) (fun D G2 hq => by have e1 := hq.1; cases e1; exact k G2 hq)
theorem c_Sr {index : Nat} {v : Option Value} (hk : gKS Y' as.length) (hl : Cond.methodLink Y.1.cls index Y'.1 ∈ lw_tbl) (hM : GM E Y' d as G (rIs v G')) (hst : st = as.reverse ++ rest) (hW : (rest.map fun v => v.category).sum ≤ 8) (hh : Y.2.2.2.2 = []) (hdg : decode Y.2.1 pc = .ok (.invokestatic index, 3)) (hs : v.toList ++ rest = st')
    (k : GT E Y (d + 1) G0 (pc + 3) lv st' G' Q) : GT E Y (d + 1) G0 pc lv st G Q := by
  subst hs
  exact c_S hk hl hM hst hW hh hdg (fun w G2 hq => by obtain ⟨e1, rfl⟩ := hq; cases e1; exact k) (fun D G2 hq => by cases hq.1)
theorem c_Ir {b index maxL : Nat} {y : MethodName} {cc : ByteArray} {v : Option Value} (hk : gKI y cc maxL as.length) (hl : Cond.methodLink Y.1.cls index y ∈ lw_tbl) (hM : GM E (y, cc, maxL, none, []) d (.ref b :: as) G (rIs v G')) (hst : st = as.reverse ++ .ref b :: rest) (hW : (rest.map fun v => v.category).sum ≤ 8) (hh : Y.2.2.2.2 = []) (hdg : decode Y.2.1 pc = .ok (.invokespecial index, 3)) (hs : v.toList ++ rest = st')
    (k : GT E Y (d + 1) G0 (pc + 3) lv st' G' Q) : GT E Y (d + 1) G0 pc lv st G Q := by
  subst hs
  exact c_I hk hl hM hst hW hh hdg (fun w G2 hq => by obtain ⟨e1, rfl⟩ := hq; cases e1; exact k) (fun D G2 hq => by cases hq.1)
theorem c_INr {b index maxL : Nat} {y : MethodName} {cc : ByteArray} {host : String} {v : Option Value} (hk : gKI y cc maxL as.length) (hl : Cond.methodLinkNest Y.1.cls index y host ∈ lw_tbl) (hM : GM E (y, cc, maxL, none, []) d (.ref b :: as) G (rIs v G')) (hst : st = as.reverse ++ .ref b :: rest) (hW : (rest.map fun v => v.category).sum ≤ 8) (hh : Y.2.2.2.2 = []) (hdg : decode Y.2.1 pc = .ok (.invokespecial index, 3)) (hs : v.toList ++ rest = st')
    (k : GT E Y (d + 1) G0 (pc + 3) lv st' G' Q) : GT E Y (d + 1) G0 pc lv st G Q := by
  subst hs
  exact c_IN hk hl hM hst hW hh hdg (fun w G2 hq => by obtain ⟨e1, rfl⟩ := hq; cases e1; exact k) (fun D G2 hq => by cases hq.1)
theorem g_taldS {i : Int32} {j n q : Nat} {f : Nat → Option Nat} (ha : G.1 a = some (gAT E n f)) (hi : i.toInt = (j : Int)) (hj : j < n) (hq : f j = some q) (hdg : decode Y.2.1 pc = .ok (.aaload, 1)) (kk : GT E Y d G0 (pc + 1) lv (.ref q :: rest) G Q) : GT E Y d G0 pc lv (.int i :: .ref a :: rest) G Q :=
  g_tald ha hi hj hdg (by rw [hq]; exact kk)
theorem g_taldN {i : Int32} {j n : Nat} {f : Nat → Option Nat} (ha : G.1 a = some (gAT E n f)) (hi : i.toInt = (j : Int)) (hj : j < n) (hq : f j = none) (hdg : decode Y.2.1 pc = .ok (.aaload, 1)) (kk : GT E Y d G0 (pc + 1) lv (.null :: rest) G Q) : GT E Y d G0 pc lv (.int i :: .ref a :: rest) G Q :=
  g_tald ha hi hj hdg (by rw [hq]; exact kk)
theorem g_oaldS {i : Int32} {j n q : Nat} {f : Nat → Option Nat} (ha : G.1 a = some (gAO E n f)) (hi : i.toInt = (j : Int)) (hj : j < n) (hq : f j = some q) (hdg : decode Y.2.1 pc = .ok (.aaload, 1)) (kk : GT E Y d G0 (pc + 1) lv (.ref q :: rest) G Q) : GT E Y d G0 pc lv (.int i :: .ref a :: rest) G Q :=
  g_oald ha hi hj hdg (by rw [hq]; exact kk)
theorem g_oaldN {i : Int32} {j n : Nat} {f : Nat → Option Nat} (ha : G.1 a = some (gAO E n f)) (hi : i.toInt = (j : Int)) (hj : j < n) (hq : f j = none) (hdg : decode Y.2.1 pc = .ok (.aaload, 1)) (kk : GT E Y d G0 (pc + 1) lv (.null :: rest) G Q) : GT E Y d G0 pc lv (.int i :: .ref a :: rest) G Q :=
  g_oald ha hi hj hdg (by rw [hq]; exact kk)
/-- an int on top gets a name -/
theorem g_top {x : Int32} (y : Int32) (e : x = y) (k : GT E Y d G0 pc lv (.int y :: rest) G Q) : GT E Y d G0 pc lv (.int x :: rest) G Q := e ▸ k
end GI
/-- the exceptions above E, up to Throwable -/
def xNames : List String := ["java/lang/RuntimeException", "java/lang/Exception"]
