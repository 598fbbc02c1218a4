/-! The rows of calls, with bundled words -/
section GW
variable {E : gE} {Y Y' : gY} {d : Nat} {G0 G : gS} {Q Qc : gO → gS → Prop} {pc : Nat} {lv lv' : List (Nat × Value)} {st rest as : List Value}
abbrev GM (E : gE) (Y : gY) (d : Nat) (as : List Value) (G : gS) (Q : gO → gS → Prop) : Prop := GMc gCl E Y d as G Q
abbrev GT (E : gE) (Y : gY) (d : Nat) (G0 : gS) (pc : Nat) (lv : List (Nat × Value)) (st : List Value) (G : gS) (Q : gO → gS → Prop) : Prop := GTc gCl E Y d G0 pc lv st G Q
theorem c_V {b ci index N : Nat} {K : String} {T : u_T} {fs : List Value} (hk : gKV K Y' as.length) (hl : Cond.methodLink Y.1.cls index Y'.1 ∈ lw_tbl) (hc : gCl[ci]? = some (K, T, N)) (ha : G.1 b = some (.inr (ci, fs))) (hM : GM E Y' d (.ref b :: as) G Qc) (hst : st = as.reverse ++ .ref b :: rest) (hW : (rest.map fun v => v.category).sum ≤ 8) (hh : Y.2.2.2.2 = []) (hdg : decode Y.2.1 pc = .ok (.invokevirtual index, 3))
    (kr : ∀ v G', Qc (.inl v) G' → GT E Y (d + 1) G0 (pc + 3) lv (v.toList ++ rest) G' Q) (kt : ∀ D G', Qc (.inr D) G' → Q (.inr D) G') : GT E Y (d + 1) G0 pc lv st G Q :=
  g_callV hM ha hc hl hk.1 hk.2.1 hk.2.2.1 hk.2.2.2.1 hk.2.2.2.2.1 hk.2.2.2.2.2.1 hk.2.2.2.2.2.2.1 hk.2.2.2.2.2.2.2 hst hW hh hdg kr kt
theorem c_VH {b ci index N : Nat} {K : String} {T : u_T} {fs : List Value} (hk : gKV K Y' as.length) (hl : Cond.methodLink Y.1.cls index Y'.1 ∈ lw_tbl) (hc : gCl[ci]? = some (K, T, N)) (ha : G.1 b = some (.inr (ci, fs))) (hM : GM E Y' d (.ref b :: as) G Qc) (hst : st = as.reverse ++ .ref b :: rest) (hW : (rest.map fun v => v.category).sum ≤ 8) (hdg : decode Y.2.1 pc = .ok (.invokevirtual index, 3))
    (kr : ∀ v G', Qc (.inl v) G' → GT E Y (d + 1) G0 (pc + 3) lv (v.toList ++ rest) G' Q)
    (kt : gBase gCl E → ∀ D G', Qc (.inr D) G' → ∃ tgt, gCaught Y pc E D tgt ∧ ∀ q : Nat, GT E Y (d + 1) G0 tgt lv [.ref q] G' Q) : GT E Y (d + 1) G0 pc lv st G Q :=
  g_callVH hM ha hc hl hk.1 hk.2.1 hk.2.2.1 hk.2.2.2.1 hk.2.2.2.2.1 hk.2.2.2.2.2.1 hk.2.2.2.2.2.2.1 hk.2.2.2.2.2.2.2 hst hW hdg kr kt
theorem c_S {index : Nat} (hk : gKS Y' as.length) (hl : Cond.methodLink Y.1.cls index Y'.1 ∈ lw_tbl) (hM : GM E Y' d as G Qc) (hst : st = as.reverse ++ rest) (hW : (rest.map fun v => v.category).sum ≤ 8) (hh : Y.2.2.2.2 = []) (hdg : decode Y.2.1 pc = .ok (.invokestatic index, 3))
    (kr : ∀ v G', Qc (.inl v) G' → GT E Y (d + 1) G0 (pc + 3) lv (v.toList ++ rest) G' Q) (kt : ∀ D G', Qc (.inr D) G' → Q (.inr D) G') : GT E Y (d + 1) G0 pc lv st G Q :=
  g_callS hM hl hk.1 hk.2.1 hk.2.2.1 hk.2.2.2.1 hk.2.2.2.2.1 hk.2.2.2.2.2.1 hk.2.2.2.2.2.2 hst hW hh hdg kr kt
theorem c_I {b index maxL : Nat} {y : MethodName} {cc : ByteArray} (hk : gKI y cc maxL as.length) (hl : Cond.methodLink Y.1.cls index y ∈ lw_tbl) (hM : GM E (y, cc, maxL, none, []) d (.ref b :: as) G Qc) (hst : st = as.reverse ++ .ref b :: rest) (hW : (rest.map fun v => v.category).sum ≤ 8) (hh : Y.2.2.2.2 = []) (hdg : decode Y.2.1 pc = .ok (.invokespecial index, 3))
    (kr : ∀ v G', Qc (.inl v) G' → GT E Y (d + 1) G0 (pc + 3) lv (v.toList ++ rest) G' Q) (kt : ∀ D G', Qc (.inr D) G' → Q (.inr D) G') : GT E Y (d + 1) G0 pc lv st G Q :=
  g_callI hM hk.1 hl hk.2.1 hk.2.2.1 hk.2.2.2.1 hk.2.2.2.2.1 hk.2.2.2.2.2.1 hk.2.2.2.2.2.2 hst hW hh hdg kr kt
theorem c_IN {b index maxL : Nat} {y : MethodName} {cc : ByteArray} {host : String} (hk : gKI y cc maxL as.length) (hl : Cond.methodLinkNest Y.1.cls index y host ∈ lw_tbl) (hM : GM E (y, cc, maxL, none, []) d (.ref b :: as) G Qc) (hst : st = as.reverse ++ .ref b :: rest) (hW : (rest.map fun v => v.category).sum ≤ 8) (hh : Y.2.2.2.2 = []) (hdg : decode Y.2.1 pc = .ok (.invokespecial index, 3))
    (kr : ∀ v G', Qc (.inl v) G' → GT E Y (d + 1) G0 (pc + 3) lv (v.toList ++ rest) G' Q) (kt : ∀ D G', Qc (.inr D) G' → Q (.inr D) G') : GT E Y (d + 1) G0 pc lv st G Q :=
  g_callIN hM hk.1 hl hk.2.1 hk.2.2.1 hk.2.2.2.1 hk.2.2.2.2.1 hk.2.2.2.2.2.1 hk.2.2.2.2.2.2 hst hW hh hdg kr kt
/-- a contract with a weaker end -/
theorem GM.mono {as : List Value} {Q' : gO → gS → Prop} (h : GM E Y d as G Q') (hQ : ∀ o G', Q' o G' → Q o G') : GM E Y d as G Q := by
  intro l hl p e ha hc hk s m args below hf happ hP hK
  obtain ⟨n, o, h1, h2, h3, out, G', L, q1, q2⟩ := h l hl p e ha hc hk s m args below hf happ hP hK
  exact ⟨n, o, h1, h2, h3, out, G', L, hQ _ _ q1, q2⟩
/-- an answer, the world as it was -/
def rIs (v : Option Value) (G : gS) : gO → gS → Prop := fun o G' => o = .inl v ∧ G' = G
/-- an exception, the world as it was but for that cell -/
def tIs (C : String) (G : gS) : gO → gS → Prop := fun o G' => o = .inr C ∧ G'.1 = G.1 ∧ G.2.1 ≤ G'.2.1 ∧ G'.2.1 ≤ G.2.1 + 1 ∧ G'.2.2 = G.2.2 + 6
/-- room for so many cells and slots more -/
def gFit (E : gE) (G : gS) (c n : Nat) : Prop := G.2.1 + c ≤ E.1.heap.size + room_1.cells ∧ G.2.2 + n ≤ room_1.slots
end GW
