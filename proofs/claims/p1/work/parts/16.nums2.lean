/-! Numbers, by their integers -/
theorem sub_hi {a b : Int32} {m n : Nat} (ha : a.toInt = (m : Int)) (hb : b.toInt = (n : Int)) (h : n ≤ m) : (a - b).toInt = ((m - n : Nat) : Int) := by
  have h1 := Int32.toInt_lt a
  rw [i_nI ha, i_nI hb, pk_sub h, nI_toInt (by omega)]
theorem add_hi {a b : Int32} {m n : Nat} (ha : a.toInt = (m : Int)) (hb : b.toInt = (n : Int)) (h : m + n < 2 ^ 31) : (a + b).toInt = ((m + n : Nat) : Int) := by
  rw [i_nI ha, i_nI hb, nI_add, nI_toInt h]
theorem mul_hi {a b : Int32} {m n : Nat} (ha : a.toInt = (m : Int)) (hb : b.toInt = (n : Int)) (h : m * n < 2 ^ 31) : (a * b).toInt = ((m * n : Nat) : Int) := by
  rw [i_nI ha, i_nI hb, pk_mul, nI_toInt h]
theorem lt_hi {a b : Int32} {m n : Nat} (ha : a.toInt = (m : Int)) (hb : b.toInt = (n : Int)) : a < b ↔ m < n := by
  rw [Int32.lt_iff_toInt_lt, ha, hb]
  omega
theorem le_hi {a b : Int32} {m n : Nat} (ha : a.toInt = (m : Int)) (hb : b.toInt = (n : Int)) : a ≤ b ↔ m ≤ n := by
  rw [Int32.le_iff_toInt_le, ha, hb]
  omega
theorem eq_hi {a b : Int32} {m n : Nat} (ha : a.toInt = (m : Int)) (hb : b.toInt = (n : Int)) : a = b ↔ m = n := by
  constructor
  · intro h
    rw [h, hb] at ha
    omega
  · intro h
    rw [i_nI ha, i_nI hb, h]
theorem tn_bd {x : Int32} {n : Nat} (h0 : ¬ x < 0) (h : ¬ nI n ≤ x) (hn : n < 2 ^ 31) : tn x < n := tn_lt h0 h (nI_hi hn)
theorem i0 : (0 : Int32).toInt = ((0 : Nat) : Int) := by decide
theorem i1 : (1 : Int32).toInt = ((1 : Nat) : Int) := by decide
theorem i2 : (2 : Int32).toInt = ((2 : Nat) : Int) := by decide
theorem i3 : (3 : Int32).toInt = ((3 : Nat) : Int) := by decide
theorem i4 : (4 : Int32).toInt = ((4 : Nat) : Int) := by decide
theorem i8 : (8 : Int32).toInt = ((8 : Nat) : Int) := by decide
theorem i10 : (10 : Int32).toInt = ((10 : Nat) : Int) := by decide
theorem i26 : (26 : Int32).toInt = ((26 : Nat) : Int) := by decide
theorem i32' : (32 : Int32).toInt = ((32 : Nat) : Int) := by decide
/-- the entry of a method of a class that the machine overrides in part -/
theorem g_entryF {cl : List vw_C} {E : gE} {Y : gY} {d : Nat} {G : gS} {Q : gO → gS → Prop} {as : List Value} (hy : plainFor Y.1 = true) (hc : ∀ v ∈ as, v.category = 1) (hn : as.length ≤ Y.2.2.1) (h : GTc cl E Y d G 0 (gEntry as 0) [] G Q) : GMc cl E Y d as G Q := by
  intro l hl
  refine MetFree.of_bodySF (code := Y.2.1) (maxLocals := Y.2.2.1) (ret := Y.2.2.2.1) hy ?_ ?_
  · intro args s m hp hnm
    obtain ⟨meth, c, h1, h2, h3, h4, h5, h6, -, -⟩ := gWord_spec hnm (atoms_spec (ws := [gWord Y]) hp _ List.mem_cons_self)
    exact ⟨meth, c, h1, h2, h3, h4, h5, h6⟩
  · intro p e s m args below meth c s₁ B hml hP _
    obtain ⟨rfl, hE, hM⟩ := hP
    have X := Stand.of_body B
    have hh0 : s₁.heap = s.heap := by rw [B.state]; rfl
    obtain ⟨meth', c', h1, h2, -, -, -, -, h7, -⟩ := gWord_spec B.named (atoms_spec (ws := [gWord Y]) B.pre _ List.mem_cons_self)
    cases B.method.symm.trans h1
    cases X.code.symm.trans h2
    have hl0 := lv_entry as (n := Y.2.2.1) (by rw [gSl_one as hc, List.length_map]; exact hn)
    rw [lg_entry_eq]
    have hlg : gLoc (lg_sl as ++ List.replicate (Y.2.2.1 - (lg_sl as).length) Slot.unset).toArray Y.2.2.1 (gEntry as 0) := by
      refine ⟨⟨hl0.1, hl0.2.1, fun q hq => ?_⟩, fun q hq => ?_, gEntry_nd as 0⟩
      · have h9 := (gEntry_mem as 0 q hq).2
        rw [Nat.sub_zero] at h9
        rw [List.getElem?_toArray, gSl_one as hc, List.getElem?_append_left (by rw [List.length_map]; exact (List.getElem?_eq_some_iff.mp h9).1), List.getElem?_map, h9]
        rfl
      · exact hc _ (List.mem_of_getElem? (gEntry_mem as 0 q hq).2)
    have K := h p l e s m as.toArray below meth c ⟨B.exec, B.bytes, hml, findClass_of_methodNamed B.named, hE, B.returns, B.notSynchronized, h7, (name_of_methodNamed B.named B.method).1, hM, hl⟩ s.heap [] _ hM (fun q hq => by cases hq) (Nat.le_refl _) (Nat.le_refl _) hlg
    rw [Nat.sub_self, Nat.sub_self] at K
    obtain ⟨t, a1, o, b1, b2, b3⟩ := K s₁ hh0 X
    exact ⟨t, o, a1, b1, b2, b3⟩
/-- an answer, and what is so of the world behind it -/
def rPost (v : Option Value) (P : gS → Prop) : gO → gS → Prop := fun o G' => o = .inl v ∧ P G'
/-- below n0 nothing has changed but at a -/
def gKeep (n0 a : Nat) (G G' : gS) : Prop := ∀ q, q < n0 → q ≠ a → G'.1 q = G.1 q
theorem gKeep.rf {n0 a : Nat} {G : gS} : gKeep n0 a G G := fun _ _ _ => rfl
theorem gKeep.up {n0 a b : Nat} {G G' : gS} {x : va_E} (h : gKeep n0 a G G') (hb : b = a ∨ n0 ≤ b) : gKeep n0 a G (gUp G' b x) := fun q h1 h2 => by
  simp only [gUp, va_up]
  rw [if_neg (by rcases hb with rfl | hb <;> omega)]
  exact h q h1 h2
theorem gKeep.new {n0 a n : Nat} {G G' : gS} {x : va_E} (h : gKeep n0 a G G') (hb : n0 ≤ G'.2.1) : gKeep n0 a G (gNew G' x n) := fun q h1 h2 => by
  simp only [gNew, va_up]
  rw [if_neg (by omega)]
  exact h q h1 h2
theorem gKeep.then {n0 n1 a b : Nat} {G G1 G2 : gS} (h : gKeep n0 a G G1) (h2 : gKeep n1 b G1 G2) (hn : n0 ≤ n1) (hb : b = a ∨ n0 ≤ b) : gKeep n0 a G G2 := fun q h3 h4 => by
  rw [h2 q (by omega) (by rcases hb with rfl | hb <;> omega)]
  exact h q h3 h4
section GK
variable {E : gE} {Y Y' : gY} {d : Nat} {G0 G G' : gS} {Q : gO → gS → Prop} {P : gS → Prop} {pc : Nat} {lv lv' : List (Nat × Value)} {st st' rest as : List Value} {a : Nat}
theorem c_Vx {b ci index N : Nat} {K : String} {T : u_T} {fs : List Value} {v : Option Value} (hk : gKV K Y' as.length) (hl : Cond.methodLink Y.1.cls index Y'.1 ∈ lw_tbl) (hc : gCl[ci]? = some (K, T, N)) (ha : G.1 b = some (.inr (ci, fs))) (hM : GM E Y' d (.ref b :: as) G (rPost v P)) (hst : st = as.reverse ++ .ref b :: rest) (hW : (rest.map fun v => v.category).sum ≤ 8) (hh : Y.2.2.2.2 = []) (hdg : decode Y.2.1 pc = .ok (.invokevirtual index, 3)) (hs : v.toList ++ rest = st')
    (k : ∀ G', P G' → GT E Y (d + 1) G0 (pc + 3) lv st' G' Q) : GT E Y (d + 1) G0 pc lv st G Q := by
  subst hs
  exact c_V hk hl hc ha hM hst hW hh hdg (fun w G2 hq => by obtain ⟨e1, e2⟩ := hq; cases e1; exact k G2 e2) (fun D G2 hq => by cases hq.1)
theorem c_Sx {index : Nat} {v : Option Value} (hk : gKS Y' as.length) (hl : Cond.methodLink Y.1.cls index Y'.1 ∈ lw_tbl) (hM : GM E Y' d as G (rPost v P)) (hst : st = as.reverse ++ rest) (hW : (rest.map fun v => v.category).sum ≤ 8) (hh : Y.2.2.2.2 = []) (hdg : decode Y.2.1 pc = .ok (.invokestatic index, 3)) (hs : v.toList ++ rest = st')
    (k : ∀ G', P G' → GT E Y (d + 1) G0 (pc + 3) lv st' G' Q) : GT E Y (d + 1) G0 pc lv st G Q := by
  subst hs
  exact c_S hk hl hM hst hW hh hdg (fun w G2 hq => by obtain ⟨e1, e2⟩ := hq; cases e1; exact k G2 e2) (fun D G2 hq => by cases hq.1)
theorem c_Ix {b index maxL : Nat} {y : MethodName} {cc : ByteArray} {v : Option Value} (hk : gKI y cc maxL as.length) (hl : Cond.methodLink Y.1.cls index y ∈ lw_tbl) (hM : GM E (y, cc, maxL, none, []) d (.ref b :: as) G (rPost v P)) (hst : st = as.reverse ++ .ref b :: rest) (hW : (rest.map fun v => v.category).sum ≤ 8) (hh : Y.2.2.2.2 = []) (hdg : decode Y.2.1 pc = .ok (.invokespecial index, 3)) (hs : v.toList ++ rest = st')
    (k : ∀ G', P G' → GT E Y (d + 1) G0 (pc + 3) lv st' G' Q) : GT E Y (d + 1) G0 pc lv st G Q := by
  subst hs
  exact c_I hk hl hM hst hW hh hdg (fun w G2 hq => by obtain ⟨e1, e2⟩ := hq; cases e1; exact k G2 e2) (fun D G2 hq => by cases hq.1)
theorem c_INx {b index maxL : Nat} {y : MethodName} {cc : ByteArray} {host : String} {v : Option Value} (hk : gKI y cc maxL as.length) (hl : Cond.methodLinkNest Y.1.cls index y host ∈ lw_tbl) (hM : GM E (y, cc, maxL, none, []) d (.ref b :: as) G (rPost v P)) (hst : st = as.reverse ++ .ref b :: rest) (hW : (rest.map fun v => v.category).sum ≤ 8) (hh : Y.2.2.2.2 = []) (hdg : decode Y.2.1 pc = .ok (.invokespecial index, 3)) (hs : v.toList ++ rest = st')
    (k : ∀ G', P G' → GT E Y (d + 1) G0 (pc + 3) lv st' G' Q) : GT E Y (d + 1) G0 pc lv st G Q := by
  subst hs
  exact c_IN hk hl hM hst hW hh hdg (fun w G2 hq => by obtain ⟨e1, e2⟩ := hq; cases e1; exact k G2 e2) (fun D G2 hq => by cases hq.1)
end GK
