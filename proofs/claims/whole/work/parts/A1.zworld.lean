/-! The class's other objects as one world: kinds by address (1 Row, 2 its places, 3 its wishes, 4 its names' places, 5 Place, 6 Question, 7 Term, 8 its parts, 9 a list's array), lengths, numbers, references -/
abbrev uS : Type := (Nat → Nat) × (Nat → Nat) × (Nat → Nat → Int32) × (Nat → Nat → Option Nat)
def zF (k q : Nat) (f : Nat → Int32) : List Value := match k with
  | 1 => [.ref (q + 1), .ref (q + 2), .ref (q + 3), .int (f 3), .int (f 4)]
  | 5 => [.int (f 0), .int (f 1), .int (f 2), .int (f 3), .int (f 4)]
  | 6 => [.int (f 0), .int (f 1), .int (f 2), .int (f 3), .int (f 4), .int (f 5), .int (f 6), .int (f 7), .int (f 8), .int (f 9), .int (f 10), .int (f 11)]
  | _ => [.int (f 0), .int (f 1), .int (f 2), .ref (q + 1), .int (f 4), .int (f 5), .int (f 6)]
def zD (E : gE) (u : uS) (k q : Nat) : va_E := match k with
  | 1 => .inr (7, zF 1 q (u.2.2.1 q))
  | 2 => gAI E 24 (u.2.2.1 q)
  | 3 => gAT E 24 (u.2.2.2 q)
  | 4 => gAI E 8 (u.2.2.1 q)
  | 5 => .inr (4, zF 5 q (u.2.2.1 q))
  | 6 => .inr (6, zF 6 q (u.2.2.1 q))
  | 7 => .inr (9, zF 7 q (u.2.2.1 q))
  | 8 => gAT E (u.2.1 q) (u.2.2.2 q)
  | _ => gAO E (u.2.1 q) (u.2.2.2 q)
/-- G with these objects; n cells, sl slots made -/
def zW (E : gE) (G : gS) (u : uS) (n sl : Nat) : gS := (fun q => if u.1 q = 0 then G.1 q else some (zD E u (u.1 q) q), n, sl)
/-- the class and its objects -/
abbrev yW (E : gE) (G : gS) (a : Nat) (c : cS) (u : uS) (n sl : Nat) : gS := xW E (zW E G u n sl) a c
def uI (u : uS) (q j : Nat) (x : Int32) : uS := (u.1, u.2.1, upA u.2.2.1 q (upd (u.2.2.1 q) j x), u.2.2.2)
def uT (u : uS) (q j : Nat) (x : Option Nat) : uS := (u.1, u.2.1, u.2.2.1, upT u.2.2.2 q (va_up (u.2.2.2 q) j x))
/-- the array of numbers, of references as a whole -/
def uIr (u : uS) (q : Nat) (f : Nat → Int32) : uS := (u.1, u.2.1, upA u.2.2.1 q f, u.2.2.2)
def uTr (u : uS) (q : Nat) (f : Nat → Option Nat) : uS := (u.1, u.2.1, u.2.2.1, upT u.2.2.2 q f)
/-- a new object -/
def uN (u : uS) (q k l : Nat) (f : Nat → Int32) (g : Nat → Option Nat) : uS := (upN u.1 q k, upN u.2.1 q l, upA u.2.2.1 q f, upT u.2.2.2 q g)
/-- an object of kind k lies at q, behind the class -/
def zIs (u : uS) (a q k : Nat) : Prop := u.1 q = k ∧ a + 24 ≤ q
section ZW
variable {E : gE} {G : gS} {a n sl : Nat} {c c' : cS} {u u' : uS} {Y : gY} {d : Nat} {G0 : gS} {Q : gO → gS → Prop} {pc : Nat} {lv : List (Nat × Value)} {rest : List Value} {q k : Nat}
theorem z_at (h : zIs u a q k) (h0 : k ≠ 0) : (yW E G a c u n sl).1 q = some (zD E u k q) := by
  unfold yW
  rw [xw_o (Or.inr h.2)]
  simp only [zW]
  rw [if_neg (by rw [h.1]; exact h0), h.1]
theorem zD_cong (h1 : u'.2.1 q = u.2.1 q) (h2 : u'.2.2.1 q = u.2.2.1 q) (h3 : u'.2.2.2 q = u.2.2.2 q) : zD E u' k q = zD E u k q := by
  unfold zD
  rw [h1, h2, h3]
theorem z_up (h : zIs u a q k) (h0 : k ≠ 0) (hk : u'.1 = u.1) (hf : ∀ p, p ≠ q → u'.2.1 p = u.2.1 p ∧ u'.2.2.1 p = u.2.2.1 p ∧ u'.2.2.2 p = u.2.2.2 p) : gUp (yW E G a c u n sl) q (zD E u' k q) = yW E G a c u' n sl := by
  refine Prod.ext (funext fun p => ?_) rfl
  simp only [gUp, va_up, yW, xW, zW]
  by_cases e : p = q
  · subst e
    rw [if_pos rfl, if_neg (by have := h.2; omega), hk, h.1, if_neg h0]
  · rw [if_neg e]
    by_cases e2 : a ≤ p ∧ p < a + 24
    · rw [if_pos e2, if_pos e2]
    · rw [if_neg e2, if_neg e2, hk]
      by_cases e3 : u.1 p = 0
      · rw [if_pos e3, if_pos e3]
      · rw [if_neg e3, if_neg e3, zD_cong (hf p e).1 (hf p e).2.1 (hf p e).2.2]
theorem up_I {j : Nat} {x : Int32} {p : Nat} (h : p ≠ q) : (uI u q j x).2.2.1 p = u.2.2.1 p := upA_ne h
theorem at_I {j : Nat} {x : Int32} : (uI u q j x).2.2.1 q = upd (u.2.2.1 q) j x := upA_at
theorem upT_at {A : Nat → Nat → Option Nat} {j : Nat} {f : Nat → Option Nat} : upT A j f j = f := if_pos rfl
theorem upT_ne {A : Nat → Nat → Option Nat} {i j : Nat} {f : Nat → Option Nat} (h : i ≠ j) : upT A j f i = A i := if_neg h
theorem upN_at {A : Nat → Nat} {j x : Nat} : upN A j x j = x := if_pos rfl
theorem upN_ne {A : Nat → Nat} {i j x : Nat} (h : i ≠ j) : upN A j x i = A i := if_neg h
theorem up_T {j : Nat} {x : Option Nat} {p : Nat} (h : p ≠ q) : (uT u q j x).2.2.2 p = u.2.2.2 p := upT_ne h
theorem at_T {j : Nat} {x : Option Nat} : (uT u q j x).2.2.2 q = va_up (u.2.2.2 q) j x := upT_at
theorem z_get {ci N index j : Nat} {C : String} {T : u_T} {ty : Nat → FieldType} {fs : List Value} {v : Value} (hcl : gCls gCl ci C T N ty) (hf : gFld Y.1.cls index T j) (hj : j < N) (h : zIs u a q k) (h0 : k ≠ 0) (hz : zD E u k q = .inr (ci, fs)) (hv : fs[j]? = some v) (hdg : decode Y.2.1 pc = .ok (.getfield index, 3)) (kk : GT E Y d G0 (pc + 3) lv (v :: rest) (yW E G a c u n sl) Q) : GT E Y d G0 pc lv (.ref q :: rest) (yW E G a c u n sl) Q :=
  g_getf hcl hf hj ((z_at h h0).trans (congrArg some hz)) hv hdg kk
theorem z_put {ci N index j : Nat} {C : String} {T : u_T} {ty : Nat → FieldType} {x : Int32} (hcl : gCls gCl ci C T N ty) (hf : gFld Y.1.cls index T j) (hj : j < N) (h : zIs u a q k) (h0 : k ≠ 0) (hz : ∀ w : uS, zD E w k q = .inr (ci, zF k q (w.2.2.1 q))) (hfin : (T j).2.2.2 = false) (hn : narrow (ty j) (.int x) = .int x) (hfit : fits (ty j) (.int x) = true) (hlen : j < (zF k q (u.2.2.1 q)).length) (hs : (zF k q (u.2.2.1 q)).set j (.int x) = zF k q (upd (u.2.2.1 q) j x)) (hdg : decode Y.2.1 pc = .ok (.putfield index, 3)) (kk : GT E Y d G0 (pc + 3) lv rest (yW E G a c (uI u q j x) n sl) Q) : GT E Y d G0 pc lv (.int x :: .ref q :: rest) (yW E G a c u n sl) Q := by
  refine g_putf hcl hf hj ((z_at h h0).trans (congrArg some (hz u))) hfin hn hfit hlen hs hdg ?_
  have e : (.inr (ci, zF k q (upd (u.2.2.1 q) j x)) : va_E) = zD E (uI u q j x) k q := by rw [hz, at_I]
  rw [e, z_up (u' := uI u q j x) h h0 rfl (fun p hp => ⟨rfl, up_I hp, rfl⟩)]
  exact kk
theorem z_ald {i : Int32} {j N : Nat} (h : zIs u a q k) (h0 : k ≠ 0) (hz : zD E u k q = gAI E N (u.2.2.1 q)) (hi : i.toInt = (j : Int)) (hj : j < N) (hdg : decode Y.2.1 pc = .ok (.iaload, 1)) (kk : GT E Y d G0 (pc + 1) lv (.int (u.2.2.1 q j) :: rest) (yW E G a c u n sl) Q) : GT E Y d G0 pc lv (.int i :: .ref q :: rest) (yW E G a c u n sl) Q :=
  g_iald ((z_at h h0).trans (congrArg some hz)) hi hj hdg kk
theorem z_ast {i x : Int32} {j N : Nat} (h : zIs u a q k) (h0 : k ≠ 0) (hz : ∀ w : uS, zD E w k q = gAI E N (w.2.2.1 q)) (hi : i.toInt = (j : Int)) (hj : j < N) (hdg : decode Y.2.1 pc = .ok (.iastore, 1)) (kk : GT E Y d G0 (pc + 1) lv rest (yW E G a c (uI u q j x) n sl) Q) : GT E Y d G0 pc lv (.int x :: .int i :: .ref q :: rest) (yW E G a c u n sl) Q := by
  refine g_iast ((z_at h h0).trans (congrArg some (hz u))) hi hj hdg ?_
  have e : gAI E N (upd (u.2.2.1 q) j x) = zD E (uI u q j x) k q := by rw [hz, at_I]
  rw [e, z_up (u' := uI u q j x) h h0 rfl (fun p hp => ⟨rfl, up_I hp, rfl⟩)]
  exact kk
/-- kinds 3 and 8: terms -/
theorem z_tald {i : Int32} {j N b : Nat} (h : zIs u a q k) (h0 : k ≠ 0) (hz : zD E u k q = gAT E N (u.2.2.2 q)) (hi : i.toInt = (j : Int)) (hj : j < N) (hb : u.2.2.2 q j = some b) (hdg : decode Y.2.1 pc = .ok (.aaload, 1)) (kk : GT E Y d G0 (pc + 1) lv (.ref b :: rest) (yW E G a c u n sl) Q) : GT E Y d G0 pc lv (.int i :: .ref q :: rest) (yW E G a c u n sl) Q :=
  g_taldS ((z_at h h0).trans (congrArg some hz)) hi hj hb hdg kk
theorem z_tast {i : Int32} {j b : Nat} (h : zIs u a q 3) (hi : i.toInt = (j : Int)) (hj : j < 24) (hv : zIs u a b 7) (hdg : decode Y.2.1 pc = .ok (.aastore, 1)) (kk : GT E Y d G0 (pc + 1) lv rest (yW E G a c (uT u q j (some b)) n sl) Q) : GT E Y d G0 pc lv (.ref b :: .int i :: .ref q :: rest) (yW E G a c u n sl) Q := by
  refine g_tast (n := 24) (ci := 9) (z_at h (by decide)) hi hj (z_at hv (by decide)) rfl hdg ?_
  have e : gAT E 24 (va_up (u.2.2.2 q) j (some b)) = zD E (uT u q j (some b)) 3 q := by show _ = gAT E 24 ((uT u q j (some b)).2.2.2 q); rw [at_T]
  rw [e, z_up (u' := uT u q j (some b)) h (by decide) rfl (fun p hp => ⟨rfl, rfl, up_T hp⟩)]
  exact kk
/-- kinds from 9 on: the lists' arrays -/
def zA (k : Nat) : Prop := k ≠ 0 ∧ ∀ (E : gE) (w : uS) (q : Nat), zD E w k q = gAO E (w.2.1 q) (w.2.2.2 q)
theorem za_9 : zA 9 := ⟨by decide, fun _ _ _ => rfl⟩
theorem za_10 : zA 10 := ⟨by decide, fun _ _ _ => rfl⟩
theorem za_11 : zA 11 := ⟨by decide, fun _ _ _ => rfl⟩
theorem za_12 : zA 12 := ⟨by decide, fun _ _ _ => rfl⟩
theorem z_ao (h : zIs u a q k) (hA : zA k) : (yW E G a c u n sl).1 q = some (gAO E (u.2.1 q) (u.2.2.2 q)) := (z_at h hA.1).trans (congrArg some (hA.2 E u q))
theorem z_oald {i : Int32} {j b : Nat} (hA : zA k) (h : zIs u a q k) (hi : i.toInt = (j : Int)) (hj : j < u.2.1 q) (hb : u.2.2.2 q j = some b) (hdg : decode Y.2.1 pc = .ok (.aaload, 1)) (kk : GT E Y d G0 (pc + 1) lv (.ref b :: rest) (yW E G a c u n sl) Q) : GT E Y d G0 pc lv (.int i :: .ref q :: rest) (yW E G a c u n sl) Q :=
  g_oaldS (n := u.2.1 q) (f := u.2.2.2 q) (z_ao h hA) hi hj hb hdg kk
theorem z_olen {v : Int32} (hA : zA k) (h : zIs u a q k) (hv : Int32.ofNat (u.2.1 q) = v) (hdg : decode Y.2.1 pc = .ok (.arraylength, 1)) (kk : GT E Y d G0 (pc + 1) lv (.int v :: rest) (yW E G a c u n sl) Q) : GT E Y d G0 pc lv (.ref q :: rest) (yW E G a c u n sl) Q :=
  g_olen (n := u.2.1 q) (f := u.2.2.2 q) (z_ao h hA) hv hdg kk
/-- an object's class, by its kind -/
def zCi (k : Nat) : Nat := match k with
  | 1 => 7
  | 5 => 4
  | 6 => 6
  | _ => 9
theorem z_ob (h : zIs u a q k) (hk : k = 1 ∨ k = 5 ∨ k = 6 ∨ k = 7) : (yW E G a c u n sl).1 q = some (.inr (zCi k, zF k q (u.2.2.1 q))) ∧ gOb (zCi k) := by
  rcases hk with rfl | rfl | rfl | rfl
  · exact ⟨z_at h (by decide), ob_Row⟩
  · exact ⟨z_at h (by decide), ob_Place⟩
  · exact ⟨z_at h (by decide), ob_Question⟩
  · exact ⟨z_at h (by decide), ob_Term⟩
theorem z_oast {i : Int32} {j b kb : Nat} (hA : zA k) (h : zIs u a q k) (hi : i.toInt = (j : Int)) (hj : j < u.2.1 q) (hv : zIs u a b kb) (hk : kb = 1 ∨ kb = 5 ∨ kb = 6 ∨ kb = 7) (hdg : decode Y.2.1 pc = .ok (.aastore, 1)) (kk : GT E Y d G0 (pc + 1) lv rest (yW E G a c (uT u q j (some b)) n sl) Q) : GT E Y d G0 pc lv (.ref b :: .int i :: .ref q :: rest) (yW E G a c u n sl) Q := by
  have hb := z_ob (E := E) (G := G) (c := c) (n := n) (sl := sl) hv hk
  refine g_oast (n := u.2.1 q) (f := u.2.2.2 q) (z_ao h hA) hi hj hb.1 hb.2 hdg ?_
  have e : gAO E (u.2.1 q) (va_up (u.2.2.2 q) j (some b)) = zD E (uT u q j (some b)) k q := by rw [hA.2, at_T]; rfl
  rw [e, z_up (u' := uT u q j (some b)) h hA.1 rfl (fun p hp => ⟨rfl, rfl, up_T hp⟩)]
  exact kk
theorem z_oastN {i : Int32} {j : Nat} (hA : zA k) (h : zIs u a q k) (hi : i.toInt = (j : Int)) (hj : j < u.2.1 q) (hdg : decode Y.2.1 pc = .ok (.aastore, 1)) (kk : GT E Y d G0 (pc + 1) lv rest (yW E G a c (uT u q j none) n sl) Q) : GT E Y d G0 pc lv (.null :: .int i :: .ref q :: rest) (yW E G a c u n sl) Q := by
  refine g_oastN (n := u.2.1 q) (f := u.2.2.2 q) (z_ao h hA) hi hj hdg ?_
  have e : gAO E (u.2.1 q) (va_up (u.2.2.2 q) j none) = zD E (uT u q j none) k q := by rw [hA.2, at_T]; rfl
  rw [e, z_up (u' := uT u q j none) h hA.1 rfl (fun p hp => ⟨rfl, rfl, up_T hp⟩)]
  exact kk
theorem z_copy {index q0 N J K kb : Nat} {sp dp m : Int32} (hl : Cond.methodLink Y.1.cls index arraycopyName ∈ lw_tbl) {k0 : Nat} (hA0 : zA k0) (h' : zIs u a q0 k0) (hA : zA k) (h : zIs u a q k) (h1 : sp.toInt = (J : Int)) (h2 : dp.toInt = (K : Int)) (h3 : m.toInt = (N : Int)) (h4 : J + N ≤ u.2.1 q0) (h5 : K + N ≤ u.2.1 q) (hk : kb = 1 ∨ kb = 5 ∨ kb = 6 ∨ kb = 7) (hel : ∀ i, i < N → ∀ y, u.2.2.2 q0 (J + i) = some y → zIs u a y kb) (hW : (rest.map fun v => v.category).sum ≤ 8) (hdg : decode Y.2.1 pc = .ok (.invokestatic index, 3))
    (kk : GT E Y (d + 1) G0 (pc + 3) lv rest (yW E G a c (uTr u q (va_cpy (u.2.2.2 q0) (u.2.2.2 q) J K N)) n sl) Q) : GT E Y (d + 1) G0 pc lv (.int m :: .int dp :: .ref q :: .int sp :: .ref q0 :: rest) (yW E G a c u n sl) Q := by
  have hob : gOb (zCi kb) := by
    rcases hk with rfl | rfl | rfl | rfl
    · exact ob_Row
    · exact ob_Place
    · exact ob_Question
    · exact ob_Term
  refine g_copy (n0 := u.2.1 q0) (f := u.2.2.2 q0) (n1 := u.2.1 q) (g := u.2.2.2 q) hl (z_ao h' hA0) (z_ao h hA) h1 h2 h3 h4 h5 hob (fun i hi y hy => ⟨_, (z_ob (hel i hi y hy) hk).1⟩) hW hdg ?_
  have e : gAO E (u.2.1 q) (va_cpy (u.2.2.2 q0) (u.2.2.2 q) J K N) = zD E (uTr u q (va_cpy (u.2.2.2 q0) (u.2.2.2 q) J K N)) k q := by
    rw [hA.2, show (uTr u q (va_cpy (u.2.2.2 q0) (u.2.2.2 q) J K N)).2.2.2 q = va_cpy (u.2.2.2 q0) (u.2.2.2 q) J K N from upT_at]
    rfl
  rw [e, z_up (u' := uTr u q (va_cpy (u.2.2.2 q0) (u.2.2.2 q) J K N)) h hA.1 rfl (fun p hp => ⟨rfl, rfl, upT_ne hp⟩)]
  exact kk
theorem z_cast {index kb N : Nat} {C : String} {T : u_T} (hw : Cond.classLink Y.1.cls index C ∈ lw_tbl) (hc : gCl[zCi kb]? = some (C, T, N)) (h : zIs u a q kb) (hk : kb = 1 ∨ kb = 5 ∨ kb = 6 ∨ kb = 7) (hdg : decode Y.2.1 pc = .ok (.checkcast index, 3)) (kk : GT E Y d G0 (pc + 3) lv (.ref q :: rest) (yW E G a c u n sl) Q) : GT E Y d G0 pc lv (.ref q :: rest) (yW E G a c u n sl) Q :=
  g_cast hw hc (z_ob h hk).1 hdg kk
/-- a new object -/
theorem z_new {f : Nat → Int32} {g : Nat → Option Nat} {y : va_E} {l m : Nat} (ha : a + 24 ≤ n) (h0 : k ≠ 0) (hy : zD E (uN u n k l f g) k n = y) : gNew (yW E G a c u n sl) y m = yW E G a c (uN u n k l f g) (n + 1) (sl + m) := by
  subst hy
  refine Prod.ext (funext fun p => ?_) rfl
  simp only [gNew, va_up, yW, xW, zW]
  by_cases e : p = n
  · subst e
    rw [if_pos rfl, if_neg (by omega)]
    have e1 : (uN u p k l f g).1 p = k := upN_at
    rw [e1, if_neg h0]
  · rw [if_neg e]
    by_cases e2 : a ≤ p ∧ p < a + 24
    · rw [if_pos e2, if_pos e2]
    · rw [if_neg e2, if_neg e2]
      have e1 : (uN u n k l f g).1 p = u.1 p := upN_ne e
      rw [e1]
      by_cases e3 : u.1 p = 0
      · rw [if_pos e3, if_pos e3]
      · rw [if_neg e3, if_neg e3, zD_cong (u := u) (u' := uN u n k l f g) (upN_ne e) (upA_ne e) (upT_ne e)]
theorem zIs_new {f : Nat → Int32} {g : Nat → Option Nat} {l m kq : Nat} (h : zIs u a q kq) (hq : q ≠ m) : zIs (uN u m k l f g) a q kq := ⟨(upN_ne hq).trans h.1, h.2⟩
theorem zIs_at {f : Nat → Int32} {g : Nat → Option Nat} {l m : Nat} (ha : a + 24 ≤ m) : zIs (uN u m k l f g) a m k := ⟨upN_at, ha⟩
end ZW
