/-! One row of the class: its four cells as one state -/
abbrev xS : Type := (Nat → Int32) × (Nat → Int32) × (Nat → Option Nat) × (Nat → Int32)
def uR (u : uS) (b : Nat) (x : xS) : uS := (u.1, u.2.1, upA (upA (upA u.2.2.1 b x.1) (b + 1) x.2.1) (b + 3) x.2.2.2, upT u.2.2.2 (b + 2) x.2.2.1)
/-- what the row at b holds -/
def xOf (u : uS) (b : Nat) : xS := (u.2.2.1 b, u.2.2.1 (b + 1), u.2.2.2 (b + 2), u.2.2.1 (b + 3))
/-- a row lies at b -/
def rowW (u : uS) (a b : Nat) : Prop := zIs u a b 1 ∧ zIs u a (b + 1) 2 ∧ zIs u a (b + 2) 3 ∧ zIs u a (b + 3) 4
def xF (x : xS) (j : Nat) (v : Int32) : xS := (upd x.1 j v, x.2)
def xP (x : xS) (j : Nat) (v : Int32) : xS := (x.1, upd x.2.1 j v, x.2.2)
def xT (x : xS) (j : Nat) (v : Option Nat) : xS := (x.1, x.2.1, va_up x.2.2.1 j v, x.2.2.2)
def xN (x : xS) (j : Nat) (v : Int32) : xS := (x.1, x.2.1, x.2.2.1, upd x.2.2.2 j v)
section AR
variable {E : gE} {G : gS} {a n sl : Nat} {c c' : cS} {u u' : uS} {Y : gY} {d : Nat} {G0 : gS} {Q : gO → gS → Prop} {pc : Nat} {lv : List (Nat × Value)} {rest : List Value} {b q k : Nat} {x x' y : xS}
theorem uR0 : (uR u b x).2.2.1 b = x.1 := by
  show upA (upA (upA u.2.2.1 b x.1) (b + 1) x.2.1) (b + 3) x.2.2.2 b = _
  rw [upA_ne (by omega), upA_ne (by omega), upA_at]
theorem uR1 : (uR u b x).2.2.1 (b + 1) = x.2.1 := by
  show upA (upA (upA u.2.2.1 b x.1) (b + 1) x.2.1) (b + 3) x.2.2.2 (b + 1) = _
  rw [upA_ne (by omega), upA_at]
theorem uR2 : (uR u b x).2.2.2 (b + 2) = x.2.2.1 := upT_at
theorem uR3 : (uR u b x).2.2.1 (b + 3) = x.2.2.2 := upA_at
theorem uRo (h : q < b ∨ b + 4 ≤ q) : (uR u b x).2.2.1 q = u.2.2.1 q ∧ (uR u b x).2.2.2 q = u.2.2.2 q := by
  refine ⟨?_, upT_ne (by omega)⟩
  show upA (upA (upA u.2.2.1 b x.1) (b + 1) x.2.1) (b + 3) x.2.2.2 q = _
  rw [upA_ne (by omega), upA_ne (by omega), upA_ne (by omega)]
theorem u_ext (h1 : ∀ q, u'.1 q = u.1 q) (h2 : ∀ q, u'.2.1 q = u.2.1 q) (h3 : ∀ q, u'.2.2.1 q = u.2.2.1 q) (h4 : ∀ q, u'.2.2.2 q = u.2.2.2 q) : u' = u :=
  Prod.ext (funext h1) (Prod.ext (funext h2) (Prod.ext (funext h3) (funext h4)))
theorem uR_self : uR u b (xOf u b) = u := by
  refine u_ext (fun _ => rfl) (fun _ => rfl) (fun q => ?_) (fun q => ?_)
  · by_cases e0 : q = b
    · rw [e0, uR0]; rfl
    · by_cases e1 : q = b + 1
      · rw [e1, uR1]; rfl
      · by_cases e3 : q = b + 3
        · rw [e3, uR3]; rfl
        · show upA (upA (upA u.2.2.1 b _) (b + 1) _) (b + 3) _ q = _
          rw [upA_ne e3, upA_ne e1, upA_ne e0]
  · by_cases e2 : q = b + 2
    · rw [e2, uR2]; rfl
    · exact upT_ne e2
theorem uR_I0 {j : Nat} {v : Int32} : uI (uR u b x) b j v = uR u b (xF x j v) := by
  refine u_ext (fun _ => rfl) (fun _ => rfl) (fun q => ?_) (fun q => rfl)
  by_cases e0 : q = b
  · rw [e0, at_I, uR0, uR0]; rfl
  · rw [up_I e0]
    by_cases e1 : q = b + 1
    · rw [e1, uR1, uR1]; rfl
    · by_cases e3 : q = b + 3
      · rw [e3, uR3, uR3]; rfl
      · show upA (upA (upA u.2.2.1 b _) (b + 1) _) (b + 3) _ q = upA (upA (upA u.2.2.1 b _) (b + 1) _) (b + 3) _ q
        rw [upA_ne e3, upA_ne e1, upA_ne e0, upA_ne e3, upA_ne e1, upA_ne e0]
theorem uR_I1 {j : Nat} {v : Int32} : uI (uR u b x) (b + 1) j v = uR u b (xP x j v) := by
  refine u_ext (fun _ => rfl) (fun _ => rfl) (fun q => ?_) (fun q => rfl)
  by_cases e1 : q = b + 1
  · rw [e1, at_I, uR1, uR1]; rfl
  · rw [up_I e1]
    by_cases e0 : q = b
    · rw [e0, uR0, uR0]; rfl
    · by_cases e3 : q = b + 3
      · rw [e3, uR3, uR3]; rfl
      · show upA (upA (upA u.2.2.1 b _) (b + 1) _) (b + 3) _ q = upA (upA (upA u.2.2.1 b _) (b + 1) _) (b + 3) _ q
        rw [upA_ne e3, upA_ne e1, upA_ne e0, upA_ne e3, upA_ne e1, upA_ne e0]
theorem uR_I3 {j : Nat} {v : Int32} : uI (uR u b x) (b + 3) j v = uR u b (xN x j v) := by
  refine u_ext (fun _ => rfl) (fun _ => rfl) (fun q => ?_) (fun q => rfl)
  by_cases e3 : q = b + 3
  · rw [e3, at_I, uR3, uR3]; rfl
  · rw [up_I e3]
    by_cases e0 : q = b
    · rw [e0, uR0, uR0]; rfl
    · by_cases e1 : q = b + 1
      · rw [e1, uR1, uR1]; rfl
      · show upA (upA (upA u.2.2.1 b _) (b + 1) _) (b + 3) _ q = upA (upA (upA u.2.2.1 b _) (b + 1) _) (b + 3) _ q
        rw [upA_ne e3, upA_ne e1, upA_ne e0, upA_ne e3, upA_ne e1, upA_ne e0]
theorem uR_T {j : Nat} {v : Option Nat} : uT (uR u b x) (b + 2) j v = uR u b (xT x j v) := by
  refine u_ext (fun _ => rfl) (fun _ => rfl) (fun q => rfl) (fun q => ?_)
  by_cases e2 : q = b + 2
  · rw [e2, at_T, uR2, uR2]; rfl
  · rw [up_T e2]
    show upT u.2.2.2 (b + 2) _ q = upT u.2.2.2 (b + 2) _ q
    rw [upT_ne e2, upT_ne e2]
theorem uR_fill {v : Int32} : uIr (uR u b x) (b + 3) (fillF x.2.2.2 8 v) = uR u b (x.1, x.2.1, x.2.2.1, fillF x.2.2.2 8 v) := by
  refine u_ext (fun _ => rfl) (fun _ => rfl) (fun q => ?_) (fun q => rfl)
  show upA (upA (upA (upA u.2.2.1 b _) (b + 1) _) (b + 3) _) (b + 3) _ q = upA (upA (upA u.2.2.1 b _) (b + 1) _) (b + 3) _ q
  by_cases e3 : q = b + 3
  · rw [e3, upA_at, upA_at]
  · rw [upA_ne e3, upA_ne e3, upA_ne e3]
theorem r_getF {index j : Nat} (hf : gFld Y.1.cls index T_Row j) (h : rowW u a b) (hj : j = 3 ∨ j = 4) (hdg : decode Y.2.1 pc = .ok (.getfield index, 3)) (kk : GT E Y d G0 (pc + 3) lv (.int (x.1 j) :: rest) (yW E G a c (uR u b x) n sl) Q) : GT E Y d G0 pc lv (.ref b :: rest) (yW E G a c (uR u b x) n sl) Q := by
  have e : zIs (uR u b x) a b 1 := h.1
  rcases hj with rfl | rfl
  · exact z_get (k := 1) kc_Row hf (by decide) e (by decide) rfl (v := .int ((uR u b x).2.2.1 b 3)) rfl hdg (by rw [uR0]; exact kk)
  · exact z_get (k := 1) kc_Row hf (by decide) e (by decide) rfl (v := .int ((uR u b x).2.2.1 b 4)) rfl hdg (by rw [uR0]; exact kk)
theorem r_putF {index j : Nat} {v : Int32} (hf : gFld Y.1.cls index T_Row j) (h : rowW u a b) (hj : j = 3 ∨ j = 4) (hdg : decode Y.2.1 pc = .ok (.putfield index, 3)) (kk : GT E Y d G0 (pc + 3) lv rest (yW E G a c (uR u b (xF x j v)) n sl) Q) : GT E Y d G0 pc lv (.int v :: .ref b :: rest) (yW E G a c (uR u b x) n sl) Q := by
  have e : zIs (uR u b x) a b 1 := h.1
  rw [← uR_I0] at kk
  rcases hj with rfl | rfl
  · exact z_put (k := 1) kc_Row hf (by decide) e (by decide) (fun _ => rfl) rfl rfl rfl (Nat.le_of_ble_eq_true rfl) rfl hdg kk
  · exact z_put (k := 1) kc_Row hf (by decide) e (by decide) (fun _ => rfl) rfl rfl rfl (Nat.le_of_ble_eq_true rfl) rfl hdg kk
theorem r_getA {index j : Nat} (hf : gFld Y.1.cls index T_Row j) (h : rowW u a b) (hj : j < 3) (hdg : decode Y.2.1 pc = .ok (.getfield index, 3)) (kk : GT E Y d G0 (pc + 3) lv (.ref (b + (j + 1)) :: rest) (yW E G a c (uR u b x) n sl) Q) : GT E Y d G0 pc lv (.ref b :: rest) (yW E G a c (uR u b x) n sl) Q := by
  have e : zIs (uR u b x) a b 1 := h.1
  rcases (show j = 0 ∨ j = 1 ∨ j = 2 by omega) with rfl | rfl | rfl
  · exact z_get (k := 1) kc_Row hf (by decide) e (by decide) rfl rfl hdg kk
  · exact z_get (k := 1) kc_Row hf (by decide) e (by decide) rfl rfl hdg kk
  · exact z_get (k := 1) kc_Row hf (by decide) e (by decide) rfl rfl hdg kk
theorem r_ald1 {i : Int32} {j : Nat} (h : rowW u a b) (hi : i.toInt = (j : Int)) (hj : j < 24) (hdg : decode Y.2.1 pc = .ok (.iaload, 1)) (kk : GT E Y d G0 (pc + 1) lv (.int (x.2.1 j) :: rest) (yW E G a c (uR u b x) n sl) Q) : GT E Y d G0 pc lv (.int i :: .ref (b + 1) :: rest) (yW E G a c (uR u b x) n sl) Q :=
  z_ald (k := 2) (u := uR u b x) h.2.1 (by decide) rfl hi hj hdg (by rw [uR1]; exact kk)
theorem r_ald3 {i : Int32} {j : Nat} (h : rowW u a b) (hi : i.toInt = (j : Int)) (hj : j < 8) (hdg : decode Y.2.1 pc = .ok (.iaload, 1)) (kk : GT E Y d G0 (pc + 1) lv (.int (x.2.2.2 j) :: rest) (yW E G a c (uR u b x) n sl) Q) : GT E Y d G0 pc lv (.int i :: .ref (b + 3) :: rest) (yW E G a c (uR u b x) n sl) Q :=
  z_ald (k := 4) (u := uR u b x) h.2.2.2 (by decide) rfl hi hj hdg (by rw [uR3]; exact kk)
theorem r_ast1 {i v : Int32} {j : Nat} (h : rowW u a b) (hi : i.toInt = (j : Int)) (hj : j < 24) (hdg : decode Y.2.1 pc = .ok (.iastore, 1)) (kk : GT E Y d G0 (pc + 1) lv rest (yW E G a c (uR u b (xP x j v)) n sl) Q) : GT E Y d G0 pc lv (.int v :: .int i :: .ref (b + 1) :: rest) (yW E G a c (uR u b x) n sl) Q := by
  rw [← uR_I1] at kk
  exact z_ast (k := 2) (u := uR u b x) h.2.1 (by decide) (fun _ => rfl) hi hj hdg kk
theorem r_ast3 {i v : Int32} {j : Nat} (h : rowW u a b) (hi : i.toInt = (j : Int)) (hj : j < 8) (hdg : decode Y.2.1 pc = .ok (.iastore, 1)) (kk : GT E Y d G0 (pc + 1) lv rest (yW E G a c (uR u b (xN x j v)) n sl) Q) : GT E Y d G0 pc lv (.int v :: .int i :: .ref (b + 3) :: rest) (yW E G a c (uR u b x) n sl) Q := by
  rw [← uR_I3] at kk
  exact z_ast (k := 4) (u := uR u b x) h.2.2.2 (by decide) (fun _ => rfl) hi hj hdg kk
theorem r_tald {i : Int32} {j t : Nat} (h : rowW u a b) (hi : i.toInt = (j : Int)) (hj : j < 24) (ht : x.2.2.1 j = some t) (hdg : decode Y.2.1 pc = .ok (.aaload, 1)) (kk : GT E Y d G0 (pc + 1) lv (.ref t :: rest) (yW E G a c (uR u b x) n sl) Q) : GT E Y d G0 pc lv (.int i :: .ref (b + 2) :: rest) (yW E G a c (uR u b x) n sl) Q :=
  z_tald (k := 3) (u := uR u b x) h.2.2.1 (by decide) rfl hi hj (by rw [uR2]; exact ht) hdg kk
theorem r_tast {i : Int32} {j t : Nat} (h : rowW u a b) (hi : i.toInt = (j : Int)) (hj : j < 24) (ht : zIs u a t 7) (hdg : decode Y.2.1 pc = .ok (.aastore, 1)) (kk : GT E Y d G0 (pc + 1) lv rest (yW E G a c (uR u b (xT x j (some t))) n sl) Q) : GT E Y d G0 pc lv (.ref t :: .int i :: .ref (b + 2) :: rest) (yW E G a c (uR u b x) n sl) Q := by
  rw [← uR_T] at kk
  exact z_tast (u := uR u b x) h.2.2.1 hi hj ht hdg kk
theorem z_fill {f : Nat → Int32} {N : Nat} (h : zIs u a q k) (h0 : k ≠ 0) (hz : ∀ w : uS, zD E w k q = gAI E N (w.2.2.1 q)) (hN : N < 2 ^ 31) (v : Int32) : GM E Y_Arrays_fill d [.ref q, .int v] (yW E G a c u n sl) (rIs none (yW E G a c (uIr u q (fillF (u.2.2.1 q) N v)) n sl)) := by
  have K := m_Arrays_fill (E := E) (d := d) ((z_at (E := E) (G := G) (c := c) (n := n) (sl := sl) h h0).trans (congrArg some (hz u))) hN v
  refine K.mono (fun o G' hq => ?_)
  obtain ⟨h1, rfl⟩ := hq
  refine ⟨h1, ?_⟩
  have e : gAI E N (fillF (u.2.2.1 q) N v) = zD E (uIr u q (fillF (u.2.2.1 q) N v)) k q := by
    rw [hz]
    show _ = gAI E N (upA u.2.2.1 q _ q)
    rw [upA_at]
  rw [e]
  exact z_up (u' := uIr u q (fillF (u.2.2.1 q) N v)) h h0 rfl (fun p hp => ⟨rfl, upA_ne hp, rfl⟩)
/-- the row holds: its case, its wishes (place, term), the places of the names -/
def hX (x : xS) (o : Nat) (ws : List (Nat × Nat)) (bd : Nat → Option Nat) : Prop := x.1 3 = nI o ∧ x.1 4 = nI ws.length ∧ (∀ k q, ws[k]? = some q → x.2.1 k = nI q.1 ∧ x.2.2.1 k = some q.2) ∧ ∀ k, k < 8 → x.2.2.2 k = bI (bd k)
/-- the other row, y -/
theorem r2_getF {index j b2 : Nat} (hf : gFld Y.1.cls index T_Row j) (h : rowW u a b2) (hd : b2 + 4 ≤ b ∨ b + 4 ≤ b2) (hj : j = 3 ∨ j = 4) (hdg : decode Y.2.1 pc = .ok (.getfield index, 3)) (kk : GT E Y d G0 (pc + 3) lv (.int ((xOf u b2).1 j) :: rest) (yW E G a c (uR u b x) n sl) Q) : GT E Y d G0 pc lv (.ref b2 :: rest) (yW E G a c (uR u b x) n sl) Q := by
  have e : zIs (uR u b x) a b2 1 := h.1
  have eo := (uRo (u := u) (b := b) (x := x) (q := b2) (by omega)).1
  rcases hj with rfl | rfl
  · exact z_get (k := 1) kc_Row hf (by decide) e (by decide) rfl (v := .int ((uR u b x).2.2.1 b2 3)) rfl hdg (by rw [eo]; exact kk)
  · exact z_get (k := 1) kc_Row hf (by decide) e (by decide) rfl (v := .int ((uR u b x).2.2.1 b2 4)) rfl hdg (by rw [eo]; exact kk)
theorem r2_getA {index j b2 : Nat} (hf : gFld Y.1.cls index T_Row j) (h : rowW u a b2) (hj : j < 3) (hdg : decode Y.2.1 pc = .ok (.getfield index, 3)) (kk : GT E Y d G0 (pc + 3) lv (.ref (b2 + (j + 1)) :: rest) (yW E G a c (uR u b x) n sl) Q) : GT E Y d G0 pc lv (.ref b2 :: rest) (yW E G a c (uR u b x) n sl) Q := by
  have e : zIs (uR u b x) a b2 1 := h.1
  rcases (show j = 0 ∨ j = 1 ∨ j = 2 by omega) with rfl | rfl | rfl
  · exact z_get (k := 1) kc_Row hf (by decide) e (by decide) rfl rfl hdg kk
  · exact z_get (k := 1) kc_Row hf (by decide) e (by decide) rfl rfl hdg kk
  · exact z_get (k := 1) kc_Row hf (by decide) e (by decide) rfl rfl hdg kk
theorem r2_ald1 {i : Int32} {j b2 : Nat} (h : rowW u a b2) (hd : b2 + 4 ≤ b ∨ b + 4 ≤ b2) (hi : i.toInt = (j : Int)) (hj : j < 24) (hdg : decode Y.2.1 pc = .ok (.iaload, 1)) (kk : GT E Y d G0 (pc + 1) lv (.int ((xOf u b2).2.1 j) :: rest) (yW E G a c (uR u b x) n sl) Q) : GT E Y d G0 pc lv (.int i :: .ref (b2 + 1) :: rest) (yW E G a c (uR u b x) n sl) Q :=
  z_ald (k := 2) (u := uR u b x) h.2.1 (by decide) rfl hi hj hdg (by rw [(uRo (u := u) (b := b) (x := x) (q := b2 + 1) (by omega)).1]; exact kk)
theorem r2_ald3 {i : Int32} {j b2 : Nat} (h : rowW u a b2) (hd : b2 + 4 ≤ b ∨ b + 4 ≤ b2) (hi : i.toInt = (j : Int)) (hj : j < 8) (hdg : decode Y.2.1 pc = .ok (.iaload, 1)) (kk : GT E Y d G0 (pc + 1) lv (.int ((xOf u b2).2.2.2 j) :: rest) (yW E G a c (uR u b x) n sl) Q) : GT E Y d G0 pc lv (.int i :: .ref (b2 + 3) :: rest) (yW E G a c (uR u b x) n sl) Q :=
  z_ald (k := 4) (u := uR u b x) h.2.2.2 (by decide) rfl hi hj hdg (by rw [(uRo (u := u) (b := b) (x := x) (q := b2 + 3) (by omega)).1]; exact kk)
theorem r2_tald {i : Int32} {j b2 t : Nat} (h : rowW u a b2) (hd : b2 + 4 ≤ b ∨ b + 4 ≤ b2) (hi : i.toInt = (j : Int)) (hj : j < 24) (ht : (xOf u b2).2.2.1 j = some t) (hdg : decode Y.2.1 pc = .ok (.aaload, 1)) (kk : GT E Y d G0 (pc + 1) lv (.ref t :: rest) (yW E G a c (uR u b x) n sl) Q) : GT E Y d G0 pc lv (.int i :: .ref (b2 + 2) :: rest) (yW E G a c (uR u b x) n sl) Q :=
  z_tald (k := 3) (u := uR u b x) h.2.2.1 (by decide) rfl hi hj (by rw [(uRo (u := u) (b := b) (x := x) (q := b2 + 2) (by omega)).2]; exact ht) hdg kk
end AR
