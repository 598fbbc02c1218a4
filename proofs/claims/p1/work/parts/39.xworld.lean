/-! The class as one world: the 24 cells that its constructor makes -/
/-- numbers; arrays of numbers; arrays of terms; the arrays of the lists -/
abbrev cS : Type := (Nat → Int32) × (Nat → Nat → Int32) × (Nat → Nat → Option Nat) × (Nat → Nat)
def xC (E : gE) (a : Nat) (c : cS) : Nat → va_E := fun k => match k with
  | 0 => .inr (12, [.ref (a + 1), .ref (a + 8), .ref (a + 10), .ref (a + 5), .ref (a + 12), .ref (a + 20), .int (c.1 0), .int (c.1 1), .int (c.1 2)])
  | 1 => .inr (11, [.ref (a + 2), .ref (a + 3), .ref (a + 4)])
  | 2 => gAI E 16 (c.2.1 0)
  | 3 => gAI E 128 (c.2.1 1)
  | 4 => gAI E 512 (c.2.1 2)
  | 5 => .inr (1, [.ref (a + 6), .ref (a + 7), .int (c.1 3)])
  | 6 => gAT E 20 (c.2.2.1 0)
  | 7 => gAZ E 20 (c.2.1 3)
  | 8 => .inr (3, [.ref (a + 9), .int (c.1 4)])
  | 9 => gAT E 40 (c.2.2.1 1)
  | 10 => .inr (3, [.ref (a + 11), .int (c.1 5)])
  | 11 => gAT E 40 (c.2.2.1 2)
  | 12 => .inr (10, [.ref (a + 1), .ref (a + 5), .ref (a + 13), .ref (a + 15), .ref (a + 17), .ref (a + 18), .ref (a + 19), .int (c.1 6), .int (c.1 7), .int (c.1 8), .int (c.1 9), .int (c.1 10), .int (c.1 11), .int (c.1 12)])
  | 13 => .inr (8, [.ref (a + 14), .int (c.1 13)])
  | 14 => .inr (0, [.int (c.1 14), .ref (c.2.2.2 0), .int (c.1 15)])
  | 15 => .inr (5, [.ref (a + 16), .int (c.1 16)])
  | 16 => .inr (0, [.int (c.1 17), .ref (c.2.2.2 1), .int (c.1 18)])
  | 17 => .inr (0, [.int (c.1 19), .ref (c.2.2.2 2), .int (c.1 20)])
  | 18 => gAI E 800 (c.2.1 4)
  | 19 => gAI E 6402 (c.2.1 5)
  | 20 => .inr (2, [.ref (a + 21), .ref (a + 22), .ref (a + 23), .int (c.1 21)])
  | 21 => gAI E 60 (c.2.1 6)
  | 22 => gAT E 8 (c.2.2.1 3)
  | 23 => .inr (0, [.int (c.1 22), .ref (c.2.2.2 3), .int (c.1 23)])
  | _ => .inr (11, [.ref (a + 2), .ref (a + 3), .ref (a + 4)])
def xW (E : gE) (G : gS) (a : Nat) (c : cS) : gS := (fun q => if a ≤ q ∧ q < a + 24 then some (xC E a c (q - a)) else G.1 q, G.2.1, G.2.2)
section XW
variable {E : gE} {G : gS} {a : Nat} {c c' : cS}
theorem xw_k {k : Nat} (h : k < 24) : (xW E G a c).1 (a + k) = some (xC E a c k) := by
  simp only [xW]
  rw [if_pos ⟨by omega, by omega⟩, Nat.add_sub_cancel_left]
theorem xw_o {q : Nat} (h : q < a ∨ a + 24 ≤ q) : (xW E G a c).1 q = G.1 q := by
  simp only [xW]
  rw [if_neg (by omega)]
theorem xw_up {k : Nat} (h : k < 24) (hc : ∀ j, j < 24 → j ≠ k → xC E a c' j = xC E a c j) : gUp (xW E G a c) (a + k) (xC E a c' k) = xW E G a c' := by
  refine Prod.ext (funext fun q => ?_) rfl
  simp only [gUp, va_up, xW]
  by_cases e : q = a + k
  · subst e
    rw [if_pos rfl, if_pos ⟨by omega, by omega⟩, Nat.add_sub_cancel_left]
  · rw [if_neg e]
    by_cases e2 : a ≤ q ∧ q < a + 24
    · rw [if_pos e2, if_pos e2, hc (q - a) (by omega) (by omega)]
    · rw [if_neg e2, if_neg e2]
theorem xw_self (h : ∀ k, k < 24 → G.1 (a + k) = some (xC E a c k)) : xW E G a c = G := by
  refine Prod.ext (funext fun q => ?_) rfl
  simp only [xW]
  by_cases e2 : a ≤ q ∧ q < a + 24
  · have e : a + (q - a) = q := by omega
    have K := h (q - a) (by omega)
    rw [e] at K
    rw [if_pos e2, K]
  · rw [if_neg e2]
theorem xw_xw : xW E (xW E G a c) a c' = xW E G a c' := by
  refine Prod.ext (funext fun q => ?_) rfl
  simp only [xW]
  by_cases e2 : a ≤ q ∧ q < a + 24
  · simp only [if_pos e2]
  · simp only [if_neg e2]
/-- a new one -/
def c0 (E : gE) : cS := (fun _ => 0, fun j => if j = 0 then fillF (fun _ => 0) 16 (-1) else fun _ => 0, fun _ _ => none, fun _ => gDef E)
set_option maxHeartbeats 400000 in
set_option maxRecDepth 100000 in
theorem m_X_init {sl : Nat} {d : Nat} (ha : G.1 a = some (.inr (12, [.null, .null, .null, .null, .null, .null, .int (0), .int (0), .int (0)]))) (hn : G.2.1 = a + 1) (hs : G.2.2 = sl) (hc : a + 24 ≤ E.1.heap.size + room_1.cells) (hr : sl + 8090 ≤ room_1.slots) : GM E Y_Mill_init (d + 6) [.ref a] G (rPost none (fun G' => G'.2.1 = a + 24 ∧ G'.2.2 = sl + 8090 ∧ gKeep (a + 1) a G G' ∧ xW E G' a (c0 E) = G')) := by
  refine (m_Mill_init (E := E) (d := d) (n := a + 1) ha hn hs (by omega) (by omega) hr).mono (fun o G' h => ?_)
  obtain ⟨ho, z, zs, kp, h0, h1, h2, h3, h4, h5, h6, h7, h8, h9, h10, h11, h12, h13, h14, h15, h16, h17, h18, h19, h20, h21, h22, h23⟩ := h
  refine ⟨ho, by omega, zs, kp, xw_self (fun k hk => ?_)⟩
  match k, hk with
  | 0, _ => exact h0
  | 1, _ => exact h1
  | 2, _ => exact h2
  | 3, _ => exact h3
  | 4, _ => exact h4
  | 5, _ => exact h5
  | 6, _ => exact h6
  | 7, _ => exact h7
  | 8, _ => exact h8
  | 9, _ => exact h9
  | 10, _ => exact h10
  | 11, _ => exact h11
  | 12, _ => exact h12
  | 13, _ => exact h13
  | 14, _ => exact h14
  | 15, _ => exact h15
  | 16, _ => exact h16
  | 17, _ => exact h17
  | 18, _ => exact h18
  | 19, _ => exact h19
  | 20, _ => exact h20
  | 21, _ => exact h21
  | 22, _ => exact h22
  | 23, _ => exact h23
  | k + 24, hk => omega
end XW
