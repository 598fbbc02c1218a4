/-! p1: one call at most -/
theorem law_all {E : gE} {b L : Nat} {xs : Nat → Int32} (hB : gBase gCl E) (hs : gScr E b L xs) (hL : L ≤ 4) : GM E Y_law 100 [.ref b] (g00 E) lwQ := by
  refine law_start (E := E) (d := 93) hs (by omega) (fun a k G => k ≠ 0 ∨ (lIs E a G (c0 E) s0 (fun _ => 0) ∧ gFit E G 1 6)) ?_ ?_ ?_
  · intro G h z1 z2
    refine Or.inr ⟨h, ?_, ?_⟩
    · have rc : 600000 ≤ room_1.cells := by decide
      show G.2.1 + 1 ≤ _ + room_1.cells
      omega
    · have rs : 7290000 ≤ room_1.slots := by decide
      show G.2.2 + 6 ≤ room_1.slots
      omega
  · intro a k G _
    exact Or.inl (by omega)
  · intro a k G hk hI
    have k0 : k = 0 := by omega
    subst k0
    rcases hI with h | ⟨h, hF⟩
    · exact absurd rfl h
    · have e : (fun G => (0 + 1 ≠ 0 ∨ (lIs E a G (c0 E) s0 (fun _ => 0) ∧ gFit E G 1 6))) = fun _ => True := funext fun G => eq_true (Or.inl (by decide))
      rw [e]
      exact p_step (d := 88) h hF
