/-! The reference's otherRows, by lists -/
section BH
variable {s : mS} {P : Nat → Nat → Int32} {X : Nat} {pl : Nat → List Nat}
/-- the rows of other cases -/
def aOt (c : Nat) : List pRow → List pRow
  | [] => []
  | A :: r => if A.1 = c then aOt c r else A :: aOt c r
theorem aOt_app {c : Nat} : ∀ (l r : List pRow), aOt c (l ++ r) = aOt c l ++ aOt c r
  | [], r => rfl
  | A :: l, r => by
    simp only [List.cons_append, aOt]
    split
    · exact aOt_app l r
    · rw [aOt_app l r]
      rfl
theorem aOt_mem {c : Nat} {A : pRow} : ∀ {l : List pRow}, A ∈ aOt c l → A ∈ l ∧ A.1 ≠ c
  | [], h => by cases h
  | B :: l, h => by
    simp only [aOt] at h
    split at h
    · exact ⟨List.mem_cons_of_mem _ (aOt_mem h).1, (aOt_mem h).2⟩
    · rcases List.mem_cons.mp h with rfl | h
      · exact ⟨List.mem_cons_self, by assumption⟩
      · exact ⟨List.mem_cons_of_mem _ (aOt_mem h).1, (aOt_mem h).2⟩
theorem aOt_len {c : Nat} : ∀ (l : List pRow), (aOt c l).length ≤ l.length
  | [] => Nat.le_refl _
  | A :: l => by
    have := aOt_len (c := c) l
    simp only [aOt]
    split <;> simp only [List.length_cons] <;> omega
theorem other_list {first r0 c : Nat} {L : List pRow} (hr : hPs s pl X first L) (hl : ∀ A ∈ L, A.2.1.length ≤ 26 ∧ A.1 < 2 ^ 31) (h46 : s.1 46 = nI r0) (hf : first + L.length ≤ r0) (hb : r0 + L.length ≤ 41600) (hc : c < 2 ^ 31) : ∀ k, k ≤ L.length →
    sF s (rOther s first (nI c) k) r0 0 ∧ (rOther s first (nI c) k).1 46 = nI (r0 + (aOt c (L.take k)).length) ∧ (rOther s first (nI c) k).1 47 = s.1 47 ∧ hPs (rOther s first (nI c) k) pl X r0 (aOt c (L.take k)) := by
  intro k
  induction k with
  | zero =>
    intro _
    exact ⟨sF_rf, by simpa [aOt, rOther] using h46, rfl, fun i A h => by simp [aOt] at h⟩
  | succ k ih =>
    intro hk
    obtain ⟨f1, f2, f3, f4⟩ := ih (by omega)
    obtain ⟨A, hA⟩ : ∃ A, L[k]? = some A := ⟨L[k], List.getElem?_eq_getElem (by omega)⟩
    have hAm := List.mem_of_getElem? hA
    obtain ⟨lA, cA⟩ := hl A hAm
    have hrow := hP_fr (hr k A hA) lA (f1.2.2.1 (first + k) (by omega)) (fun _ _ => rfl) (Nat.le_refl _)
    obtain ⟨ws, bd, hh, ew, eb, wX, bX1⟩ := hrow
    have lw : ws.length = A.2.1.length := by rw [ew, List.length_map]
    have e27 : tn ((rOther s first (nI c) k).2 27 (first + k)) = ws.length := by rw [hh.2.1]; exact tnI (by omega)
    have et : aOt c (L.take (k + 1)) = aOt c (L.take k) ++ aOt c [A] := by
      rw [List.take_succ, hA, aOt_app]
      rfl
    have l0 := aOt_len (c := c) (L.take k)
    have l1 : (L.take k).length ≤ k := by rw [List.length_take]; omega
    simp only [rOther]
    by_cases e : A.1 = c
    · have e26 : (rOther s first (nI c) k).2 26 (first + k) = nI c := by rw [hh.1, e]
      rw [if_pos e26, et]
      have : aOt c [A] = [] := by simp only [aOt]; rw [if_pos e]
      rw [this, List.append_nil]
      exact ⟨f1, f2, f3, f4⟩
    · have e26 : ¬ (rOther s first (nI c) k).2 26 (first + k) = nI c := fun q => e (by
        rw [hh.1] at q
        have := congrArg tn q
        rw [tnI cA, tnI hc] at this
        exact this)
      rw [if_neg e26, et]
      have : aOt c [A] = [A] := by simp only [aOt]; rw [if_neg e]
      rw [this]
      have eT : tn ((rOther s first (nI c) k).1 46) = r0 + (aOt c (L.take k)).length := by rw [f2]; exact tnI (by omega)
      rw [eT]
      have cp := hR_copy (T := r0 + (aOt c (L.take k)).length) hh (by omega) (by omega)
      have frc : sF (rOther s first (nI c) k) (wF (rCopy (rOther s first (nI c) k) (first + k) (r0 + (aOt c (L.take k)).length)) 46 ((rOther s first (nI c) k).1 46 + 1)) (r0 + (aOt c (L.take k)).length) 0 := by
        refine ⟨fun j hj => ?_, fun j h1 _ => ?_, fun R hR => ?_, fun R h1 h2 => by omega⟩
        · show (rCopy (rOther s first (nI c) k) (first + k) (r0 + (aOt c (L.take k)).length)).2 j = _
          unfold rCopy rC2 rC1 rC0 wA wR upA
          dsimp only
          simp only [show ¬ j = 30 by omega, show ¬ j = 29 by omega, show ¬ j = 28 by omega, show ¬ j = 27 by omega, show ¬ j = 26 by omega, if_false]
        · show upd (rOther s first (nI c) k).1 46 _ j = _
          exact up_ne h1
        · exact sR_copy (F := first + k) (s := rOther s first (nI c) k) (by omega) (by omega)
      refine ⟨sF_tr f1 frc (by omega) (Nat.le_refl _), ?_, f3, hPs_app (hPs_fr f4 (fun B hB => (hl B (List.mem_of_mem_take (aOt_mem hB).1)).1) frc.2.2.1 (Nat.le_refl _) (fun _ _ => rfl) (Nat.le_refl _)) ?_⟩
      · show upd (rOther s first (nI c) k).1 46 ((rOther s first (nI c) k).1 46 + 1) 46 = _
        rw [up_at, f2, nI_1, List.length_append]
        rfl
      · intro i B hB
        have hi : i = 0 := by
          have := (List.getElem?_eq_some_iff.mp hB).1
          simp at this
          omega
        subst hi
        cases hB
        exact ⟨ws, bd, cp, ew, eb, wX, bX1⟩
end BH
