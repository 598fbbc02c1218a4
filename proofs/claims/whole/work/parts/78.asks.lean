/-! The reference's asks: what it does to the state -/
section BP
variable {s : mS} {P : Nat → Nat → Int32} {N X t0 : Nat} {pl pos : Nat → List Nat} {st : aSt}
theorem answ_ok (wf : wfA P N pos) {first p : Nat} {π : List Nat} {L : List pRow} (tr : tRows s P N t0 pos pl X first L) (hp : p < X) (hπ : pl p = π) (bL : L.length < 1000) (h0 : s.2 0 = P 0) (h16 : tyP P t0 π < 16) (hty : P 0 (tyP P t0 π) = 1 ∨ ∃ T, 2 ≤ T ∧ T ≤ 9 ∧ P 0 (tyP P t0 π) = nI T) : (rAnsw s first L.length p (nI p)).1 = nI (qN P t0 L π) := by
  have h21 : s.2 21 p = nI (tyP P t0 π) := by
    have := (tr.1.2.2.2.1 p hp).1
    rw [hπ] at this
    exact this
  have e0 : s.2 0 (tn (s.2 21 p)) = P 0 (tyP P t0 π) := by rw [h21, tnI (by omega), h0]
  unfold rAnsw qN
  rw [e0]
  by_cases hm : P 0 (tyP P t0 π) ≤ 1
  · rw [if_pos hm, if_pos hm, cnt_all wf tr hp hπ bL]
    exact nI_1 _
  · rw [if_neg hm, if_neg hm]
    rcases hty with e | ⟨T, h1, h2, h3⟩
    · exact absurd (by rw [e]; exact Int32.le_refl _) hm
    · show P 0 (tyP P t0 π) - 1 = nI (tn (P 0 (tyP P t0 π)) - 1)
      rw [h3, tnI (by omega)]
      exact i_nI (sub_hi (nI_hi (by omega)) i1 (by omega))
/-- what asks does -/
def fQ (s s' : mS) (D p q way K l an : Nat) (up via tm : Int32) : Prop :=
  (∀ j, j < 14 ∨ (19 < j ∧ j < 33) ∨ j = 36 ∨ j = 37 ∨ j = 38 → s'.2 j = s.2 j) ∧ (∀ i, i ≠ D → s'.2 33 i = s.2 33 i ∧ s'.2 34 i = s.2 34 i ∧ s'.2 35 i = s.2 35 i) ∧ s'.2 33 D = nI q ∧ s'.2 34 D = -1 ∧ s'.2 35 D = nI p ∧ (∀ i, i ≠ q → ∀ j, 14 ≤ j → j ≤ 19 → s'.2 j i = s.2 j i) ∧ s'.2 14 q = nI K ∧ s'.2 15 q = nI an ∧ s'.2 16 q = nI way ∧ s'.2 17 q = nI l ∧ s'.2 18 q = up ∧ s'.2 19 q = via ∧ (∀ k, k ≠ 20 → k ≠ 26 → k ≠ 47 → s'.1 k = s.1 k) ∧ s'.1 20 = nI (q + 1) ∧ s'.1 26 = s.1 26 + nI K ∧ s'.1 47 = tm
theorem asks_ok (wf : wfA P N pos) {D first p q way : Nat} {up via : Int32} {π : List Nat} {L : List pRow} (tr : tRows s P N t0 pos pl X first L) (hp : p < X) (hπ : pl p = π) (bL : L.length < 1000) (h0 : s.2 0 = P 0) (h16 : tyP P t0 π < 16) (hty : P 0 (tyP P t0 π) = 1 ∨ ∃ T, 2 ≤ T ∧ T ≤ 9 ∧ P 0 (tyP P t0 π) = nI T) (h20 : s.1 20 = nI q) (bq : q < 1000) (h32 : s.2 32 D = nI L.length) (h28 : s.2 28 (26 * first) = nI p) (hpar : rPar s D = (up, via)) :
    fQ s (rAsks s D first L.length p (nI way)) D p q way L.length π.length (qN P t0 L π) up via (rTM s D) := by
  have eq : tn (s.1 20) = q := by rw [h20]; exact tnI (by omega)
  have e20 : s.2 20 p = nI π.length := by
    have := (tr.1.2.2.2.1 p hp).2.1
    rw [hπ] at this
    exact this
  have tr2 : tRows (wA (wF (wF (wA (wA (wA s 33 D (s.1 20)) 35 D (s.2 28 (26 * first))) 34 D (-1)) 26 (s.1 26 + s.2 32 D)) 47 (rTM s D)) 14 (tn (s.1 20)) (s.2 32 D)) P N t0 pos pl X first L := by
    obtain ⟨t1, t2, t3, t4⟩ := tr
    exact ⟨t1, hPs_fr (r := first + L.length) t2 (fun A hA => by have := rOk_len wf (t3 A hA); omega) (fun R _ => sR_rf) (Nat.le_refl _) (fun _ _ => rfl) (Nat.le_refl _), t3, t4⟩
  have ean := answ_ok wf tr2 hp hπ bL h0 h16 hty
  rw [← h28] at ean
  refine ⟨fun j hj => ?_, fun i hi => ⟨?_, ?_, ?_⟩, ?_, ?_, ?_, fun i hi j h1 h2 => ?_, ?_, ?_, ?_, ?_, ?_, ?_, fun k h1 h2 h3 => ?_, ?_, ?_, ?_⟩
  · unfold rAsks wA wF wR upA
    dsimp only
    simp only [show ¬ j = 14 by omega, show ¬ j = 15 by omega, show ¬ j = 16 by omega, show ¬ j = 17 by omega, show ¬ j = 18 by omega, show ¬ j = 19 by omega, show ¬ j = 33 by omega, show ¬ j = 34 by omega, show ¬ j = 35 by omega, show ¬ j = 39 by omega, if_false]
  · show upd (s.2 33) D _ i = _
    exact up_ne hi
  · show upd (s.2 34) D _ i = _
    exact up_ne hi
  · show upd (s.2 35) D _ i = _
    exact up_ne hi
  · show upd (s.2 33) D (s.1 20) D = _
    rw [up_at]
    exact h20
  · show upd (s.2 34) D (-1) D = _
    exact up_at
  · show upd (s.2 35) D (s.2 28 (26 * first)) D = _
    rw [up_at]
    exact h28
  · rcases (show j = 14 ∨ j = 15 ∨ j = 16 ∨ j = 17 ∨ j = 18 ∨ j = 19 by omega) with rfl | rfl | rfl | rfl | rfl | rfl
    · show upd (s.2 14) (tn (s.1 20)) _ i = _
      rw [eq]; exact up_ne hi
    · show upd (s.2 15) (tn (s.1 20)) _ i = _
      rw [eq]; exact up_ne hi
    · show upd (s.2 16) (tn (s.1 20)) _ i = _
      rw [eq]; exact up_ne hi
    · show upd (s.2 17) (tn (s.1 20)) _ i = _
      rw [eq]; exact up_ne hi
    · show upd (s.2 18) (tn (s.1 20)) _ i = _
      rw [eq]; exact up_ne hi
    · show upd (s.2 19) (tn (s.1 20)) _ i = _
      rw [eq]; exact up_ne hi
  · show upd (s.2 14) (tn (s.1 20)) (s.2 32 D) q = _
    rw [eq, up_at]; exact h32
  · show upd (s.2 15) (tn (s.1 20)) (rAnsw _ first L.length p (s.2 28 (26 * first))).1 q = _
    rw [ean, eq, up_at]
  · show upd (s.2 16) (tn (s.1 20)) (nI way) q = _
    rw [eq, up_at]
  · show upd (s.2 17) (tn (s.1 20)) (s.2 20 p) q = _
    rw [eq, up_at]; exact e20
  · show upd (s.2 18) (tn (s.1 20)) (rPar s D).1 q = _
    rw [eq, up_at, hpar]
  · show upd (s.2 19) (tn (s.1 20)) (rPar s D).2 q = _
    rw [eq, up_at, hpar]
  · show upd (upd (upd s.1 26 (s.1 26 + s.2 32 D)) 47 (rTM s D)) 20 (s.1 20 + 1) k = _
    rw [up_ne h1, up_ne h3, up_ne h2]
  · show upd (upd (upd s.1 26 (s.1 26 + s.2 32 D)) 47 (rTM s D)) 20 (s.1 20 + 1) 20 = _
    rw [up_at, h20]; exact nI_1 q
  · show upd (upd (upd s.1 26 (s.1 26 + s.2 32 D)) 47 (rTM s D)) 20 (s.1 20 + 1) 26 = _
    rw [up_ne (by decide), up_ne (by decide), up_at, h32]
  · show upd (upd (upd s.1 26 (s.1 26 + s.2 32 D)) 47 (rTM s D)) 20 (s.1 20 + 1) 47 = _
    rw [up_ne (by decide), up_at]
theorem rS_ask {s' : mS} {D p q way : Nat} {up via tm : Int32} {π : List Nat} {L : List pRow} (h : rS P t0 s st) (h' : fQ s s' D p q way L.length π.length (qN P t0 L π) up via tm) (hq : q = st.1.length) (ba : st.2.2.2.2.2.1 + L.length < 2 ^ 31) : rS P t0 s' (stQ L π way up via st) := by
  obtain ⟨a1, a2, a3, a4, a5, a6, a7, a8, a9⟩ := h
  obtain ⟨b1, b2, b3, b4, b5, b6, b7, b8, b9, b10, b11, b12, b13, b14, b15, b16⟩ := h'
  refine ⟨?_, ?_, ?_, ?_, ?_, ?_, ?_, ?_, ?_⟩
  · rw [b14, hq]
    simp [stQ]
  · rw [b13 21 (by decide) (by decide) (by decide)]; exact a2
  · rw [b13 22 (by decide) (by decide) (by decide)]; exact a3
  · rw [b13 24 (by decide) (by decide) (by decide)]; exact a4
  · rw [b13 25 (by decide) (by decide) (by decide)]; exact a5
  · intro z
    obtain ⟨c1, c2⟩ := a6 z
    refine ⟨by rw [b13 25 (by decide) (by decide) (by decide)]; exact c1, ?_⟩
    unfold tld
    rw [b1 13 (by omega)]
    exact c2
  · rw [b15, a7]
    exact i_nI (add_hi (nI_hi (by omega)) (nI_hi (by omega)) (by omega))
  · rw [b13 23 (by decide) (by decide) (by decide)]; exact a8
  · intro i z hz
    rcases Nat.lt_or_ge i st.1.length with hlt | hge
    · have hz2 : st.1[i]? = some z := by
        have : (st.1 ++ [(L, π, way, up, via)])[i]? = some z := hz
        rw [List.getElem?_append_left hlt] at this
        exact this
      have hne : i ≠ q := by omega
      rw [b6 i hne 14 (by omega) (by omega), b6 i hne 15 (by omega) (by omega), b6 i hne 16 (by omega) (by omega), b6 i hne 17 (by omega) (by omega), b6 i hne 18 (by omega) (by omega), b6 i hne 19 (by omega) (by omega)]
      exact a9 i z hz2
    · have hz2 : (st.1 ++ [(L, π, way, up, via)])[i]? = some z := hz
      have hl : i < (st.1 ++ [(L, π, way, up, via)]).length := (List.getElem?_eq_some_iff.mp hz2).1
      simp at hl
      have ei : i = st.1.length := by omega
      subst ei
      rw [List.getElem?_append_right (Nat.le_refl _), Nat.sub_self] at hz2
      cases hz2
      rw [← hq]
      exact ⟨b7, b8, b9, b10, b11, b12⟩
end BP
