/-! The reference's answerRows: its contract -/
section BB
variable {E : gE} {d : Nat} {G G0 : gS} {m n : Nat} {s s' : mS} {Q : gO → gS → Prop} {P : Nat → Nat → Int32} {N X X' t0 : Nat} {pl pl' pos : Nat → List Nat}
theorem rOk_len (wf : wfA P N pos) {A : pRow} (h : rOk P N pos t0 A) : A.2.1.length ≤ 24 := by
  have := aZ_pos wf.1 A.2.1 (fun q hq => (h.1 q hq).1.1)
  have := h.2.1
  omega
/-- a node that is settled and no number is made -/
theorem aKs_take {α : Type} {g : Nat → α} {k a j : Nat} (h : j < a) : (aKs P g k a).take (j + 1) = (aKs P g k a).take j ++ [(g j, tn (P 6 (4 * k + j)))] := by
  unfold aKs
  rw [List.take_succ]
  congr 1
  rw [List.getElem?_map, List.getElem?_range h]
  rfl
theorem aKs_len {α : Type} {g : Nat → α} {k a : Nat} : (aKs P g k a).length = a := by
  unfold aKs
  simp
/-- the loop over the arguments -/
theorem ans_args (hmn : m < n) (wf : wfA P N pos) (ht0 : t0 < 16) {f0 mn md is fr nn wh : Int32} {p nd c a : Nat} {π : List Nat} {l r : List (Nat × Nat)} {bd : Nat → Option Nat} (hnd : nd < N) (hk2 : P 3 nd = 2) (hwh : P 5 nd = wh) (hpos : pos nd = π) (ha : a = aAr P nd) (hlr : l.length + a + r.length ≤ 26) (r0 : Nat) (br : r0 ≤ 41600)
    (kk : ∀ s' pl' X', plOk s' P N t0 pos pl' X' → (∀ q, q < X → pl' q = pl q) → fB s s' r0 X X' → s'.1 46 = s.1 46 → s'.1 47 = s.1 47 → (∃ ks : List (Nat × Nat), hR s' 41600 c (l ++ (ks ++ r)) bd ∧ ks.map (fun q => (pl' q.1, q.2)) = aKs P (fun i => π ++ [4 * tn wh + i]) nd a ∧ ∀ q ∈ ks, q.1 < X') →
      GT E Y_Model_answerRows (d + 2) G0 197 [(0, .ref m), (1, .int f0), (2, .int mn), (3, .int (nI p)), (4, .int md), (5, .int wh), (6, .int is), (7, .int fr), (8, .int 41600), (9, .int (nn)), (10, .int (nI l.length))] [] (mW E G m n s') Q) :
    ∀ (w j : Nat) (s1 : mS) (pl1 : Nat → List Nat) (X1 : Nat) (ks : List (Nat × Nat)), a < j + w → j ≤ a → plOk s1 P N t0 pos pl1 X1 → (∀ q, q < X → pl1 q = pl q) → p < X → pl p = π → fB s s1 r0 X X1 → sPA s1 P → s1.1 46 = s.1 46 → s1.1 47 = s.1 47 → hO s1 41600 c (l ++ ks) (a - j) r bd → ks.length = j → ks.map (fun q => (pl1 q.1, q.2)) = (aKs P (fun i => π ++ [4 * tn wh + i]) nd a).take j → (∀ q ∈ ks, q.1 < X1) →
      GT E Y_Model_answerRows (d + 2) G0 131 [(0, .ref m), (1, .int f0), (2, .int mn), (3, .int (nI p)), (4, .int md), (5, .int wh), (6, .int is), (7, .int fr), (8, .int 41600), (9, .int (nn)), (10, .int (nI l.length)), (11, .int (nI nd)), (12, .int (nI a)), (13, .int (nI j))] [] (mW E G m n s1) Q := by
  obtain ⟨wfn, wft, wfk⟩ := id wf
  have bN := wfn.1
  obtain ⟨⟨t4, ht4, et4⟩, -, -, hm⟩ := wfk nd hnd
  obtain ⟨⟨w8, hw8, ew8⟩, a4, ea1, eZ, hparts⟩ := hm hk2
  have ewh : tn wh = w8 := by rw [← hwh, ew8]; exact tnI (by omega)
  have ew5 : tn (P 5 nd) = w8 := by rw [ew8]; exact tnI (by omega)
  intro w
  induction w with
  | zero => intro j s1 pl1 X1 ks h1 h2; omega
  | succ w ih =>
    intro j s1 pl1 X1 ks hw hj hpl hple hp hπ fr1 hs1 e46 e47 hO hkl hks hkX
    have hX := fr1.2.2.2.2.2
    have bX := plOk_X hpl
    by_cases e : j < a
    · obtain ⟨v, hv, e6, e4v, ev⟩ := hparts j (by omega)
      have hp1 : p < X1 := by omega
      have epl : pl1 p = π := by rw [hple p hp]; exact hπ
      have h21 := (hpl.2.2.2.1 p hp1).1
      have ety : tyP P t0 (pl1 p) < 16 := by
        have : ∀ q, q < X1 → tyP P t0 (pl1 q) < 16 := by
          intro q
          induction q using Nat.strongRecOn with
          | ind q ihq =>
            intro hq
            rcases Nat.eq_zero_or_pos q with z | z
            · subst z
              rw [hpl.2.2.1]
              exact ht0
            · obtain ⟨-, p1, e1, l1, l2, l3, -⟩ := hpl.2.2.2.2.2 q z hq
              rw [l3, tyP_app]
              have := ihq p1 l1 (by omega)
              obtain ⟨t', ht', et'⟩ := wft (32 * tyP P t0 (pl1 p1) + e1) (by omega)
              rw [et', tnI (by omega)]
              exact ht'
        exact this p hp1
      have hT : ¬ s1.2 21 p < 0 ∧ tn (s1.2 21 p) < 16 := by
        rw [h21]
        exact ⟨nlt_hi (nI_hi (by omega)), by rw [tnI (by omega)]; exact ety⟩
      obtain ⟨pl2, X2, q1, q2, q3, p', z1, z2, z3⟩ := in_ok hpl bN (hs1 2 (by omega)) wft ht0 (p := p) (C := tn wh) (K := j) hp1 (by omega) (by omega) ⟨v, by omega, by rw [ev, epl, hpos, ew5, ewh]⟩
      have hX2 := q3.2.2.2.2
      refine m_W_ans_p hmn (k := l.length) (j := j) (nd := nd) (p := p) (M := a) (nI_hi (by omega)) (by omega) (nI_hi (by omega)) (by omega) (nI_hi (by omega)) e (by omega) (nI_hi (by omega)) (by omega) hT ⟨by rw [← hwh, ew8]; exact nlt_hi (nI_hi (by omega)), by omega⟩ (by rw [hpl.1]; exact nlt_hi (nI_hi (by omega))) (by rw [hpl.1, tnI (by omega)]; omega) ?_
      have hlk : (l ++ ks).length = l.length + j := by rw [List.length_append, hkl]
      have f6 : (rIn s1 p (tn wh) j).2 6 (4 * nd + j) = nI v := by rw [q3.1 6 (by omega), hs1 6 (by omega)]; exact e6
      have hO2 := hO_w (M := a - j - 1) (p := p') (v := v) (x := (rIn s1 p (tn wh) j).2 22 (32 * p + 4 * tn wh + j)) (y := (rIn s1 p (tn wh) j).2 6 (4 * nd + j)) (hO_in (by rw [show a - j - 1 + 1 = a - j by omega]; exact hO) q3) z2 f6
      rw [hlk, ← Nat.add_assoc, List.append_assoc] at hO2
      generalize hS : wA (wA (rIn s1 p (tn wh) j) 28 (26 * 41600 + l.length + j) ((rIn s1 p (tn wh) j).2 22 (32 * p + 4 * tn wh + j))) 29 (26 * 41600 + l.length + j) ((rIn s1 p (tn wh) j).2 6 (4 * nd + j)) = s2 at hO2 ⊢
      have fr2 : fB (rIn s1 p (tn wh) j) s2 r0 X2 X2 := by
        subst hS
        refine ⟨fun i hi => ?_, fun k _ _ _ => rfl, fun R hR => ?_, fun q _ => rfl, fun q h1 h2 => by omega, Nat.le_refl _⟩
        · unfold wA wR upA
          dsimp only
          simp only [show ¬ i = 29 by omega, show ¬ i = 28 by omega, if_false]
        · have := sR_w (s := rIn s1 p (tn wh) j) (R := 41600) (k := l.length + j) (R' := R) (x := (rIn s1 p (tn wh) j).2 22 (32 * p + 4 * tn wh + j)) (y := (rIn s1 p (tn wh) j).2 6 (4 * nd + j)) (by omega) (by omega)
          rw [← Nat.add_assoc] at this
          exact this
      have g34 : s2.1 34 = (rIn s1 p (tn wh) j).1 34 := by subst hS; rfl
      have g46 : s2.1 46 = (rIn s1 p (tn wh) j).1 46 := by subst hS; rfl
      have g47 : s2.1 47 = (rIn s1 p (tn wh) j).1 47 := by subst hS; rfl
      have g2 : ∀ i, i < 26 → s2.2 i = (rIn s1 p (tn wh) j).2 i := fun i hi => by
        subst hS
        unfold wA wR upA
        dsimp only
        simp only [show ¬ i = 29 by omega, show ¬ i = 28 by omega, if_false]
      have hpl2 : plOk s2 P N t0 pos pl2 X2 := by
        unfold plOk at q1 ⊢
        rw [g34, g2 20 (by omega), g2 21 (by omega), g2 22 (by omega)]
        exact q1
      have hple2 : ∀ q, q < X → pl2 q = pl q := fun q hq => by rw [q2 q (by omega)]; exact hple q hq
      refine ih (j + 1) s2 pl2 X2 (ks ++ [(p', v)]) (by omega) (by omega) hpl2 hple2 hp hπ (fB_tr fr1 (fB_tr (fB_I q3) fr2 (Nat.le_refl _)) (Nat.le_refl _)) (fun i hi => by rw [g2 i (by omega), q3.1 i (by omega)]; exact hs1 i hi) (by rw [g46, q3.2.1 46 (by decide)]; exact e46) (by rw [g47, q3.2.1 47 (by decide)]; exact e47) (by rw [show a - (j + 1) = a - j - 1 by omega]; exact hO2) (by simp [hkl]) ?_ ?_
      · rw [List.map_append, aKs_take e, ← hks]
        congr 1
        · refine List.map_congr_left (fun q hq => ?_)
          rw [q2 q.1 (hkX q hq)]
        · show [(pl2 p', v)] = _
          rw [z3, epl, e6, tnI (by omega)]
      · intro q hq
        rcases List.mem_append.mp hq with hq | hq
        · exact Nat.lt_of_lt_of_le (hkX q hq) hX2
        · rcases List.mem_singleton.mp hq with rfl
          exact z1
    · have ej : j = a := by omega
      refine m_W_ans_q hmn (j := j) (M := a) (nI_hi (by omega)) e ⟨by omega, by omega⟩ ?_
      refine kk s1 pl1 X1 hpl hple fr1 e46 e47 ⟨ks, ?_, ?_, hkX⟩
      · rw [ej, Nat.sub_self] at hO
        have := hO_0 hO
        rw [List.append_assoc] at this
        exact this
      · rw [hks, ej]
        exact List.take_of_length_le (by rw [aKs_len]; omega)
end BB
