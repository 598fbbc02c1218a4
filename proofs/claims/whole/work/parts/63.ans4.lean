/-! The reference's answerRows: as a whole -/
section BD
variable {E : gE} {d : Nat} {G G0 : gS} {m n : Nat} {s s' : mS} {Q : gO → gS → Prop} {P : Nat → Nat → Int32} {N X X' t0 : Nat} {pl pl' pos : Nat → List Nat}
theorem map_split {φ : Nat → List Nat} {ws : List (Nat × Nat)} {z1 z2 : List (List Nat × Nat)} {π : List Nat} {nd : Nat} (h : ws.map (fun q => (φ q.1, q.2)) = z1 ++ (π, nd) :: z2) : ∃ l p r, ws = l ++ (p, nd) :: r ∧ φ p = π ∧ l.map (fun q => (φ q.1, q.2)) = z1 ∧ r.map (fun q => (φ q.1, q.2)) = z2 := by
  obtain ⟨l, r', e1, e2, e3⟩ := List.map_eq_append_iff.mp h
  cases r' with
  | nil => cases e3
  | cons y r =>
    rw [List.map_cons] at e3
    have h1 := (List.cons.inj e3).1
    have h2 := (List.cons.inj e3).2
    refine ⟨l, y.1, r, ?_, congrArg Prod.fst h1, e2, h2⟩
    rw [e1]
    congr 1
    have : y.2 = nd := congrArg Prod.snd h1
    rw [← this]
theorem ans_loop (hmn : m < n) (wf : wfA P N pos) (ht0 : t0 < 16) {first p r0 : Nat} {L : List pRow} {md wh is : Int32} {π : List Nat} (hL : ∀ A ∈ L, rOk P N pos t0 A) (hrow : hPs s pl X first L) (hp : p < X) (hπ : pl p = π) (hfr : first + L.length ≤ r0) (br : r0 ≤ 41500) (hkd : ∀ A ∈ L, ∀ q ∈ A.2.1, q.1 = π → ¬ md = 0 → P 3 q.2 = 2)
    (hQ : ∀ s', qA P N t0 pos pl X r0 (aAns P π md wh is L) s s' → Q (.inl none) (mW E G m n s')) :
    ∀ (w k : Nat) (s1 : mS) (pl1 : Nat → List Nat) (X1 : Nat), L.length < k + w → k ≤ L.length → plOk s1 P N t0 pos pl1 X1 → (∀ q, q < X → pl1 q = pl q) → fB s s1 r0 X X1 → sPA s1 P → s1.1 47 = 0 → (aAns P π md wh is (L.take k)).length ≤ 80 → s1.1 46 = nI (r0 + (aAns P π md wh is (L.take k)).length) → hPs s1 pl1 X1 r0 (aAns P π md wh is (L.take k)) → (∀ A ∈ aAns P π md wh is (L.take k), A.2.1.length ≤ 26) →
      GT E Y_Model_answerRows (d + 2) G0 13 [(0, .ref m), (1, .int (nI first)), (2, .int (nI L.length)), (3, .int (nI p)), (4, .int md), (5, .int wh), (6, .int is), (7, .int (nI r0)), (8, .int 41600), (9, .int (nI k))] [] (mW E G m n s1) Q := by
  obtain ⟨wfn, wft, wfk⟩ := id wf
  have bN := wfn.1
  intro w
  induction w with
  | zero => intro k s1 pl1 X1 h1 h2; omega
  | succ w ih =>
    intro k s1 pl1 X1 hw hk hpl hple fr1 hs1 h47 hO80 h46 hout hlen
    by_cases e : k < L.length
    · obtain ⟨A, hA⟩ : ∃ A, L[k]? = some A := ⟨L[k], List.getElem?_eq_getElem e⟩
      have hAm := List.mem_of_getElem? hA
      have okA := hL A hAm
      have lenA := rOk_len wf okA
      have hX1 := fr1.2.2.2.2.2
      have bX := plOk_X hpl
      have hp1 : p < X1 := by omega
      have epl : pl1 p = π := by rw [hple p hp]; exact hπ
      -- the row
      obtain ⟨ws, bd, hh, ew, eb, wX, bX1⟩ := hP_fr (hrow k A hA) (by omega) (fr1.2.2.1 (first + k) (by omega)) hple hX1
      have lw : ws.length = A.2.1.length := by rw [ew, List.length_map]
      have e27 : tn (s1.2 27 (first + k)) = ws.length := by rw [hh.2.1]; exact tnI (by omega)
      have hM : ¬ s1.2 27 (first + k) < 0 := by rw [hh.2.1]; exact nlt_hi (nI_hi (by omega))
      have hc := hR_copy (T := 41600) hh (by omega) (by omega)
      have frc : sF s1 (rCopy s1 (first + k) 41600) 41600 0 := rCopy_F (Nat.le_refl _) (by omega) rfl
      have hin : ∀ q ∈ ws, (pl1 q.1, q.2) ∈ A.2.1 := fun q hq => by
        rw [ew]
        exact List.mem_map_of_mem (f := fun q => (pl1 q.1, q.2)) hq
      have hNw : ∀ q ∈ ws, q.2 < N := fun q hq => (okA.1 _ (hin q hq)).1.1
      have hinj : ∀ q ∈ ws, pl1 q.1 = π → q.1 = p := fun q hq h => hpl.2.2.2.2.1 q.1 p (wX q hq) hp1 (by rw [h, epl])
      refine m_W_ans_a hmn (F := first + k) (fun y => ?_) h47 (add_hi (nI_hi (by omega)) (nI_hi (by omega)) (by omega)) (by omega) hM (by omega) ?_ ?_
      · have := (le_hi (nI_hi (n := L.length) (by omega)) (nI_hi (n := k) (by omega))).mp y
        omega
      · rw [hc.2.1, hh.2.1]
      have hcP := sPA_F hs1 frc
      have hcpl := plOk_F hpl frc
      have fr2 : fB s (rCopy s1 (first + k) 41600) r0 X X1 := fB_tr fr1 (fB_F (sF_le frc (by omega) (Nat.le_refl _))) (Nat.le_refl _)
      have c46 : (rCopy s1 (first + k) 41600).1 46 = nI (r0 + (aAns P π md wh is (L.take k)).length) := h46
      have c47 : (rCopy s1 (first + k) 41600).1 47 = 0 := h47
      have hout2 := hPs_fr (s' := rCopy s1 (first + k) 41600) hout hlen frc.2.2.1 (by omega) (fun _ _ => rfl) (Nat.le_refl _)
      rw [e27]
      generalize rCopy s1 (first + k) 41600 = s2 at hc hcP hcpl fr2 c46 c47 hout2 ⊢
      have hb : ∀ i q, ws[i]? = some q → s2.2 28 (26 * 41600 + i) = nI q.1 ∧ q.1 < 2 ^ 31 := fun i q hq => ⟨(hc.2.2.1 i q hq).1, by have := wX q (List.mem_of_getElem? hq); omega⟩
      have eT := aAns_take (P := P) (π := π) (md := md) (wh := wh) (is := is) hA
      -- behind settle
      have fin : ∀ (s3 : mS) (pl3 : Nat → List Nat) (X3 : Nat) (lws : List (Nat × Nat)) (q10 : Int32), plOk s3 P N t0 pos pl3 X3 → (∀ q, q < X → pl3 q = pl q) → fB s s3 r0 X X3 → sPA s3 P → s3.1 46 = nI (r0 + (aAns P π md wh is (L.take k)).length) → s3.1 47 = 0 → hPs s3 pl3 X3 r0 (aAns P π md wh is (L.take k)) → hR s3 41600 A.1 lws bd → lws.length ≤ 26 → aZ P lws ≤ 37 → (∀ q ∈ lws, q.2 < N) → (∀ q ∈ lws, q.1 < X3) → X1 ≤ X3 → (∀ q, q < X1 → pl3 q = pl1 q) → aAns1 P π md wh is A = aC A.1 (aL P (lws.map (fun q => (pl3 q.1, q.2))) A.2.2) →
          GT E Y_Model_answerRows (d + 2) G0 197 [(0, .ref m), (1, .int (nI first)), (2, .int (nI L.length)), (3, .int (nI p)), (4, .int md), (5, .int wh), (6, .int is), (7, .int (nI r0)), (8, .int 41600), (9, .int (nI k)), (10, .int q10)] [] (mW E G m n s3) Q := by
        intro s3 pl3 X3 lws q10 g1 g2 g3 g4 g5 g6 g7 g8 g9 g10 g11 g12 g13 g14 g15
        refine ans_fin hmn wfn (k := k) (sPA_P g4) g8 g9 g10 g11 g5 (by omega) (by omega) br (fun s4 hq => ?_)
        obtain ⟨f4, hq⟩ := hq
        have eb3 : A.2.2 = fun k => (bd k).map pl3 := by
          rw [eb]
          funext i
          cases hbi : bd i with
          | none => rfl
          | some y =>
            show some (pl1 y) = some (pl3 y)
            rw [g14 y (bX1 i y hbi)]
        have elen : (aAns1 P π md wh is A).length = (aL P lws bd).length := by
          rw [g15, aC, List.length_map, eb3, aL_map, List.length_map]
        have fr4 : fB s s4 r0 X X3 := fB_tr g3 (fB_F (sF_le f4 (Nat.le_add_right _ _) (Nat.le_refl _))) (Nat.le_refl _)
        rcases hq with ⟨o1, o2⟩ | ⟨o1, o2, o3, o4⟩
        · refine m_W_ans_e hmn (Or.inr (by rw [o2]; decide)) (hQ s4 ⟨pl3, X3, plOk_F g1 f4, g2, fr4, Or.inl ⟨?_, o2⟩⟩)
          have := aAns_mono (P := P) (π := π) (md := md) (wh := wh) (is := is) (L := L) (k := k + 1)
          rw [eT, List.length_append, elen] at this
          omega
        · have hlenN : ∀ B ∈ aAns1 P π md wh is A, B.2.1.length ≤ 26 := by
            intro B hB
            rw [g15] at hB
            obtain ⟨B', hB', rfl⟩ := List.mem_map.mp hB
            have := aL_len B' hB'
            rw [List.length_map] at this
            exact Nat.le_trans this g9
          have hnew : hPs s4 pl3 X3 (r0 + (aAns P π md wh is (L.take k)).length) (aAns1 P π md wh is A) := by
            rw [g15, eb3]
            exact hP_of (P := P) g12 (fun i y hy => Nat.lt_of_lt_of_le (bX1 i y hy) g13) o4
          refine ih (k + 1) s4 pl3 X3 (by omega) (by omega) (plOk_F g1 f4) g2 fr4 (sPA_F g4 f4) (o2.trans g6) ?_ ?_ ?_ ?_
          · rw [eT, List.length_append, elen]
            omega
          · rw [eT, List.length_append, elen, o3, Nat.add_assoc]
          · rw [eT]
            exact hPs_app (hPs_fr g7 hlen f4.2.2.1 (by omega) (fun _ _ => rfl) (Nat.le_refl _)) hnew
          · intro B hB
            rw [eT] at hB
            rcases List.mem_append.mp hB with hB | hB
            · exact hlen B hB
            · exact hlenN B hB
      cases hf : aFnd π A.2.1 with
      | none =>
        have hn := aFnd_none hf
        have hn2 : ∀ q ∈ ws, q.1 ≠ p := fun q hq h => hn _ (hin q hq) (by show pl1 q.1 = π; rw [h]; exact epl)
        rw [rWish_none hb (by omega) ws.length (Nat.le_refl _) hn2]
        refine m_W_ans_n hmn (by decide) ?_
        refine fin s2 pl1 X1 ws _ hcpl hple fr2 hcP c46 c47 hout2 hc (by omega) ?_ hNw wX (Nat.le_refl _) (fun _ _ => rfl) ?_
        · rw [← aZ_map pl1 ws, ← ew]
          have := okA.2.1
          omega
        · have e1 : aAns1 P π md wh is A = [A] := by
            unfold aAns1
            rw [hf]
          rw [e1, ← ew, aL_id (fun q hq => (okA.1 q hq).2)]
          rfl
      | some z =>
        have hz := aFnd_some hf
        rw [ew] at hz
        obtain ⟨l, p', r, e1, e2, e3, e4⟩ := map_split hz
        have hmem : (p', z.2.1) ∈ ws := by rw [e1]; simp
        have ep : p' = p := hinj _ hmem e2
        subst ep
        have hndN : z.2.1 < N := hNw _ hmem
        have hAk := okA.1 _ (hin _ hmem)
        have hsz : aZ P ws ≤ 24 := by
          rw [← aZ_map pl1 ws, ← ew]
          exact okA.2.1
        have hrn : ∀ q ∈ r, q.1 ≠ p' := by
          intro q hq h
          have pw := okA.2.2
          rw [ew, e1, List.map_append, List.map_cons] at pw
          have pw2 := (List.pairwise_append.mp pw).2.1
          have pw3 := (List.pairwise_cons.mp pw2).1 (pl1 q.1, q.2) (List.mem_map_of_mem (f := fun q => (pl1 q.1, q.2)) hq)
          exact pw3.1 (by show pl1 p' <+: pl1 q.1; rw [h]; exact List.prefix_refl _)
        have ll : ws.length = l.length + r.length + 1 := by rw [e1]; simp; omega
        have hb2 : ∀ i q, (l ++ (p', z.2.1) :: r)[i]? = some q → s2.2 28 (26 * 41600 + i) = nI q.1 ∧ q.1 < 2 ^ 31 := fun i q hq => hb i q (by rw [e1]; exact hq)
        have hwi := rWish_some hb2 (by omega) hrn r.length (Nat.le_refl _)
        rw [show l.length + 1 + r.length = ws.length by omega] at hwi
        rw [hwi]
        rw [e1] at hc
        have e29 := (hc.2.2.1 _ _ (mid_at (l := l) (r := r) (x := (p', z.2.1)))).2
        have et : tn (s2.2 29 (26 * 41600 + l.length)) = z.2.1 := by rw [e29]; exact tnI (by omega)
        have hpn : ¬ s2.2 29 (26 * 41600 + l.length) < 0 ∧ tn (s2.2 29 (26 * 41600 + l.length)) < 700 := ⟨by rw [e29]; exact nlt_hi (nI_hi (by omega)), by omega⟩
        have hlq : (nI l.length).toInt = (l.length : Int) := nI_hi (by omega)
        have h0q : ¬ nI l.length < 0 := nlt_hi hlq
        have c27 : tn (s2.2 27 41600) = ws.length := by rw [hc.2.1, ← e1]; exact tnI (by omega)
        have hO : ¬ s2.2 27 41600 < 0 := by rw [hc.2.1]; exact nlt_hi (nI_hi (by rw [← e1]; omega))
        have hs5 : s2.2 5 = P 5 := hcP 5 (by omega)
        by_cases cond : P 5 z.2.1 = wh ∧ (¬ md = 0 ∨ ¬ is = 0)
        · have e5 : aAns1 P π md wh is A = aC A.1 (aL P (z.1 ++ (aKs P (fun i => π ++ [4 * tn wh + i]) z.2.1 (if md = 0 then 0 else aAr P z.2.1) ++ z.2.2)) A.2.2) := by
            unfold aAns1
            rw [hf]
            exact if_pos cond
          by_cases hm : md = 0
          · -- a number
            rw [if_pos hm] at e5
            refine m_W_ans_z hmn hlq (by omega) h0q hpn (by rw [et, hs5]; exact cond.1) hm (cond.2.resolve_left (fun f => f hm)) (M := 0) (p := 0) (by decide) hO (by omega) (by omega) (by omega) ?_
            refine m_W_ans_q hmn (j := 0) (M := 0) (by decide) (by omega) ⟨by omega, by omega⟩ ?_
            have hOp := hO_0 (hO_open (M := 0) (q := 0) hc (by rw [← e1]; omega) rfl (by omega) (by omega))
            have fro : sF s2 (rOpen s2 41600 l.length 0 0) 41600 0 := rOpen_F (Nat.le_refl _) (by omega) (by omega) rfl
            have z46 : (rOpen s2 41600 l.length 0 0).1 46 = s2.1 46 := by unfold rOpen; split <;> rfl
            have z47 : (rOpen s2 41600 l.length 0 0).1 47 = s2.1 47 := by unfold rOpen; split <;> rfl
            have hz2 : aZ P (l ++ r) ≤ 37 := by
              rw [e1, aZ_app] at hsz
              simp only [aZ] at hsz
              rw [aZ_app]
              omega
            refine fin _ pl1 X1 (l ++ r) _ (plOk_F hcpl fro) hple (fB_tr fr2 (fB_F (sF_le fro (by omega) (Nat.le_refl _))) (Nat.le_refl _)) (sPA_F hcP fro) (z46.trans c46) (z47.trans c47) (hPs_fr hout2 hlen fro.2.2.1 (by omega) (fun _ _ => rfl) (Nat.le_refl _)) hOp (by rw [List.length_append]; omega) hz2 (fun q hq => hNw q (by rw [e1]; rcases List.mem_append.mp hq with hq | hq <;> simp [hq])) (fun q hq => wX q (by rw [e1]; rcases List.mem_append.mp hq with hq | hq <;> simp [hq])) (Nat.le_refl _) (fun _ _ => rfl) ?_
            rw [e5, List.map_append, e3, e4]
            rfl
          · -- a constructor
            rw [if_neg hm] at e5
            have hk2 : P 3 z.2.1 = 2 := hkd A hAm _ (hin _ hmem) e2 hm
            obtain ⟨⟨t4, ht4, et4⟩, -, -, hmk⟩ := wfk z.2.1 hndN
            obtain ⟨⟨w8, hw8, ew8⟩, a4, ea1, eZ, hparts⟩ := hmk hk2
            have ewh : tn wh = w8 := by rw [← cond.1, ew8]; exact tnI (by omega)
            have hty : P 4 z.2.1 = nI (tyP P t0 π) := by
              have := hAk.1.2.2
              rw [e2] at this
              exact this
            have h21 := (hcpl.2.2.2.1 p' (by omega)).1
            have et21 : s2.2 21 p' = nI (tn (P 4 z.2.1)) := by rw [h21, epl, ← hty, et4, tnI (by omega)]
            have ear : s2.2 1 (8 * tn (s2.2 21 p') + tn wh) = nI (aAr P z.2.1) := by
              rw [et21, tnI (by rw [et4, tnI (by omega)]; omega), hcP 1 (by omega), ← ea1, cond.1]
            have hpos : pos z.2.1 = π := by
              have := hAk.1.2.1
              rw [e2] at this
              exact this.symm
            have zz := (wfn.2 z.2.1 hndN).1
            have ar26 : l.length + aAr P z.2.1 + r.length ≤ 26 := by
              have h1 := aZ_pos wfn (l.map (fun q => (pl1 q.1, q.2))) (fun q hq => by
                obtain ⟨y, hy, rfl⟩ := List.mem_map.mp hq
                exact hNw y (by rw [e1]; simp [hy]))
              have h2 := aZ_pos wfn (r.map (fun q => (pl1 q.1, q.2))) (fun q hq => by
                obtain ⟨y, hy, rfl⟩ := List.mem_map.mp hq
                exact hNw y (by rw [e1]; simp [hy]))
              have h3 := aZ_pos wfn (aKs P (fun _ => ([] : List Nat)) z.2.1 (aAr P z.2.1)) (fun q hq => by
                obtain ⟨i, hi, rfl⟩ := List.mem_map.mp hq
                obtain ⟨v, hv, e6, -⟩ := hparts i (List.mem_range.mp hi)
                show tn (P 6 (4 * z.2.1 + i)) < N
                rw [e6, tnI (by omega)]
                omega)
              rw [aZ_map, List.length_map] at h1 h2
              rw [aKs_len, aKs_Z (g' := fun _ => ())] at h3
              rw [e1, aZ_app] at hsz
              simp only [aZ] at hsz
              omega
            refine m_W_ans_o hmn hlq (by omega) h0q hpn (by rw [et, hs5]; exact cond.1) hm (M := aAr P z.2.1) (p := p') (by rw [ear]; exact nI_hi (by omega)) hO (by omega) (by omega) (by omega) (nI_hi (by omega)) (by omega) (by rw [et21, tnI (by rw [et4, tnI (by omega)]; omega)]; exact ⟨nlt_hi (nI_hi (by rw [et4, tnI (by omega)]; omega)), by rw [et4, tnI (by omega)]; exact ht4⟩) ⟨by rw [← cond.1, ew8]; exact nlt_hi (nI_hi (by omega)), by omega⟩ ?_
            rw [ear, e29]
            have fro : sF s2 (rOpen s2 41600 l.length (aAr P z.2.1) (nI (aAr P z.2.1))) 41600 0 := rOpen_F (Nat.le_refl _) (by omega) (by omega) rfl
            have z46 : (rOpen s2 41600 l.length (aAr P z.2.1) (nI (aAr P z.2.1))).1 46 = s2.1 46 := by unfold rOpen; split <;> rfl
            have z47 : (rOpen s2 41600 l.length (aAr P z.2.1) (nI (aAr P z.2.1))).1 47 = s2.1 47 := by unfold rOpen; split <;> rfl
            have hOp := hO_open (M := aAr P z.2.1) (q := nI (aAr P z.2.1)) hc (by rw [← e1]; omega) rfl (by omega) ar26
            have fr3 : fB s (rOpen s2 41600 l.length (aAr P z.2.1) (nI (aAr P z.2.1))) r0 X X1 := fB_tr fr2 (fB_F (sF_le fro (by omega) (Nat.le_refl _))) (Nat.le_refl _)
            have hout3 := hPs_fr hout2 hlen fro.2.2.1 (by omega) (fun _ _ => rfl) (Nat.le_refl _)
            have hP3 := sPA_F hcP fro
            have hpl3 := plOk_F hcpl fro
            generalize rOpen s2 41600 l.length (aAr P z.2.1) (nI (aAr P z.2.1)) = s3 at fro z46 z47 hOp fr3 hout3 hP3 hpl3 ⊢
            refine ans_args (E := E) (d := d) (G := G) (G0 := G0) (s := s3) (pl := pl1) (X := X1) hmn wf ht0 (p := p') (nd := z.2.1) (c := A.1) (a := aAr P z.2.1) (π := π) (l := l) (r := r) (bd := bd) hndN hk2 cond.1 hpos rfl ar26 (r0 + (aAns P π md wh is (L.take k)).length) (by omega) (fun s4 pl4 X4 g1 g2 g3 g4 g5 g6 => ?_) (aAr P z.2.1 + 1) 0 s3 pl1 X1 [] (by omega) (by omega) hpl3 (fun _ _ => rfl) (by omega) epl fB_rf hP3 rfl rfl (by rw [List.append_nil]; exact hOp) rfl (by simp) (fun q hq => by cases hq)
            obtain ⟨ks, hks1, hks2, hks3⟩ := g6
            have hX4 := g3.2.2.2.2.2
            have kl : ks.length = aAr P z.2.1 := by
              have := congrArg List.length hks2
              rw [List.length_map, aKs_len] at this
              exact this
            have ksZ : aZ P ks + 1 = tn (P 7 z.2.1) := by
              rw [← aZ_map pl4 ks, hks2, aKs_Z (g' := fun _ => ())]
              exact eZ
            have ksN : ∀ q ∈ ks, q.2 < N := fun q hq => by
              have : (pl4 q.1, q.2) ∈ aKs P (fun i => π ++ [4 * tn wh + i]) z.2.1 (aAr P z.2.1) := by
                rw [← hks2]
                exact List.mem_map_of_mem (f := fun q => (pl4 q.1, q.2)) hq
              obtain ⟨i, hi, ei⟩ := List.mem_map.mp this
              obtain ⟨v, hv, e6, -⟩ := hparts i (List.mem_range.mp hi)
              have : q.2 = tn (P 6 (4 * z.2.1 + i)) := (congrArg Prod.snd ei).symm
              rw [this, e6, tnI (by omega)]
              omega
            have mem3 : ∀ q, q ∈ l ++ (ks ++ r) → q ∈ ks ∨ q ∈ ws := fun q hq => by
              rcases List.mem_append.mp hq with hq | hq
              · exact Or.inr (by rw [e1]; simp [hq])
              · rcases List.mem_append.mp hq with hq | hq
                · exact Or.inl hq
                · exact Or.inr (by rw [e1]; simp [hq])
            refine fin s4 pl4 X4 (l ++ (ks ++ r)) _ g1 (fun q hq => by rw [g2 q (by omega)]; exact hple q hq) (fB_tr fr3 g3 (by omega)) (sPA_A hP3 g3) (by rw [g4, z46]; exact c46) (by rw [g5, z47]; exact c47) (hPs_fr hout3 hlen g3.2.2.1 (by omega) g2 hX4) hks1 (by simp only [List.length_append]; omega) ?_ ?_ ?_ hX4 g2 ?_
            · rw [e1, aZ_app] at hsz
              simp only [aZ] at hsz
              rw [aZ_app, aZ_app]
              omega
            · intro q hq
              rcases mem3 q hq with h | h
              · exact ksN q h
              · exact hNw q h
            · intro q hq
              rcases mem3 q hq with h | h
              · exact hks3 q h
              · exact Nat.lt_of_lt_of_le (wX q h) hX4
            · rw [e5, List.map_append, List.map_append, hks2, ← e3, ← e4]
              have el : l.map (fun q => (pl4 q.1, q.2)) = l.map (fun q => (pl1 q.1, q.2)) := List.map_congr_left (fun q hq => by rw [g2 q.1 (wX q (by rw [e1]; simp [hq]))])
              have er : r.map (fun q => (pl4 q.1, q.2)) = r.map (fun q => (pl1 q.1, q.2)) := List.map_congr_left (fun q hq => by rw [g2 q.1 (wX q (by rw [e1]; simp [hq]))])
              rw [el, er]
        · -- the row goes
          have e5 : aAns1 P π md wh is A = [] := by
            unfold aAns1
            rw [hf]
            exact if_neg cond
          refine m_W_ans_x hmn hlq (by omega) h0q hpn ?_ ?_
          · rw [et, hs5]
            by_cases c1 : P 5 z.2.1 = wh
            · refine Or.inr ⟨?_, ?_⟩
              · exact Classical.byContradiction (fun f => cond ⟨c1, Or.inl f⟩)
              · exact Classical.byContradiction (fun f => cond ⟨c1, Or.inr f⟩)
            · exact Or.inl c1
          · refine ans_next hmn (q10 := 0) ?_
            refine ih (k + 1) s2 pl1 X1 (by omega) (by omega) hcpl hple fr2 hcP c47 ?_ ?_ ?_ ?_
            · rw [eT, e5, List.append_nil]
              exact hO80
            · rw [eT, e5, List.append_nil]
              exact c46
            · rw [eT, e5, List.append_nil]
              exact hout2
            · rw [eT, e5, List.append_nil]
              exact hlen
    · have ek : k = L.length := by omega
      subst ek
      have et : L.take L.length = L := List.take_length
      rw [et] at hO80 h46 hout hlen
      exact m_W_ans_e hmn (Or.inl (Int32.le_refl _)) (hQ s1 ⟨pl1, X1, hpl, hple, fr1, Or.inr ⟨hO80, h47, h46, hout⟩⟩)
end BD
