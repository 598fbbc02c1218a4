/-! Tree.follow -/
section CO
variable {E : gE} {d : Nat} {G G0 : gS} {a : Nat} {c c' c0 c1 : cS} {u u' u2 u0 : uS} {n n' n0 n1 sl sl' sl1 : Nat} {Q : gO → gS → Prop} {B SS : Nat} {P : Nat → Nat → Int32} {N t0 X C nk nk' way : Nat} {tm cp : Nat → Nat} {ob : Nat → Int32} {T : Nat → Prop} {pos plc : Nat → List Nat} {an : aAn} {ks bs sp ps ps' qs qs' qs1 ms : List Nat} {Z : List zQ} {st : aSt} {W : List (List Nat)} {Dr : List Nat} {x : qR} {z : zQ}
/-- what follow leaves as it is: question i's count is k -/
def fwF (c : cS) (u : uS) (n : Nat) (ps qs : List Nat) (z : zQ) (D i k : Nat) (c' : cS) (u' : uS) (n' : Nat) (ps' qs' : List Nat) : Prop := gF c u n c' u' n' ∧ (∀ j q, j < D → qs[j]? = some q → qs'[j]? = some q ∧ (j ≠ i → u'.2.2.1 q 11 = u.2.2.1 q 11) ∧ (j = i → u'.2.2.1 q 11 = nI k)) ∧ (∀ j, j < z.2.2.2.1 → j ≠ z.2.2.1 → plE u u' ps ps' j) ∧ (∀ y, ps[z.2.2.1]? = some y → ps'[z.2.2.1]? = some y ∧ u'.2.2.1 y 0 = u.2.2.1 y 0) ∧ ps.length ≤ ps'.length
theorem types_ok (hK : cK P C cp tm c) (hP0 : ∀ t, t < 16 → ∃ v, v ≤ 9 ∧ P 0 t = nI v) : tOk (c.2.1 0) := fun j hj => by
  obtain ⟨v, hv, e⟩ := hP0 j hj
  rw [hK.2.2.1 j hj, e]
  cases v with
  | zero => decide
  | succ m =>
    rw [nI_s1 (by omega), nI_hi (by omega)]
    omega
/-- a number that is answered 'other' is wished by no row -/
theorem other_no {π : List Nat} {R : List pRow} {A : pRow} {y : List Nat × Nat} {k0 : Nat} (hA : A ∈ R) (hf : ∃ zz, aFnd π A.2.1 = some zz ∧ zz.2.1 = y.2) (hR : R.length < 2 ^ 31) (hk : ¬ k0 < (qSr P π R).length) (hn : P 0 (tyP P t0 π) ≤ 1) : ¬ P 5 y.2 = qW P t0 R π k0 := fun e => by
  unfold qW at e
  rw [if_pos hn, List.getElem?_eq_none (by omega)] at e
  simp only at e
  have hl : (qSr P π R).length ≤ R.length := by
    have h1 := aSrt_len (l := aNs P π R) (S := [])
    have h2 := aNs_len (P := P) (π := π) R
    unfold qSr
    simp only [List.length_nil] at h1
    omega
  have ho := (aLst_ok (qSr P π R) 0 (aSrt_ris List.Pairwise.nil) (by omega)).2.2.2
  refine ho ?_
  rw [← e]
  refine aSrt_mem.mpr (Or.inr ?_)
  obtain ⟨l, r, rfl⟩ := List.append_of_mem hA
  rw [aNs_app]
  refine List.mem_append_right _ ?_
  simp only [aNs]
  obtain ⟨zz, h1, h2⟩ := hf
  rw [h1]
  simp [h2]
theorem aFnd_has {π : List Nat} {y : List Nat × Nat} : ∀ {l : List (List Nat × Nat)}, y ∈ l → y.1 = π → l.Pairwise apart → ∃ zz, aFnd π l = some zz ∧ zz.2.1 = y.2
  | [], h, _, _ => by cases h
  | q :: r, h, e, hp => by
    obtain ⟨p1, p2⟩ := List.pairwise_cons.mp hp
    simp only [aFnd]
    by_cases hq : q.1 = π
    · rw [if_pos hq]
      rcases List.mem_cons.mp h with rfl | h
      · exact ⟨_, rfl, rfl⟩
      · exact absurd (by rw [hq, e]; exact List.prefix_refl _) (p1 y h).1
    · rw [if_neg hq]
      rcases List.mem_cons.mp h with rfl | h
      · exact absurd e hq
      · obtain ⟨zz, h1, h2⟩ := aFnd_has h e p2
        rw [h1]
        exact ⟨_, rfl, h2⟩
/-- an answer's rows, by paths -/
theorem fol_map (wf : wfA P N pos) (wb : wfB P N) (wk : wfK P N) (tp : tmP P N tm ob T) {kd on : Nat → Int32} (hkd : ∀ k, T k → kd (tm k) = kdC (P 3 (bse P 512 k)) ∧ on (tm k) = ob k) (ht0 : t0 < 16) {k0 ar : Nat} (hq : zqP P N t0 ob T c n x z) (hC : pC P N pos t0 C W Dr an x z) (h800 : x.1.length ≤ 800) (hkk : k0 < 1000) (hcs : (P 0 (tyP P t0 x.2.1) ≤ 1 ∧ ar = 0) ∨ (¬ P 0 (tyP P t0 x.2.1) ≤ 1 ∧ P 1 (8 * tyP P t0 x.2.1 + k0) = nI ar ∧ ar ≤ 4)) :
    (ansC P z.2.2.1 z.2.2.2.1 (qW P t0 x.1 x.2.1 k0) z.2.1).map (rP (plcX z.2.2.2.1 z.2.2.2.2.2 x.2.1 k0)) = qL P t0 x.1 x.2.1 k0 ∧ rws P N ob T (z.2.2.2.1 + ar) (ansC P z.2.2.1 z.2.2.2.1 (qW P t0 x.1 x.2.1 k0) z.2.1) := by
  obtain ⟨q1, q2, q3, q4, q5, q6, q7, q8, q9⟩ := hq
  have hkd2 := pC_kd wf wk ht0 hC
  have hmem : ∀ A ∈ z.2.1, ∀ y ∈ A.2.1, y.1 = z.2.2.1 → rP z.2.2.2.2.2 A ∈ x.1 ∧ (x.2.1, y.2) ∈ (rP z.2.2.2.2.2 A).2.1 := fun A hA y hy e => by
    refine ⟨by rw [← q1]; exact List.mem_map_of_mem hA, ?_⟩
    refine List.mem_map.mpr ⟨y, hy, ?_⟩
    rw [e, q2]
  refine ⟨?_, ans_rws wf wb wk tp hkd q5 (fun A hA y hy e hw => ?_)⟩
  · have K := ans_map (P := P) (N := N) (ob := ob) (T := T) (plc := z.2.2.2.2.2) (plc' := plcX z.2.2.2.1 z.2.2.2.2.2 x.2.1 k0) (md := qMd P t0 x.2.1) (wh := qW P t0 x.1 x.2.1 k0) (is := qI P t0 x.1 x.2.1 k0) q3 (fun i hi => plcX_lt hi) (fun i hi e => q7 i _ hi q3 e) z.2.1 q5 (fun A hA y hy e => ?_)
    · rw [K, q1, q2]
      rfl
    · obtain ⟨m1, m2⟩ := hmem A hA y hy e
      obtain ⟨kn, kc⟩ := hkd2 _ m1 _ m2 rfl
      unfold qMd qI
      by_cases hn : P 0 (tyP P t0 x.2.1) ≤ 1
      · rw [if_pos hn, if_pos hn]
        refine ⟨fun _ z3 => ?_, fun h => absurd rfl h, fun _ hi => ?_⟩
        · have := kn hn
          simp only at this
          rw [this] at z3
          exact absurd z3 (by decide)
        · have hnk : ¬ k0 < (qSr P x.2.1 x.1).length := fun h => by
            rw [if_pos h] at hi
            exact absurd hi (by decide)
          exact other_no (y := (x.2.1, y.2)) m1 (aFnd_has m2 rfl (hC.2.2.1 _ m1).1.2.2) (by omega) hnk hn
      · rw [if_neg hn, if_neg hn]
        refine ⟨fun h => absurd h (by decide), fun _ => ⟨kc hn, fun _ i _ => ?_⟩, fun h => absurd h (by decide)⟩
        rw [plcX_ge, q2]
        unfold qW
        rw [if_neg hn, tnI (by omega)]
  · obtain ⟨m1, m2⟩ := hmem A hA y hy e
    obtain ⟨kn, kc⟩ := hkd2 _ m1 _ m2 rfl
    unfold arC
    rcases hcs with ⟨hn, rfl⟩ | ⟨hn, hP, har⟩
    · rw [if_neg (fun z3 => by have := kn hn; simp only at this; rw [this] at z3; exact absurd z3 (by decide))]
      exact Nat.le_refl _
    · rw [if_pos (kc hn)]
      have hwo := ((hC.2.2.1 _ m1).1.1 _ m2).1.2.2
      simp only at hwo
      unfold qW at hw
      rw [if_neg hn] at hw
      unfold aAr
      rw [hwo, hw, tnI (tyP_31 ht0 _), tnI (by omega), hP, tnI (by omega)]
      exact Nat.le_refl _
set_option maxHeartbeats 1000000 in
set_option maxRecDepth 100000 in
theorem m_T_fol39 (wf : wfA P N pos) (wb : wfB P N) (wk : wfK P N) (tp : tmP P N tm ob T) (hC20 : C ≤ 20) (ht0 : t0 < 16) (hNC : N + C ≤ 511) (hg01 : ∀ k, k < C → P 12 k = 0 ∨ P 12 k = 1) (hP0 : ∀ t, t < 16 → ∃ v, v ≤ 9 ∧ P 0 t = nI v) (hAr : ∀ π w, ¬ P 0 (tyP P t0 π) ≤ 1 → w < tn (P 0 (tyP P t0 π)) - 1 → ∃ a, a ≤ 4 ∧ P 1 (8 * tyP P t0 π + w) = nI a)
    (hT : clT E a B SS P N t0 tm ob T C cp c u n sl ks [] sp ps qs ms nk Z st) {i q0 k0 : Nat} (hx : st.1[i]? = some x) (hZ : Z[i]? = some z) (hq : qs[i]? = some q0) {ar y : Nat} {kd : Int32} (hkk : k0 < 1000) (har : ar ≤ 4) (hC : pC P N pos t0 C W Dr an x z) (hE : pE P t0 u ps an x z) (hy : ps[z.2.2.1]? = some y) (hfl : st.2.2.1 < 999999) (hlg : st.2.2.2.2.2.2.2 ≤ 3000) (hfo : u.2.2.1 q0 11 = nI (k0 + 1))
    (hcs : (P 0 (tyP P t0 x.2.1) ≤ 1 ∧ ar = 0 ∧ kd = 0) ∨ (¬ P 0 (tyP P t0 x.2.1) ≤ 1 ∧ P 1 (8 * tyP P t0 x.2.1 + k0) = nI ar ∧ kd = 1 ∧ k0 < 8)) {ps1 : List Nat} (hA : ansP E a B SS c u n z.2.2.2.1 z.2.2.1 ar kd (qW P t0 x.1 x.2.1 k0) y ks sp ps qs ms c1 u2 n1 sl1 ps1)
    (kL : ∀ c' u' n' sl' sp' ps' st', (qL P t0 x.1 x.2.1 k0).length ≤ 80 → stL P t0 (anU an x.2.1 (qX P t0 x.1 x.2.1 k0)) (W.length + 1) (pPl P (W.length + 1) (qL P t0 x.1 x.2.1 k0).length (qL P t0 x.1 x.2.1 k0) st).1 (pPl P (W.length + 1) (qL P t0 x.1 x.2.1 k0).length (qL P t0 x.1 x.2.1 k0) st).2.1 = some st' → clT E a B SS P N t0 tm ob T C cp c' u' n' sl' ks [] sp' ps' qs ms nk Z st' → fwF c u n ps qs z st.1.length i (k0 + 1) c' u' n' ps' qs → Q (.inl (some (.int 1))) (yW E G a c' u' n' sl'))
    (kA : ∀ c' u' n' sl' sp' ps' qs' nk' bs' z' q' A r w ws Dr', (qL P t0 x.1 x.2.1 k0).length ≤ 80 → (pPl P (W.length + 1) (qL P t0 x.1 x.2.1 k0).length (qL P t0 x.1 x.2.1 k0) st).2.1 = A :: r → A.2.1 = w :: ws → ¬ (pPl P (W.length + 1) (qL P t0 x.1 x.2.1 k0).length (qL P t0 x.1 x.2.1 k0) st).1.1.length = 1000 → ¬ 800 < (pPl P (W.length + 1) (qL P t0 x.1 x.2.1 k0).length (qL P t0 x.1 x.2.1 k0) st).1.2.2.2.2.2.1 + (pPl P (W.length + 1) (qL P t0 x.1 x.2.1 k0).length (qL P t0 x.1 x.2.1 k0) st).2.1.length → clT E a B SS P N t0 tm ob T C cp c' u' n' sl' (ks ++ bs') [] sp' ps' qs' ms nk' (Z ++ [z']) (stQ (pPl P (W.length + 1) (qL P t0 x.1 x.2.1 k0).length (qL P t0 x.1 x.2.1 k0) st).2.1 w.1 (W.length + 1) (nI i) (nI k0) (pPl P (W.length + 1) (qL P t0 x.1 x.2.1 k0).length (qL P t0 x.1 x.2.1 k0) st).1) → fwF c u n ps qs z st.1.length i (k0 + 1) c' u' n' ps' qs' → pC P N pos t0 C (x.2.1 :: W) Dr' (anU an x.2.1 (qX P t0 x.1 x.2.1 k0)) ((pPl P (W.length + 1) (qL P t0 x.1 x.2.1 k0).length (qL P t0 x.1 x.2.1 k0) st).2.1, w.1, W.length + 1, nI i, nI k0) z' → Dr'.length = Dr.length + (pPl P (W.length + 1) (qL P t0 x.1 x.2.1 k0).length (qL P t0 x.1 x.2.1 k0) st).2.2.length → wyC P t0 u' ps' z'.2.2.2.1 z'.2.2.2.2.2 (anU an x.2.1 (qX P t0 x.1 x.2.1 k0)) → z.2.2.2.1 ≤ z'.2.2.2.1 → c'.1 16 = nI z'.2.2.2.1 → qs'[st.1.length]? = some q' → u'.2.2.1 q' 11 = 0 → Q (.inl (some (.int 1))) (yW E G a c' u' n' sl'))
    (kz : ∀ c' u' n' sl' ks' sp' ps' qs', (80 < (qL P t0 x.1 x.2.1 k0).length ∨ ∃ A r w ws, (pPl P (W.length + 1) (qL P t0 x.1 x.2.1 k0).length (qL P t0 x.1 x.2.1 k0) st).2.1 = A :: r ∧ A.2.1 = w :: ws ∧ ((pPl P (W.length + 1) (qL P t0 x.1 x.2.1 k0).length (qL P t0 x.1 x.2.1 k0) st).1.1.length = 1000 ∨ 800 < (pPl P (W.length + 1) (qL P t0 x.1 x.2.1 k0).length (qL P t0 x.1 x.2.1 k0) st).1.2.2.2.2.2.1 + (pPl P (W.length + 1) (qL P t0 x.1 x.2.1 k0).length (qL P t0 x.1 x.2.1 k0) st).2.1.length)) → hpOk E a B SS c' u' n' sl' ks' sp' ps' qs' ms → gF c u n c' u' n' → Q (.inl (some (.int 0))) (yW E G a c' u' n' sl')) : GT E Y_Tree_follow (d + 33) G0 39 [(0, .ref (a + 12)), (1, .int (nI i)), (2, .ref q0), (3, .int (nI k0)), (4, .int (qW P t0 x.1 x.2.1 k0))] [] (yW E G a c1 u2 n1 sl1) Q := by
  obtain ⟨t1, t2, t3, t4, t5, t6, t7, t8, t9, tA, tB, tC1, tD⟩ := id hT
  obtain ⟨q0', z', lA, lB, g1, g2, g3, g4, g5, g6⟩ := t4 i x hx
  rw [hq] at g1
  cases g1
  rw [hZ] at g2
  cases g2
  have bN := wf.1.1
  obtain ⟨a1, a2, a3, a4, a5, ⟨ee, a6⟩, a7, a8, a9, aA, aB, aC', aD, aE, aF'⟩ := id hA
  have hT1 : clT E a B SS P N t0 tm ob T C cp c1 u2 n1 sl1 ks [] sp ps1 qs ms nk Z st := clT_pl hT (by rw [List.append_nil]; exact a1) a2 a3 a4 (by rw [List.append_nil]; exact a5)
  obtain ⟨s1, s2, s3, s4, s5, s6, s7, s8, s9, sA, sB, sC1, sD⟩ := id hT1
  obtain ⟨q0', z', lA', lB', h1, h2, h3, h4, h5, h6⟩ := s4 i x hx
  rw [hq] at h1
  cases h1
  rw [hZ] at h2
  cases h2
  obtain ⟨f6, f0, f1, f2, f3, f4, -⟩ := id h5
  obtain ⟨z1, z2, z3, z4, z5, z6, z7, z8, z9⟩ := id h6
  have hx800 : x.1.length ≤ 800 := by
    have e1 := congrArg List.length h3
    have e2 := rcs_len h4
    rw [← z1, List.length_map, ← e2]
    simp only [List.length_append] at e1
    omega
  have h13 := s1.1.2.2.2.2.2.2.1
  rw [List.append_nil] at h13
  have hks := s1.1
  rw [List.append_nil] at hks
  have hcs2 : (P 0 (tyP P t0 x.2.1) ≤ 1 ∧ ar = 0) ∨ (¬ P 0 (tyP P t0 x.2.1) ≤ 1 ∧ P 1 (8 * tyP P t0 x.2.1 + k0) = nI ar ∧ ar ≤ 4) := by
    rcases hcs with ⟨w1, w2, -⟩ | ⟨w1, w2, -⟩
    · exact Or.inl ⟨w1, w2⟩
    · exact Or.inr ⟨w1, w2, har⟩
  obtain ⟨m1, m2⟩ := fol_map (kd := fun t => u2.2.2.1 t 1) (on := fun t => u2.2.2.1 t 5) wf wb wk tp (tW_kd s2) ht0 h6 hC hx800 hkk hcs2
  have hml : (ansC P z.2.2.1 z.2.2.2.1 (qW P t0 x.1 x.2.1 k0) z.2.1).length = (qL P t0 x.1 x.2.1 k0).length := by rw [← m1, List.length_map]
  have hwa : wyC P t0 u2 ps1 (z.2.2.2.1 + ar) (plcX z.2.2.2.1 z.2.2.2.2.2 x.2.1 k0) (anU an x.2.1 (qX P t0 x.1 x.2.1 k0)) ∧ (∀ j, j < z.2.2.2.1 + ar → ∀ ρ e, plcX z.2.2.2.1 z.2.2.2.2.2 x.2.1 k0 j = ρ ++ [e] → ρ ∈ x.2.1 :: W) ∧ z.2.2.2.1 + ar ≤ 1 + 4 * (x.2.1 :: W).length := by
    rcases hcs with ⟨w1, rfl, rfl⟩ | ⟨w1, w2, rfl, w3⟩
    · have K := wy_ans (w := 0) (xx := qX P t0 x.1 x.2.1 k0) (by omega) g6 hC hE hy t1.2.2.2.2.2.2.1 (by omega) (by omega) (Or.inl ⟨by unfold qX; rw [if_pos w1], rfl, rfl⟩) hA
      obtain ⟨⟨k1, k2, k3, k4, k5⟩, k6, k7⟩ := K
      have ep : ∀ j, j < z.2.2.2.1 + 0 → plcX z.2.2.2.1 z.2.2.2.2.2 x.2.1 0 j = plcX z.2.2.2.1 z.2.2.2.2.2 x.2.1 k0 j := fun j hj => by rw [plcX_lt (X := z.2.2.2.1) hj, plcX_lt (X := z.2.2.2.1) hj]
      refine ⟨⟨fun j hj => ?_, k2, k3, by rw [← ep 0 k2]; exact k4, fun i j hi hj e => k5 i j hi hj (by rw [ep i hi, ep j hj]; exact e)⟩, fun j hj ρ e h => k6 j hj ρ e (by rw [ep j hj]; exact h), k7⟩
      obtain ⟨v, v1, v2, v3⟩ := k1 j hj
      rw [ep j hj] at v2 v3
      refine ⟨v, v1, v2, ?_⟩
      rcases v3 with v3 | v3 | ⟨w, f, ar, p1, p2, p3, p4, p5, p6, p7, p8, p9, pA⟩
      · exact Or.inl v3
      · exact Or.inr (Or.inl v3)
      · exact Or.inr (Or.inr ⟨w, f, ar, p1, p2, p3, p4, p5, p6, p7, p8, p9, fun k hk => by rw [← ep (f + k) (by omega)]; exact pA k hk⟩)
    · exact wy_ans (w := k0) (xx := qX P t0 x.1 x.2.1 k0) (by omega) g6 hC hE hy t1.2.2.2.2.2.2.1 har w3 (Or.inr ⟨by unfold qX; rw [if_neg w1], rfl, by unfold qW; rw [if_neg w1], w2⟩) hA
  obtain ⟨hwy1, hwy2, hwy3⟩ := hwa
  have hWd1 := pWd_ask (x := qX P t0 x.1 x.2.1 k0) hC.1 hC.2.2.2.1 hC.2.2.2.2.1 hC.2.2.2.2.2.1 hC.2.2.2.2.2.2.1
  have bW := nd_le hWd1.1 (fun π h => (hWd1.2.1 π h).1)
  simp only [List.length_cons] at bW
  have hok1 : anOk P t0 (anU an x.2.1 (qX P t0 x.1 x.2.1 k0)) := anOk_U hC.2.1 (by
    rcases hcs with ⟨w1, -⟩ | ⟨w1, w2, -, w3⟩
    · exact Or.inl (by unfold qX; rw [if_pos w1])
    · exact Or.inr ⟨k0, ar, w3, by unfold qX; rw [if_neg w1], har, w2, hC.2.2.2.2.2.2.2.2.1⟩)
  have h24 : ∀ π, ¬ ((anU an x.2.1 (qX P t0 x.1 x.2.1 k0)) π).1 = 0 → π.length ≤ 23 := fun π h => (hWd1.2.1 π (hWd1.2.2.2.2 π h)).2.1
  have hdk : dOk P t0 (anU an x.2.1 (qX P t0 x.1 x.2.1 k0)) 26 [] := dOk_all (W := x.2.1 :: W) (fun π h => ⟨hWd1.2.2.2.2 π h, h24 π h⟩) 26 [] (by decide) (by decide)
  have hal := aT_bound (t0 := t0) hok1 (show N ≤ 512 by omega) (fun π h => (hWd1.2.1 π (hWd1.2.2.2.2 π h)).1) 26 []
  have hqW : ∀ A ∈ (qL P t0 x.1 x.2.1 k0), pRk P N pos t0 C (x.2.1 :: W) Dr A := aAns_way wf ht0 hC.2.2.2.1 hC.2.2.2.2.2.2.1 (fun σ h => (hC.1.2.1 σ h).2.2) x.1 hC.2.2.1 (fun A hA y hy e h => (pC_kd wf wk ht0 hC A hA y hy e).2 (fun zz => h (if_pos zz)))
  have KP := m_S_putAnswer (E := E) (d := d + 23) (G := G) (wh := qW P t0 x.1 x.2.1 k0) (lA := lA') (qs := z.1) (lB := lB') (q0 := q0) (p := z.2.2.1) (fp := z.2.2.2.1) (R := z.2.1) wf wb wk tp s2 (by rw [← h3]; exact sA) (by rw [← h3]; exact hks) (rws_w z5 (by omega)) (by omega) (by omega) f6 f0 f1 f2 f4 h4
  rw [← h3] at KP
  have hfw0 : ∀ j q, j < st.1.length → qs[j]? = some q → u2.2.2.1 q 11 = u.2.2.1 q 11 := fun j q hj hqj => by
    have hz := lOk_get t1.2.2.1 hqj
    rw [(a3.2 q hz.2.2.2.2.2 (by rw [hz.2.2.2.2.1.1]; decide) (by rw [hz.2.2.2.2.1.1]; decide)).2.1]
  have hpsm : ∀ j v, ps[j]? = some v → ps1[j]? = some v := fun j v hv => by
    rw [a6, List.getElem?_append_left (List.getElem?_eq_some_iff.mp hv).1]
    exact hv
  have hpl1 : ps.length ≤ ps1.length := by rw [a6, List.length_append]; omega
  have hgp := gF_p a2 a3 a4
  refine g_aload_n d_Tree_follow_39 rfl ?_
  refine x_get (k := 12) (j := 2) (v := .ref (a + 13)) kc_Tree fl_Tree_12 (by decide) (by decide) rfl rfl d_Tree_follow_40 ?_
  refine c_Vr (as := []) kv_Rows_size ml_Tree_122 rfl (x_at (k := 13) (by decide) rfl) (m_S_size) rfl (Nat.le_of_ble_eq_true rfl) rfl d_Tree_follow_43 rfl ?_
  rw [h13]
  refine g_istore d_Tree_follow_46 (by decide) rfl ?_
  refine g_aload_n d_Tree_follow_48 rfl ?_
  refine x_get (k := 12) (j := 2) (v := .ref (a + 13)) kc_Tree fl_Tree_12 (by decide) (by decide) rfl rfl d_Tree_follow_49 ?_
  refine g_aload_n d_Tree_follow_52 rfl ?_
  refine g_iload d_Tree_follow_53 rfl ?_
  refine c_V (as := [.ref (q0), .int (qW P t0 x.1 x.2.1 k0)]) kv_Rows_putAnswer ml_Tree_126 rfl (x_at (k := 13) (by decide) rfl) (KP) rfl (Nat.le_of_ble_eq_true rfl) rfl d_Tree_follow_55 (fun v_55 G_55 h_55 => ?_) (fun D_55 G_55 h_55 => by rcases h_55 with ⟨h, -⟩ | ⟨h, -⟩ <;> cases h)
  rcases h_55 with ⟨ho, c3, u3, n3, sl3, sp3, bs, rfl, B3, hc3⟩ | ⟨ho, hbad, c3, u3, n3, sl3, sp3, bs, rfl, B3⟩
  · cases ho
    have hp3 := hpOk_rows s1 (by rw [← List.append_nil ks] at B3; simp only [List.append_nil] at B3; exact B3.1) B3.2.1 B3.2.2.1 B3.2.2.2.1
    have hT3 := clT_rows (bs' := bs) hT1 hp3 B3.2.1 B3.2.2.1 B3.2.2.2.1 B3.2.2.2.2.1
    obtain ⟨r1, r2⟩ := tFr_r (D := st.1.length) s1 B3.2.1 B3.2.2.1 B3.2.2.2.1
    have hlen3 := rcs_len hc3
    have h80 := B3.2.2.2.2.2
    have hfr : ∀ (c' : cS) (u' : uS) (n' : Nat) (qs' : List Nat), tFr c3 u3 n3 qs st.1.length c' u' n' qs' → plS c3 u3 n3 c' u' → fwF c u n ps qs z st.1.length i (k0 + 1) c' u' n' ps1 qs' := fun c' u' n' qs' w1 w2 => by
      have w3 := tFr_tr r1 w1 (Nat.le_refl _)
      have w4 := plS_tr r2 w2 r1.1.2.2.2.2.1 r1.1.2.2.2.2.2
      refine ⟨gF_tr hgp w3.1, fun j q hj hqj => ?_, fun j hj hjp => plE_eq (fun v hv => ?_), fun v hv => ?_, hpl1⟩
      · obtain ⟨v1, v2⟩ := w3.2 j q hj hqj
        refine ⟨v1, fun _ => v2.trans (hfw0 j q hj hqj), fun e => ?_⟩
        subst e
        rw [hq] at hqj
        cases hqj
        rw [v2, hfw0 j q0 hj hq]
        exact hfo
      · have hv1 := hpsm j v hv
        have hz := lOk_get s1.2.1 hv1
        refine ⟨hv1, ?_⟩
        rw [w4.2 v hz.2.2.2.2.1.1 hz.2.2.2.2.2]
        exact a7 j v hj hjp hv
      · rw [hy] at hv
        cases hv
        have hv1 := hpsm _ _ hy
        have hz := lOk_get s1.2.1 hv1
        refine ⟨hv1, ?_⟩
        rw [w4.2 y hz.2.2.2.2.1.1 hz.2.2.2.2.2]
        exact aB
    have hrel : zR1 P t0 Z st.1 st.1.length (nI i) (nI k0) (z.2.2.2.1 + ar) (plcX z.2.2.2.1 z.2.2.2.2.2 x.2.1 k0) := by
      have hil := (List.getElem?_eq_some_iff.mp hx).1
      refine ⟨fun e => absurd e (nI_ne1 (by omega)), fun i' xi zi k' hi' hk' e1 e2 e3 e4 => ?_⟩
      obtain rfl : i = i' := Decidable.byContradiction (fun ne => nI_ne ne (by omega) (by omega) e1)
      obtain rfl : k0 = k' := Decidable.byContradiction (fun ne => nI_ne ne (by omega) hk' e2)
      rw [hx] at e3
      cases e3
      rw [hZ] at e4
      cases e4
      refine ⟨?_, fun _ _ => rfl⟩
      unfold arq
      rcases hcs with ⟨w1, rfl, -⟩ | ⟨w1, w2, -⟩
      · rw [if_pos w1]
      · rw [if_neg w1, w2, tnI (by omega)]
    have KPL := m_T_plant (E := E) (d := d) (G := G) (way := W.length + 1) (up := nI i) (via := nI k0) (X := z.2.2.2.1 + ar) (plc := plcX z.2.2.2.1 z.2.2.2.2.2 x.2.1 k0) (an := (anU an x.2.1 (qX P t0 x.1 x.2.1 k0))) (W := x.2.1 :: W) (Dr := Dr) (Q := fun o G' => (o = .inl (some (.int 1)) ∧ Q o G') ∨ (o = .inl (some (.int 0)) ∧ Q o G')) (c := c3) (u := u3) (n := n3) (sl := sl3) wf wb wk tp hC20 ht0 hg01 h24 hdk (by omega) (by omega) hT3 hc3 m2 (by rw [hml]; omega) (by rw [r2.1]; exact a8) (wyC_S hwy1 s1.2.1 r2) (by rw [m1]; exact hqW) hC.1.2.2.1 hC.1.2.2.2.1 (by omega) hlg (Or.inr ⟨i, x, hx, rfl, by rw [hC.2.2.2.2.2.2.2.2.2.1]⟩) hrel
    rw [m1, hml] at KPL
    have KPL2 := KPL (fun c' u' n' sl' sp' st' w1 w2 w3 w4 => Or.inl ⟨rfl, kL c' u' n' sl' sp' ps1 st' (by omega) w1 w2 (hfr c' u' n' qs w3 w4)⟩) (fun c' u' n' sl' sp' qs' nk' bs' ow p k ws bd Lr q w1 w2 w3 w4 w5 w6 w7 w8 => ?_) (fun c' u' n' sl' ks' sp' qs' w1 w2 w3 => Or.inr ⟨rfl, kz c' u' n' sl' ks' sp' ps1 qs' (Or.inr w1) w2 (gF_tr hgp (gF_tr r1.1 w3))⟩)
    rotate_left
    · obtain ⟨Dr', v1, v2, v3, v4⟩ := pPl_way (way := W.length + 1) (qL P t0 x.1 x.2.1 k0).length (qL P t0 x.1 x.2.1 k0) st Dr hqW hC.1.2.2.1 hC.1.2.2.2.1
      have hWd2 : pWd N pos C (x.2.1 :: W) Dr' (anU an x.2.1 (qX P t0 x.1 x.2.1 k0)) := ⟨hWd1.1, hWd1.2.1, v1, v2, hWd1.2.2.2.2⟩
      refine Or.inl ⟨rfl, kA c' u' n' sl' sp' ps1 qs' nk' bs' _ q (rP (plcX z.2.2.2.1 z.2.2.2.2.2 x.2.1 k0) (ow, (p, k) :: ws, bd)) (Lr.map (rP (plcX z.2.2.2.1 z.2.2.2.2.2 x.2.1 k0))) (plcX z.2.2.2.1 z.2.2.2.2.2 x.2.1 k0 p, k) (ws.map (fun q => (plcX z.2.2.2.1 z.2.2.2.2.2 x.2.1 k0 q.1, q.2))) Dr' (by omega) w1 rfl w2 w3 w4 (hfr c' u' n' qs' w5 w6) (pC_new (z := (bs', (ow, (p, k) :: ws, bd) :: Lr, p, z.2.2.2.1 + ar, nk, plcX z.2.2.2.1 z.2.2.2.2.2 x.2.1 k0)) (up := nI i) (via := nI k0) wf wk ht0 w1 rfl hWd2 hok1 v3 hwy2 hwy3) v4 (wyC_S (wyC_S hwy1 s1.2.1 r2) hT3.1.2.1 w6) (Nat.le_add_right _ _) ?_ w7 w8⟩
      rw [w6.1, r2.1]
      exact a8
    refine g_if_eq (tgt := 76) d_Tree_follow_58 (by decide) (fun c_58 => absurd c_58 (by decide)) (fun c_58 => ?_)
    refine g_aload_n d_Tree_follow_61 rfl ?_
    refine g_iload_n d_Tree_follow_62 rfl ?_
    refine g_iload_n d_Tree_follow_63 rfl ?_
    refine g_iload d_Tree_follow_64 rfl ?_
    refine c_V (as := [.int (nI i), .int (nI k0), .int (nI ks.length)]) kv_Tree_plant ml_Tree_58 rfl (x_at (k := 12) (by decide) rfl) (KPL2) rfl (Nat.le_of_ble_eq_true rfl) rfl d_Tree_follow_66 (fun v_66 G_66 h_66 => ?_) (fun D_66 G_66 h_66 => by rcases h_66 with ⟨h, -⟩ | ⟨h, -⟩ <;> cases h)
    rcases h_66 with ⟨ho, hQ⟩ | ⟨ho, hQ⟩
    · cases ho
      refine g_if_eq (tgt := 76) d_Tree_follow_69 (by decide) (fun c_69 => absurd c_69 (by decide)) (fun c_69 => ?_)
      refine g_iconst (v := 1) d_Tree_follow_72 (by decide) ?_
      refine g_goto (tgt := 77) d_Tree_follow_73 (by decide) ?_
      refine g_zret rfl rfl d_Tree_follow_77 ?_
      exact hQ
    · cases ho
      refine g_if_eq (tgt := 76) d_Tree_follow_69 (by decide) (fun c_69 => ?_) (fun c_69 => absurd c_69 (by decide))
      refine g_iconst (v := 0) d_Tree_follow_76 (by decide) ?_
      refine g_zret rfl rfl d_Tree_follow_77 ?_
      exact hQ
  · cases ho
    rw [hml] at hbad
    refine g_if_eq (tgt := 76) d_Tree_follow_58 (by decide) (fun c_58 => ?_) (fun c_58 => absurd c_58 (by decide))
    refine g_iconst (v := 0) d_Tree_follow_76 (by decide) ?_
    refine g_zret rfl rfl d_Tree_follow_77 ?_
    have hp3 := hpOk_rows s1 B3.1 B3.2.1 B3.2.2.1 B3.2.2.2.1
    exact kz c3 u3 n3 sl3 _ sp3 ps1 qs (Or.inl (by omega)) hp3 (gF_tr hgp (gF_r B3.2.1 B3.2.2.1 B3.2.2.2.1))
end CO
