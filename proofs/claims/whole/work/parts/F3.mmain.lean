/-! The reference's match: its loop gives lp -/
section ND
variable {E : gE} {d : Nat} {G G0 : gS} {m n : Nat} {s s' s1 : mS} {Q : gO → gS → Prop} {P : Nat → Nat → Int32} {N X X' t0 C : Nat} {pos pl pl' : Nat → List Nat} {W : List (List Nat)} {Dr as : List Nat} {V : Nat → Prop} {L : List pRow} {first p : Nat} {π : List Nat} {st : aSt} {an : aAn}
theorem mt_mapR {v0 : Nat} {R R' : Option pRow × List Nat} (e : R = R') : mtZ E G m n P N t0 pos st v0 s R = mtZ E G m n P N t0 pos st v0 s R' := by rw [e]
/-- behind the rows of an answer, with the values set: the invariant again -/
theorem mt_next (wf : wfA P N pos) (wk : wfK P N) (ht0 : t0 < 16) (hV : vOkN P N V) {v0 : Nat} (h0 : V v0) (hv4 : P 4 v0 = nI t0) {A : pRow} {r : List pRow} {w : List Nat × Nat} {ws : List (List Nat × Nat)} {i k0 : Nat} {s2 s3 : mS} {md wh is : Int32} (hI : mtI P N t0 C pos v0 st W Dr as (A :: r) first s pl X) (hA : A.2.1 = w :: ws)
    (hmd : md = 0 ∨ P 3 (vAt P v0 w.1) = 2) (hwh : wh = P 5 (vAt P v0 w.1)) (hkd : ∀ B ∈ A :: r, ∀ q ∈ B.2.1, q.1 = w.1 → ¬ md = 0 → P 3 q.2 = 2)
    (hsa : ∀ j, j ≠ 37 → j ≠ 39 → s1.2 j = s.2 j) (hsf : ∀ k, k ≠ 54 → s1.1 k = s.1 k) (h54 : s1.1 54 = nI (as.length + 1)) (h37 : ∀ j y, (as ++ [i])[j]? = some y → s1.2 37 j = nI y)
    (hq : qA P N t0 pos pl X (first + (A :: r).length) (aAns P w.1 md wh is (A :: r)) s1 s2) (hl : (aAns P w.1 md wh is (A :: r)).length ≤ 80)
    (hva : ∀ j, j ≠ 25 → s3.2 j = s2.2 j) (hvf : s3.1 = s2.1) (hp : p < X) (hpπ : pl p = w.1)
    (hv0 : ∀ q, (∀ i, i < (if md = 0 then 0 else aAr P (vAt P v0 w.1)) → ¬ (0 < q ∧ s2.2 22 (32 * p + 4 * tn wh + i) = nI q)) → s3.2 25 q = s2.2 25 q)
    (hv1 : ∀ pl' X', plOk s2 P N t0 pos pl' X' → ∀ i q, i < (if md = 0 then 0 else aAr P (vAt P v0 w.1)) → 0 < q → q < X' → s2.2 22 (32 * p + 4 * tn wh + i) = nI q → s3.2 25 q = s2.2 6 (4 * vAt P v0 w.1 + i)) :
    ∃ pl' X', mtI P N t0 C pos v0 st (w.1 :: W) Dr (as ++ [i]) (aAns P w.1 md wh is (A :: r)) (first + (A :: r).length) s3 pl' X' ∧ mzF s s3 ∧ s3.1 46 = nI (first + (A :: r).length + (aAns P w.1 md wh is (A :: r)).length) := by
  obtain ⟨i1, i2, i3, i4, i5, i6, i7, i8, i9, i10, i11, i12, i13, i14, i15⟩ := hI
  obtain ⟨pl', X', q1, q2, q3, q4⟩ := hq
  have bN := wf.1.1
  have bX' := plOk_X q1
  have hXX' : X ≤ X' := q3.2.2.2.2.2
  rcases q4 with ⟨q4, -⟩ | ⟨-, q5, q6, q7⟩
  · omega
  have hvw : vP P v0 w.1 := i9 A List.mem_cons_self w.1 (Or.inl ⟨w, by rw [hA]; exact List.mem_cons_self, rfl⟩)
  have hvV := vAt_V hV w.1 v0 h0 hvw
  obtain ⟨hvN, hvk, -⟩ := hV _ hvV
  obtain ⟨e4, e16⟩ := vAt_ty wf hV ht0 h0 hv4 w.1 hvw
  have hpC := pC_new (z := ([], [], 0, 0, 0, fun _ => [])) (up := 0) (via := 0) (an := an0) wf wk ht0 rfl hA i7 (fun π => Or.inl rfl) i8 (fun j hj => absurd hj (Nat.not_lt_zero j)) (Nat.zero_le _)
  have hπW : ¬ w.1 ∈ W := hpC.2.2.2.1
  have hWd1 := pWd_ask (x := ((0 : Int32), (0 : Int32))) i7 hπW hpC.2.2.2.2.1 hpC.2.2.2.2.2.1 hpC.2.2.2.2.2.2.1
  have hWd2 : pWd N pos C (w.1 :: W) Dr an0 := ⟨hWd1.1, hWd1.2.1, hWd1.2.2.1, hWd1.2.2.2.1, fun π h => absurd rfl h⟩
  have hway := aAns_way (md := md) (wh := wh) (is := is) wf ht0 hπW hpC.2.2.2.2.2.2.1 (fun σ hσ ρ e h => (i7.2.1 σ hσ).2.2 ρ e h) (A :: r) i8 hkd
  -- the new paths
  have newp : ∀ B ∈ A :: r, ∀ k, (w.1, k) ∈ B.2.1 → P 5 k = wh → ¬ md = 0 → aAr P k = aAr P (vAt P v0 w.1) ∧ P 3 (vAt P v0 w.1) = 2 := fun B hB k hk h5 hm => by
    have hwk := ((i8 B hB).1.1 _ hk).1
    refine ⟨?_, hmd.resolve_left hm⟩
    unfold aAr
    rw [e4, h5, hwh, hwk.2.2]
  have tw : ∀ (hm : P 3 (vAt P v0 w.1) = 2), ∃ y, y < 8 ∧ wh = nI y ∧ tn wh = y := fun hm => by
    obtain ⟨⟨y, y8, ey⟩, -⟩ := (wf.2.2 _ hvN).2.2.2 hm
    exact ⟨y, y8, hwh.trans ey, by rw [hwh, ey]; exact tnI (by omega)⟩
  have key : ∀ B ∈ aAns P w.1 md wh is (A :: r), ∀ ρ, mnP B ρ → (∃ D ∈ A :: r, mnP D ρ) ∨ (∃ i, ¬ md = 0 ∧ i < aAr P (vAt P v0 w.1) ∧ ρ = w.1 ++ [4 * tn wh + i]) := fun B hB ρ hρ => by
    rcases aAns_m _ B hB ρ hρ with h | ⟨D, hD, k, hk, h5, hm, i, hi, e⟩
    · exact Or.inl h
    · refine Or.inr ⟨i, hm, ?_, e⟩
      rw [(newp D hD k hk h5 hm).1] at hi
      exact hi
  have ar4 : P 3 (vAt P v0 w.1) = 2 → aAr P (vAt P v0 w.1) ≤ 4 := fun h => ((wf.2.2 _ hvN).2.2.2 h).2.1
  have keyv : ∀ B ∈ aAns P w.1 md wh is (A :: r), ∀ ρ, mnP B ρ → vP P v0 ρ := fun B hB ρ hρ => by
    rcases key B hB ρ hρ with ⟨D, hD, h⟩ | ⟨i, hm, hi, e⟩
    · exact i9 D hD ρ h
    · have h2 := hmd.resolve_left hm
      have := ar4 h2
      rw [e]
      refine (vP_app w.1 v0 _).mpr ⟨hvw, h2, by rw [hwh]; omega, by rw [show (4 * tn wh + i) % 4 = i by omega]; exact hi⟩
  have he1 : eSt P N t0 pos pl X an0 st s1 := eSt_eq i1 (fun j hj => hsa j (by omega) (by omega)) (fun k a b c => hsf k (by omega))
  have he2 : eSt P N t0 pos pl' X' an0 st s2 := ⟨sPA_A he1.1 q3, q1, anS_B he1.2.2.1 q3 q1 q2, rS_B he1.2.2.2.1 q3, q5⟩
  have he3 : eSt P N t0 pos pl' X' an0 st s3 := eSt_eq he2 (fun j hj => hva j (by omega)) (fun k _ _ _ => by rw [hvf])
  have hpl2 : pl' p = w.1 := by rw [q2 p hp]; exact hpπ
  have len26 : ∀ B ∈ aAns P w.1 md wh is (A :: r), B.2.1.length ≤ 26 := fun B hB => by have := rOk_len wf (hway B hB).1; omega
  have hrow3 : hPs s3 pl' X' (first + (A :: r).length) (aAns P w.1 md wh is (A :: r)) := hPs_eq q7 len26 (fun j a b => hva j (by omega))
  have hvr2 : vR s2 (first + (A :: r).length) := vR_fr (vR_fr i3 (fun R _ => sR_eq (s' := s1) (fun j a b => hsa j (by omega) (by omega)))) q3.2.2.1
  have hvr3 : vR s3 (first + (A :: r).length) := vR_fr hvr2 (fun R _ => sR_eq (fun j a b => hva j (by omega)))
  refine ⟨pl', X', ⟨he3, hrow3, vR_add wf hvr3 hrow3 (fun B hB => (hway B hB).1), by rw [hvf]; exact q6, hl, ?_, hWd2, hway, keyv, ?_, ?_, ?_, ?_, ?_, ?_⟩, ?_, by rw [hvf]; exact q6⟩
  · simp only [List.length_cons] at i5 ⊢
    omega
  · intro σ hσ
    rcases List.mem_cons.mp hσ with rfl | hσ
    · exact hvw
    · exact i10 σ hσ
  · intro B hB ρ hρ
    rcases key B hB ρ hρ with ⟨D, hD, h⟩ | ⟨i, hm, hi, e⟩
    · obtain ⟨p1, a1, a2, a3⟩ := i11 D hD ρ h
      refine ⟨p1, by omega, by rw [q2 p1 a1]; exact a2, ?_⟩
      have old : s2.2 25 p1 = nI (vAt P v0 ρ) := by
        rw [q3.1 25 (by omega), hsa 25 (by decide) (by decide)]
        exact a3
      by_cases hit : ∃ i, i < (if md = 0 then 0 else aAr P (vAt P v0 w.1)) ∧ (0 < p1 ∧ s2.2 22 (32 * p + 4 * tn wh + i) = nI p1)
      · obtain ⟨i, hi, hp0, h22⟩ := hit
        rw [hv1 pl' X' q1 i p1 hi hp0 (by omega) h22]
        split at hi
        · omega
        · rename_i hm
          have h2 := hmd.resolve_left hm
          obtain ⟨y, y8, ey, ty⟩ := tw h2
          have := ar4 h2
          rcases (q1.2.2.2.1 p (by omega)).2.2 (4 * tn wh + i) (by omega) with z | ⟨p2, b0, b1, b2, b3⟩
          · rw [show 32 * p + 4 * tn wh + i = 32 * p + (4 * tn wh + i) by omega, z] at h22
            have h3 := congrArg tn h22
            rw [tnI (by omega)] at h3
            have : (0 : Nat) = p1 := h3
            omega
          · rw [show 32 * p + 4 * tn wh + i = 32 * p + (4 * tn wh + i) by omega, b2] at h22
            have h3 := congrArg tn h22
            rw [tnI (by omega), tnI (by omega)] at h3
            rw [h3, q2 p1 a1, a2, hpl2] at b3
            rw [b3, vAt_app, show (4 * tn wh + i) % 4 = i by omega]
            rw [he2.1 6 (by omega)]
            exact (v_part wf hV hvV h2 hi).2.2
      · rw [hv0 p1 (fun i hi hh => hit ⟨i, hi, hh⟩)]
        exact old
    · have h2 := hmd.resolve_left hm
      obtain ⟨y, y8, ey, ty⟩ := tw h2
      have := ar4 h2
      -- the place of this path
      have hpl' : ∃ p1, p1 < X' ∧ pl' p1 = ρ := by
        obtain ⟨j, hj⟩ := List.getElem?_of_mem hB
        obtain ⟨ws', bd', -, e1, e2, b1, b2⟩ := q7 j B hj
        rcases hρ with ⟨q, hq, eq⟩ | ⟨k, hk⟩
        · rw [e1] at hq
          obtain ⟨y', hy', rfl⟩ := List.mem_map.mp hq
          exact ⟨y'.1, b1 y' hy', eq⟩
        · rw [e2] at hk
          obtain ⟨p1, hp1, e3⟩ := Option.map_eq_some_iff.mp hk
          exact ⟨p1, b2 k p1 hp1, e3⟩
      obtain ⟨p1, a1, a2⟩ := hpl'
      have hp0 : 0 < p1 := by
        rcases Nat.eq_zero_or_pos p1 with z | z
        · rw [z, q1.2.2.1, e] at a2
          exact absurd (congrArg List.length a2) (by simp)
        · exact z
      obtain ⟨pp, ee, c1, c2, c3, c4⟩ := (q1.2.2.2.2.2 p1 hp0 a1).2
      have e5 : pl' pp ++ [ee] = w.1 ++ [4 * tn wh + i] := by rw [← c3, a2, e]
      obtain ⟨e6, e7⟩ := app_inj e5
      have e8 : pp = p := q1.2.2.2.2.1 pp p (by omega) (by omega) (e6.trans hpl2.symm)
      rw [e8, e7] at c4
      refine ⟨p1, a1, a2, ?_⟩
      rw [hv1 pl' X' q1 i p1 (by rw [if_neg hm]; exact hi) hp0 a1 (by rw [show 32 * p + 4 * tn wh + i = 32 * p + (4 * tn wh + i) by omega]; exact c4), e, vAt_app, show (4 * tn wh + i) % 4 = i by omega, he2.1 6 (by omega)]
      exact (v_part wf hV hvV h2 hi).2.2
  · rw [hvf, q3.2.1 54 (by decide) (by decide) (by decide), h54]
    simp
  · simp [i13]
  · intro j y hj
    rw [hva 37 (by decide), q3.1 37 (by omega)]
    exact h37 j y hj
  · intro k hk
    rw [hva 38 (by decide), q3.1 38 (by omega), hsa 38 (by decide) (by decide)]
    exact i15 k hk
  · refine ⟨fun j hj => ?_, fun k a b c e => ?_⟩
    · rw [hva j (by omega), q3.1 j (by omega), hsa j (by omega) (by omega)]
    · rw [hvf, q3.2.1 k a b c, hsf k e]
end ND
