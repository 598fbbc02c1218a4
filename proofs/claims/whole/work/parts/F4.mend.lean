/-! The reference's match gives lp -/
section NE
variable {E : gE} {d : Nat} {G G0 : gS} {m n : Nat} {s s' s1 : mS} {Q : gO → gS → Prop} {P : Nat → Nat → Int32} {N X X' t0 C : Nat} {pos pl pl' : Nat → List Nat} {W : List (List Nat)} {Dr as : List Nat} {V : Nat → Prop} {L : List pRow} {first p : Nat} {π : List Nat} {st : aSt} {an : aAn} {cp : Nat → Nat}
set_option maxHeartbeats 1000000 in
theorem mt_loop (hmn : m < n) (wf : wfA P N pos) (wk : wfK P N) (ht0 : t0 < 16) (hC20 : C ≤ 20) (hV : vOkN P N V) {v0 : Nat} (h0 : V v0) (hv4 : P 4 v0 = nI t0) (hv60 : tn (P 7 v0) ≤ 60) (h09 : ∀ t, tn (P 0 t) ≤ 9) (bQ : st.1.length ≤ 1000)
    (hB : ∀ i q, st.1[i]? = some q → q.1.length ≤ 800 ∧ ∀ k, k < qN P t0 q.1 q.2.1 → bhd P st.1 (nI i) (nI k) (qL P t0 q.1 q.2.1 k) ∧ (qL P t0 q.1 q.2.1 k).length ≤ 80) {gs : Int32} {s0 : mS} :
    ∀ (f K : Nat) (L L0 : List pRow) (first : Nat) (up via : Int32) (W : List (List Nat)) (Dr as : List Nat) (s : mS) (pl : Nat → List Nat) (X : Nat), L.length ≤ K → 61 ≤ f + W.length → hDr P gs L0.length L0 = hDr P gs L.length L → bhd P st.1 up via L0 → mtI P N t0 C pos v0 st W Dr as L first s pl X → mzF s0 s →
    GT E Y_Model_match (d + 4) G0 115 [(0, .ref m), (1, .int gs), (2, .int 1), (3, .int (nI first)), (4, .int (nI L.length)), (5, .int up), (6, .int via)] [] (mW E G m n s) (mtZ E G m n P N t0 pos st v0 s0 (lp P t0 st.1 gs v0 f L0 up via as)) := by
  have bN := wf.1.1
  intro f
  induction f with
  | zero =>
    intro K L L0 first up via W Dr as s pl X _ hf _ _ hI _
    have := wW_le wf hV h0 hv60 hI.2.2.2.2.2.2.1.1 hI.2.2.2.2.2.2.2.2.2.1
    omega
  | succ f ih =>
    intro K
    induction K with
    | zero =>
      intro L L0 first up via W Dr as s pl X hK hf hD hb hI hF
      have eL : L = [] := List.length_eq_zero_iff.mp (Nat.le_zero.mp hK)
      subst eL
      have hW60 := wW_le wf hV h0 hv60 hI.2.2.2.2.2.2.1.1 hI.2.2.2.2.2.2.2.2.2.1
      have elp : lp P t0 st.1 gs v0 (f + 1) L0 up via as = (none, as) := by
        simp only [lp]
        rw [hD]
        rfl
      rw [elp]
      obtain ⟨i1, i2, i3, i4, i5, i6, i7, i8, i9, i10, i11, i12, i13, i14, i15⟩ := hI
      exact m_W_mt_e hmn (Int32.le_refl _) ⟨s, pl, X, rfl, i1, hF, i12, by show as.length ≤ 60; omega, i14, Or.inl ⟨rfl, rfl, i15⟩⟩
    | succ K ihK =>
      intro L L0 first up via W Dr as s pl X hK hf hD hb hI hF
      have hW60 := wW_le wf hV h0 hv60 hI.2.2.2.2.2.2.1.1 hI.2.2.2.2.2.2.2.2.2.1
      have hDr20 := nd_leN hI.2.2.2.2.2.2.1.2.2.1 hI.2.2.2.2.2.2.1.2.2.2.1
      obtain ⟨i1, i2, i3, i4, i5, i6, i7, i8, i9, i10, i11, i12, i13, i14, i15⟩ := id hI
      cases L with
      | nil => exact ihK [] L0 first up via W Dr as s pl X (Nat.zero_le _) hf hD hb hI hF
      | cons A r =>
      have hA8 := i8 A List.mem_cons_self
      have len26 : ∀ B ∈ A :: r, B.2.1.length ≤ 26 := fun B hB' => by have := rOk_len wf (i8 B hB').1; omega
      have hrowA : hP s pl X first A := by
        have := i2 0 A rfl
        rw [Nat.add_zero] at this
        exact this
      obtain ⟨r26, r27, r28⟩ := row_first hrowA (len26 A List.mem_cons_self)
      have bX := plOk_X i1.2.1
      have bl : (A :: r).length = r.length + 1 := rfl
      have hsA := i1.1
      cases hAw : A.2.1 with
      | nil =>
        rw [hAw] at r27
        have bA20 : A.1 < 20 := by have := hA8.2.1; omega
        have fin : ¬ (A.2.1 = [] ∧ ¬ P 12 A.1 = 0 ∧ ¬ (gs >>> (nI A.1 &&& 31)) &&& 1 = 1) → GT E Y_Model_match (d + 4) G0 166 [(0, .ref m), (1, .int gs), (2, .int 1), (3, .int (nI first)), (4, .int (nI (A :: r).length)), (5, .int up), (6, .int via), (7, .int (s.1 46)), (8, .int (nI A.1)), (9, .int 0)] [] (mW E G m n s) (mtZ E G m n P N t0 pos st v0 s0 (lp P t0 st.1 gs v0 (f + 1) L0 up via as)) := fun hh => by
          have elp : lp P t0 st.1 gs v0 (f + 1) L0 up via as = (some A, as) := by
            simp only [lp]
            rw [hD, hDr_keep hh]
            simp only [hAw]
          rw [elp]
          refine mt_bind hmn (pl := pl) (X := X) (v0 := v0) (P := P) (A := A) (by omega) hrowA (by omega) i1.2.1.2.2.2.2.1 (i11 A List.mem_cons_self) (fun s2 g1 g2 g3 => ?_) 8 0 s (by omega) (fun _ _ => rfl) rfl (fun i hi => absurd hi (Nat.not_lt_zero i))
          refine ⟨s2, pl, X, rfl, eSt_eq i1 (fun j hj => g1 j (by omega)) (fun k _ _ _ => by rw [g2]), mzF_tr hF ⟨fun j hj => g1 j (by omega), fun k _ _ _ _ => by rw [g2]⟩, by rw [g2]; exact i12, by show as.length ≤ 60; omega, fun i y hi => by rw [g1 37 (by decide)]; exact i14 i y hi, Or.inr ⟨A, rfl, rfl, g3, fun k ρ hk => i9 A List.mem_cons_self ρ (Or.inr ⟨k, hk⟩)⟩⟩
        by_cases hg : P 12 A.1 = 0
        · exact m_W_mt_t hmn (c := A.1) (by omega) (by omega) (by omega) r27 r26 bA20 (by rw [hsA 12 (by omega)]; exact hg) (fin (fun q => q.2.1 hg))
        · by_cases hbit : (gs >>> (nI A.1 &&& 31)) &&& 1 = 1
          · exact m_W_mt_u hmn (c := A.1) (by omega) (by omega) (by omega) r27 r26 bA20 (by rw [hsA 12 (by omega)]; exact hg) hbit (fin (fun q => q.2.2 hbit))
          · -- the case is left out
            refine m_W_mt_o hmn (c := A.1) (by omega) (by omega) (by omega) r27 r26 bA20 (by rw [hsA 12 (by omega)]; exact hg) hbit ?_
            have ho := other_list (c := A.1) (r0 := first + (A :: r).length) i2 (fun B hB' => ⟨len26 B hB', by have := (i8 B hB').2.1; omega⟩) i4 (Nat.le_refl _) (by omega) (by omega) (A :: r).length (Nat.le_refl _)
            rw [List.take_length] at ho
            obtain ⟨o1, o2, o3, o4⟩ := ho
            have e46 : tn (s.1 46) = first + (A :: r).length := by rw [i4]; exact tnI (by omega)
            refine c_Vr (as := [.int (nI first), .int (nI (A :: r).length), .int (nI A.1)]) kv_Model_otherRows ml_Model_252 rfl mw_f (m_W_otherRows (d := d + 2) hmn (A := first) (K := (A :: r).length) (nI_hi (by omega)) (nI_hi (by omega)) (by rw [i4]; exact nn_I (by omega)) (by rw [e46]; omega) (by rw [e46]; exact Nat.le_refl _) (fun R hR => (i3 R hR).1)) rfl (Nat.le_of_ble_eq_true rfl) rfl d_Model_match_232 rfl ?_
            refine m_W_mt_o2 hmn ?_
            have hlen : (aOt A.1 (A :: r)).length ≤ r.length := by
              simp only [aOt, if_true]
              exact aOt_len r
            rw [o2, i4, sub_nI (by omega) (by omega), Nat.add_sub_cancel_left]
            have hD2 := hDr_drop (r := r) hAw hg hbit
            have hway : ∀ B ∈ aOt A.1 (A :: r), pRk P N pos t0 C W (A.1 :: Dr) B := aOt_way i8
            have he' : eSt P N t0 pos pl X an0 st (rOther s first (nI A.1) (A :: r).length) := by
              refine eSt_eq i1 (fun j hj => o1.1 j (by omega)) (fun k a b c => ?_)
              by_cases e : k = 47
              · rw [e]; exact o3
              · exact o1.2.1 k c e
            refine ihK (aOt A.1 (A :: r)) L0 (first + (A :: r).length) up via W (A.1 :: Dr) as _ pl X (by simp only [List.length_cons] at hK; omega) hf (hD.trans hD2) hb ⟨he', o4, vR_add wf (vR_fr i3 o1.2.2.1) o4 (fun B hB' => (hway B hB').1), o2, by omega, ?_, ⟨i7.1, i7.2.1, List.nodup_cons.mpr ⟨hA8.2.2.1, i7.2.2.1⟩, fun k hk => ?_, i7.2.2.2.2⟩, hway, fun B hB' => i9 B (aOt_mem hB').1, i10, ?_, ?_, i13, ?_, ?_⟩ (mzF_tr hF ⟨fun j hj => o1.1 j (by omega), fun k a b c e => o1.2.1 k b c⟩)
            · simp only [List.length_cons]
              simp only [List.length_cons] at i5
              omega
            · rcases List.mem_cons.mp hk with rfl | hk
              · exact hA8.2.1
              · exact i7.2.2.2.1 k hk
            · intro B hB' ρ hρ
              obtain ⟨p1, a1, a2, a3⟩ := i11 B (aOt_mem hB').1 ρ hρ
              exact ⟨p1, a1, a2, by rw [o1.1 25 (by omega)]; exact a3⟩
            · rw [o1.2.1 54 (by decide) (by decide)]
              exact i12
            · intro i y hi
              rw [o1.1 37 (by omega)]
              exact i14 i y hi
            · intro k hk
              rw [o1.1 38 (by omega)]
              exact i15 k hk
      | cons w ws =>
        -- a question
        rw [hAw] at r27
        have hHead : hDr P gs L0.length L0 = A :: r := hD.trans (hDr_keep (fun q => by rw [hAw] at q; exact absurd q.1 (by simp)))
        have hdR : dRw P L0 = A :: r := hDr_d _ _ hHead (by rw [hAw]; simp)
        obtain ⟨xq, hxq, hxu, hxv⟩ := hb.2 A r w ws hdR hAw
        -- the first question that is behind
        have hex : ∃ (i : Nat) (x : qR), st.1[i]? = some x ∧ x.2.2.2.1 = up ∧ x.2.2.2.2 = via ∧ ∀ (i' : Nat) (x' : qR), i' < i → st.1[i']? = some x' → ¬ (x'.2.2.2.1 = up ∧ x'.2.2.2.2 = via) := by
          obtain ⟨j, hj⟩ := List.getElem?_of_mem hxq
          have : ∀ (n j : Nat) (x : qR), j ≤ n → st.1[j]? = some x → x.2.2.2.1 = up → x.2.2.2.2 = via → ∃ (i : Nat) (x : qR), st.1[i]? = some x ∧ x.2.2.2.1 = up ∧ x.2.2.2.2 = via ∧ ∀ (i' : Nat) (x' : qR), i' < i → st.1[i']? = some x' → ¬ (x'.2.2.2.1 = up ∧ x'.2.2.2.2 = via) := by
            intro n
            induction n with
            | zero =>
              intro j x hj hx h1 h2
              exact ⟨j, x, hx, h1, h2, fun i' x' hi' => by omega⟩
            | succ n ihn =>
              intro j x hj hx h1 h2
              by_cases hc : ∃ (i' : Nat) (x' : qR), i' < j ∧ st.1[i']? = some x' ∧ x'.2.2.2.1 = up ∧ x'.2.2.2.2 = via
              · obtain ⟨i', x', hi', hx', g1, g2⟩ := hc
                exact ihn i' x' (by omega) hx' g1 g2
              · exact ⟨j, x, hx, h1, h2, fun i' x' hi' hx' hh => hc ⟨i', x', hi', hx', hh⟩⟩
          exact this j j xq (Nat.le_refl _) hj hxu hxv
        obtain ⟨i, x, hx, hu, hv, hno⟩ := hex
        have eQ := qIx_eq hx ⟨hu, hv⟩ hno
        have hiQ : i < st.1.length := (List.getElem?_eq_some_iff.mp hx).1
        obtain ⟨A2, r2, w2, ws2, d1, d2, d3, d4⟩ := hb.1 x (List.mem_of_getElem? hx) hu hv
        rw [hdR] at d1
        obtain ⟨rfl, rfl⟩ := List.cons.inj d1
        rw [hAw] at d2
        obtain ⟨rfl, rfl⟩ := List.cons.inj d2
        obtain ⟨p, hpX, h28, hpw⟩ := r28 w ws hAw
        have hvw : vP P v0 w.1 := i9 A List.mem_cons_self w.1 (Or.inl ⟨w, by rw [hAw]; exact List.mem_cons_self, rfl⟩)
        have hvV := vAt_V hV w.1 v0 h0 hvw
        obtain ⟨hvN, hvk, -⟩ := hV _ hvV
        obtain ⟨e4, e16⟩ := vAt_ty wf hV ht0 h0 hv4 w.1 hvw
        have h25 : s.2 25 p = nI (vAt P v0 w.1) := by
          obtain ⟨p', a1, a2, a3⟩ := i11 A List.mem_cons_self w.1 (Or.inl ⟨w, by rw [hAw]; exact List.mem_cons_self, rfl⟩)
          rw [i1.2.1.2.2.2.2.1 p p' hpX a1 (hpw.trans a2.symm)]
          exact a3
        have h21 : s.2 21 p = nI (tyP P t0 w.1) := by
          rw [← hpw]
          exact (i1.2.1.2.2.2.1 p hpX).1
        have e54 : tn (s.1 54) = as.length := by rw [i12]; exact tnI (by omega)
        refine m_W_mt_s hmn (by omega) (by omega) (by omega) (by rw [r27]; exact fun e => by have := congrArg tn e; rw [tnI (by have := len26 A List.mem_cons_self; rw [hAw] at this; omega)] at this; exact absurd this (by simp [tn])) ?_
        rw [h28]
        refine mt_search hmn i1.2.2.2.1 bQ hx hu hv hno (by rw [i12]; exact nn_I (by omega)) (by omega) ?_ i 0 (by omega)
        rw [e54, i12, nI_1]
        -- the state with the question kept
        have ga : ∀ j, j ≠ 37 → (wF (wA s 37 as.length (nI i)) 54 (nI (as.length + 1))).2 j = s.2 j := fun j hj => upA_ne hj
        have gf : ∀ k, k ≠ 54 → (wF (wA s 37 as.length (nI i)) 54 (nI (as.length + 1))).1 k = s.1 k := fun k hk => wF_ne hk
        have g54 : (wF (wA s 37 as.length (nI i)) 54 (nI (as.length + 1))).1 54 = nI (as.length + 1) := wF_at
        have g37 : ∀ j y, (as ++ [i])[j]? = some y → (wF (wA s 37 as.length (nI i)) 54 (nI (as.length + 1))).2 37 j = nI y := fun j y hj => by
          show upA s.2 37 (upd (s.2 37) as.length (nI i)) 37 j = nI y
          rw [upA_at]
          by_cases e : j = as.length
          · rw [e, List.getElem?_append_right (Nat.le_refl _), Nat.sub_self] at hj
            rw [e, up_at, ← Option.some.inj hj]
          · rw [up_ne e]
            refine i14 j y ?_
            have : j < as.length := by
              have h1 := (List.getElem?_eq_some_iff.mp hj).1
              simp only [List.length_append, List.length_cons, List.length_nil] at h1
              omega
            rw [List.getElem?_append_left this] at hj
            exact hj
        generalize hs2 : wF (wA s 37 as.length (nI i)) 54 (nI (as.length + 1)) = s2 at ga gf g54 g37
        have he2 : eSt P N t0 pos pl X an0 st s2 := eSt_eq i1 (fun j hj => ga j (by omega)) (fun k _ _ _ => gf k (by omega))
        have hr2 : hPs s2 pl X first (A :: r) := hPs_eq i2 len26 (fun j a b => ga j (by omega))
        have hv2 : vR s2 (first + (A :: r).length) := vR_fr i3 (fun R _ => sR_eq (fun j a b => ga j (by omega)))
        have htr : tRows s2 P N t0 pos pl X first (A :: r) := ⟨he2.2.1, hr2, fun B hB' => (i8 B hB').1, he2.1 5 (by omega)⟩
        have elp : ∀ k0, k0 = vAn P t0 (A :: r) w.1 (vAt P v0 w.1) → lp P t0 st.1 gs v0 (f + 1) L0 up via as = lp P t0 st.1 gs v0 f (qL P t0 (A :: r) w.1 k0) (nI i) (nI k0) (as ++ [i]) := fun k0 hk0 => by
          simp only [lp]
          rw [hHead]
          simp only [hAw]
          rw [eQ, ← hk0]
        obtain ⟨hB8, hBk⟩ := hB i x hx
        rw [d3, d4] at hBk
        have hkd2 : ∀ B ∈ A :: r, ∀ q ∈ B.2.1, q.1 = w.1 → (¬ P 0 (tyP P t0 w.1) ≤ 1 → P 3 q.2 = 2) := fun B hB' q hq e => by
          obtain ⟨m1, m2, -⟩ := made_kind wf wk ((i8 B hB').1.1 q hq).1 ((i8 B hB').1.1 q hq).2 (tyP_31 ht0 _)
          rw [e] at m2
          exact m2
        have h02 : s2.2 0 (tyP P t0 w.1) = P 0 (tyP P t0 w.1) := congrFun (he2.1 0 (by omega)) _
        have h52 : s2.2 5 (vAt P v0 w.1) = P 5 (vAt P v0 w.1) := congrFun (he2.1 5 (by omega)) _
        -- what is behind the call of answerRows
        have after : ∀ (md wh is b6 : Int32) (s3 : mS) (k0 : Nat), (∀ j, j ≠ 39 → s3.2 j = s2.2 j) → s3.1 = s2.1 → k0 = vAn P t0 (A :: r) w.1 (vAt P v0 w.1) → k0 < qN P t0 (A :: r) w.1 → b6 = nI k0 → qL P t0 (A :: r) w.1 k0 = aAns P w.1 md wh is (A :: r) → wh = P 5 (vAt P v0 w.1) → ((md = 0) ∨ (md = 1 ∧ P 3 (vAt P v0 w.1) = 2 ∧ ¬ P 0 (tyP P t0 w.1) ≤ 1)) →
            GT E Y_Model_match (d + 4) G0 437 [(0, .ref m), (1, .int gs), (2, .int 1), (3, .int (nI first)), (4, .int (nI (A :: r).length)), (5, .int (nI i)), (6, .int b6), (7, .int (s.1 46)), (8, .int (nI p)), (9, .int (nI i)), (10, .int (nI (vAt P v0 w.1))), (11, .int md), (12, .int is)] [.int is, .int wh, .int md, .int (nI p), .int (nI (A :: r).length), .int (nI first), .ref m] (mW E G m n s3) (mtZ E G m n P N t0 pos st v0 s0 (lp P t0 st.1 gs v0 (f + 1) L0 up via as)) := by
          intro md wh is b6 s3 k0 a39 f39 hk0 hk0q hb6 hqL hwh hmd
          rw [elp k0 hk0]
          obtain ⟨hbk, hl80⟩ := hBk k0 hk0q
          rw [hqL] at hl80 hbk ⊢
          have he3 : eSt P N t0 pos pl X an0 st s3 := eSt_eq he2 (fun j hj => a39 j (by omega)) (fun k _ _ _ => by rw [f39])
          have hr3 : hPs s3 pl X first (A :: r) := hPs_eq hr2 len26 (fun j a b => a39 j (by omega))
          have hkd : ∀ B ∈ A :: r, ∀ q ∈ B.2.1, q.1 = w.1 → ¬ md = 0 → P 3 q.2 = 2 := fun B hB' q hq e hm => hkd2 B hB' q hq e (hmd.resolve_left hm).2.2
          have h463 : s3.1 46 = nI (first + (A :: r).length) := by rw [f39, gf 46 (by decide)]; exact i4
          refine c_V (as := [.int (nI first), .int (nI (A :: r).length), .int (nI p), .int md, .int wh, .int is]) kv_Model_answerRows ml_Model_264 rfl mw_f (m_W_answerRows (d := d + 1) hmn wf ht0 (first := first) (p := p) (r0 := first + (A :: r).length) (L := A :: r) (fun B hB' => (i8 B hB').1) hr3 hpX hpw (Nat.le_refl _) (by omega) hkd he3.2.1 he3.1 h463 he3.2.2.2.2) rfl (Nat.le_of_ble_eq_true rfl) rfl d_Model_match_437 (fun v_1 G_1 h_1 => ?_) (fun D_1 G_1 h_1 => absurd h_1.1 (by simp))
          obtain ⟨ho, s4, rfl, hq4⟩ := h_1
          cases ho
          refine m_W_mt_k hmn ?_
          have sa3 : ∀ j, j ≠ 37 → j ≠ 39 → s3.2 j = s.2 j := fun j a b => (a39 j b).trans (ga j a)
          have sf3 : ∀ k, k ≠ 54 → s3.1 k = s.1 k := fun k a => by rw [f39]; exact gf k a
          have s54 : s3.1 54 = nI (as.length + 1) := by rw [f39]; exact g54
          have s37 : ∀ j y, (as ++ [i])[j]? = some y → s3.2 37 j = nI y := fun j y hj => by rw [a39 37 (by decide)]; exact g37 j y hj
          have go : ∀ s5, (∀ j, j ≠ 25 → s5.2 j = s4.2 j) → s5.1 = s4.1 → (∀ q, (∀ i, i < (if md = 0 then 0 else aAr P (vAt P v0 w.1)) → ¬ (0 < q ∧ s4.2 22 (32 * p + 4 * tn wh + i) = nI q)) → s5.2 25 q = s4.2 25 q) → (∀ pl' X', plOk s4 P N t0 pos pl' X' → ∀ i q, i < (if md = 0 then 0 else aAr P (vAt P v0 w.1)) → 0 < q → q < X' → s4.2 22 (32 * p + 4 * tn wh + i) = nI q → s5.2 25 q = s4.2 6 (4 * vAt P v0 w.1 + i)) →
              GT E Y_Model_match (d + 4) G0 115 [(0, .ref m), (1, .int gs), (2, .int 1), (3, .int (s.1 46)), (4, .int (s5.1 46 - s.1 46)), (5, .int (nI i)), (6, .int b6)] [] (mW E G m n s5) (mtZ E G m n P N t0 pos st v0 s0 (lp P t0 st.1 gs v0 f (aAns P w.1 md wh is (A :: r)) (nI i) (nI k0) (as ++ [i]))) := fun s5 v1 v2 v3 v4 => by
            obtain ⟨pl', X', hI', hF', h46'⟩ := mt_next (k0 := k0) wf wk ht0 hV h0 hv4 hI hAw (hmd.imp_right (fun h => h.2.1)) hwh hkd sa3 sf3 s54 s37 hq4 hl80 v1 v2 hpX hpw v3 v4
            rw [h46', i4, sub_nI (by simp only [List.length_cons] at i5 ⊢; omega) (by omega), Nat.add_sub_cancel_left, hb6]
            exact ih (aAns P w.1 md wh is (A :: r)).length _ _ _ _ _ _ _ _ _ pl' X' (Nat.le_refl _) (by simp only [List.length_cons]; omega) rfl hbk hI' (mzF_tr hF hF')
          rcases hmd with hm | ⟨hm, h2, hty⟩
          · subst hm
            exact m_W_mt_ln (t := 0) (w := 0) (ar := 0) hmn (go s4 (fun _ _ => rfl) rfl (fun _ _ => rfl) (fun pl' X' _ i q hi => absurd hi (by simp)))
          · subst hm
            obtain ⟨⟨y, y8, ey⟩, ar4, ear, -⟩ := (wf.2.2 _ hvN).2.2.2 h2
            have ty : tn wh = y := by rw [hwh, ey]; exact tnI (by omega)
            obtain ⟨pl4, X4, p4, p5, p6, -⟩ := id hq4
            have hs4 : sPA s4 P := sPA_A he3.1 p6
            have h214 : s4.2 21 p = nI (tyP P t0 w.1) := by
              have := (p4.2.2.2.1 p (Nat.lt_of_lt_of_le hpX p6.2.2.2.2.2)).1
              rw [p5 p hpX, hpw] at this
              exact this
            have e5 : s4.2 5 (vAt P v0 w.1) = nI y := (congrFun (hs4 5 (by omega)) _).trans ey
            have e1 : s4.2 1 (8 * tyP P t0 w.1 + y) = nI (aAr P (vAt P v0 w.1)) := by
              rw [hs4 1 (by omega)]
              rw [e4, tnI (by omega), ey, tnI (by omega)] at ear
              exact ear
            have h6 : ∀ j, s4.2 6 j = P 6 j := fun j => congrFun (hs4 6 (by omega)) j
            refine mt_vals hmn (t := tyP P t0 w.1) (w := y) (ar := aAr P (vAt P v0 w.1)) (X := X4) (pl := pl4) bN p4 (Nat.lt_of_lt_of_le hpX p6.2.2.2.2.2) (by omega) e16 h214 e5 y8 e1 ar4 (fun s5 v1 v2 v3 v4 => go s5 v1 v2 (fun q hq => v3 q (by rw [if_neg (by decide), ty] at hq; exact hq)) (fun pl' X' hpl' j q hj hq0 hqX hq => ?_)) (aAr P (vAt P v0 w.1)) 0 s4 (by omega) (fun _ _ => rfl) rfl (fun _ _ => rfl) (fun i q hi => absurd hi (Nat.not_lt_zero i))
            rw [if_neg (by decide)] at hj
            rw [ty] at hq
            have eX : X' = X4 := by
              have h1 := hpl'.1
              have h2 := p4.1
              rw [h1] at h2
              have := congrArg tn h2
              rw [tnI (by have := plOk_X hpl'; omega), tnI (by have := plOk_X p4; omega)] at this
              exact this
            exact v4 j q hj hq0 (by omega) hq
        by_cases hty : P 0 (tyP P t0 w.1) ≤ 1
        · have hk1 : P 3 (vAt P v0 w.1) = 1 ∨ True := Or.inr trivial
          have hqNs : qN P t0 (A :: r) w.1 = (qSr P w.1 (A :: r)).length + 1 := by
            unfold qN
            rw [if_pos hty]
          have hvn : vAn P t0 (A :: r) w.1 (vAt P v0 w.1) = ixS (P 5 (vAt P v0 w.1)) (qSr P w.1 (A :: r)) := by
            unfold vAn
            rw [if_pos hty]
          have hle := ixS_le (v := P 5 (vAt P v0 w.1)) (qSr P w.1 (A :: r))
          have hisw := isw_all wf htr hpX hpw (x := P 5 (vAt P v0 w.1))
          by_cases hin : P 5 (vAt P v0 w.1) ∈ qSr P w.1 (A :: r)
          · rw [if_pos hin] at hisw
            have hbel := bel_all wf htr hpX hpw hin
            refine m_W_mt_n1 hmn (t := tyP P t0 w.1) (v := vAt P v0 w.1) (by omega) (by rw [ga 25 (by decide)]; exact h25) (by omega) (by rw [ga 21 (by decide)]; exact h21) e16 (by rw [h02]; exact hty) (fun R hR => (hv2 R hR).1) (fun R hR => (hv2 R hR).2) (by omega) (by rw [h52, hisw]; decide) ?_
            rw [h52]
            exact after 0 _ 1 _ _ _ (fun j hj => upA_ne hj) rfl rfl (by rw [hqNs, hvn]; omega) (by rw [hvn]; exact hbel) (qL_n1 hty hin) rfl (Or.inl rfl)
          · rw [if_neg hin] at hisw
            have hno' := ixS_no hin
            refine m_W_mt_n0 hmn (t := tyP P t0 w.1) (v := vAt P v0 w.1) (by omega) (by rw [ga 25 (by decide)]; exact h25) (by omega) (by rw [ga 21 (by decide)]; exact h21) e16 (by omega) (by rw [h02]; exact hty) (fun R hR => (hv2 R hR).1) (fun R hR => (hv2 R hR).2) (by omega) (by rw [h52, hisw]) ?_
            rw [h52]
            obtain ⟨-, h15, -⟩ := he2.2.2.2.1.2.2.2.2.2.2.2.2 i x hx
            rw [d3, d4, hqNs] at h15
            have l1 := aSrt_len (l := aNs P w.1 (A :: r)) (S := [])
            have l2 := aNs_len (P := P) (π := w.1) (A :: r)
            exact after 0 _ 0 _ _ _ (fun _ _ => rfl) rfl rfl (by rw [hqNs, hvn]; omega) (by rw [h15, hvn, hno']; exact nI_s1 (by unfold qSr; simp only [List.length_nil] at l1; omega)) (qL_n0 hty hin) rfl (Or.inl rfl)
        · have hk2 : P 3 (vAt P v0 w.1) = 2 := by
            rcases hvk with e | e
            · have := (wk _ hvN).2.1 e
              rw [e4, tnI (by omega)] at this
              exact absurd (by rw [this]; exact Int32.le_refl _) hty
            · exact e
          obtain ⟨TT, y, hT2, hT9, eT, hyT, e5⟩ := (wk _ hvN).2.2 hk2
          rw [e4, tnI (by omega)] at eT
          obtain ⟨hqm, hvn⟩ := qL_made (R := A :: r) hty e5 (by omega)
          refine m_W_mt_m hmn (t := tyP P t0 w.1) (v := vAt P v0 w.1) (by omega) (by rw [ga 25 (by decide)]; exact h25) (by omega) (by rw [ga 21 (by decide)]; exact h21) e16 (by rw [h02]; exact hty) ?_
          rw [h52]
          refine after 1 _ 1 _ _ _ (fun _ _ => rfl) rfl rfl ?_ (by rw [hvn]; exact e5) hqm rfl (Or.inr ⟨rfl, hk2, hty⟩)
          rw [hvn]
          unfold qN
          rw [if_neg hty, eT, tnI (by omega)]
          omega
set_option maxHeartbeats 1000000 in
theorem m_W_match (hmn : m < n) (wf : wfA P N pos) (wk : wfK P N) (ht0 : t0 < 16) (hC20 : C ≤ 20) (hC1 : 1 ≤ C) (hV : vOkN P N V) {v0 c : Nat} (h0 : V v0) (hv4 : P 4 v0 = nI t0) (hv60 : tn (P 7 v0) ≤ 60) (h09 : ∀ t, tn (P 0 t) ≤ 9) (bQ : st.1.length ≤ 1000)
    (hB : ∀ i q, st.1[i]? = some q → q.1.length ≤ 800 ∧ ∀ k, k < qN P t0 q.1 q.2.1 → bhd P st.1 (nI i) (nI k) (qL P t0 q.1 q.2.1 k) ∧ (qL P t0 q.1 q.2.1 k).length ≤ 80) (hcp : wfC P N pos t0 C cp) (h80 : (aF P ([] : List Nat) cp C).length ≤ 80) (hb0 : bhd P st.1 (-1) 0 (aF P [] cp C)) {gs : Int32}
    (he : eSt P N t0 pos pl X an0 st s) (h16 : s.1 16 = nI C) (h19 : ¬ s.1 19 = 0) (h15 : s.1 15 = nI (c + 1)) (bc : c < 40) (h10 : s.2 10 c = nI v0) :
    GM E Y_Model_match (d + 4) [.ref m, .int gs] (mW E G m n s) (mtZ E G m n P N t0 pos st v0 (wF (wF s 0 0) 15 (nI c)) (lp P t0 st.1 gs v0 61 (aF P [] cp C) (-1) 0 [])) := by
  have bN := wf.1.1
  have hvN := (hV v0 h0).1
  have hc0 := hcp 0 (by omega)
  have hs := he.1
  refine m_W_mt_i hmn (c := c) (v := v0) (w := cp 0) h15 bc h10 (by omega) (by rw [hs 11 (by omega)]; exact hc0.1) (by omega) h19 (by rw [hs 4 (by omega), hv4, hc0.2.2.2.1]) ?_
  refine c_Vr (as := []) kv_Model_forget ml_Model_135 rfl mw_f (m_W_forget hmn) rfl (Nat.le_of_ble_eq_true rfl) rfl d_Model_match_69 rfl ?_
  refine m_W_mt_f hmn ?_
  have ga : ∀ j, j ≠ 38 → (wF (wR (wF s 0 0) 38 (fillF ((wF s 0 0).2 38) 8 (-1))) 54 0).2 j = s.2 j := fun j hj => upA_ne hj
  have gf : ∀ k, k ≠ 0 → k ≠ 54 → (wF (wR (wF s 0 0) 38 (fillF ((wF s 0 0).2 38) 8 (-1))) 54 0).1 k = s.1 k := fun k h1 h2 => (wF_ne h2).trans (wF_ne h1)
  have g54 : (wF (wR (wF s 0 0) 38 (fillF ((wF s 0 0).2 38) 8 (-1))) 54 0).1 54 = 0 := wF_at
  have g38 : ∀ k, k < 8 → (wF (wR (wF s 0 0) 38 (fillF ((wF s 0 0).2 38) 8 (-1))) 54 0).2 38 k = -1 := fun k hk => by
    show upA s.2 38 (fillF (s.2 38) 8 (-1)) 38 k = -1
    rw [upA_at]
    exact if_pos hk
  have g0 : (wF (wR (wF s 0 0) 38 (fillF ((wF s 0 0).2 38) 8 (-1))) 54 0).1 0 = 0 := (wF_ne (by decide)).trans (show (wF s 0 0).1 0 = 0 from wF_at)
  generalize wF (wR (wF s 0 0) 38 (fillF ((wF s 0 0).2 38) 8 (-1))) 54 0 = s1 at ga gf g54 g38 g0 ⊢
  have he1 : eSt P N t0 pos pl X an0 st s1 := eSt_eq he (fun j hj => ga j (by omega)) (fun k a _ _ => gf k (by omega) (by omega))
  refine c_V (as := []) kv_Model_firstRows ml_Model_246 rfl mw_f (m_W_firstRows (d := d + 1) hmn wf.1 hC20 (fun k hk => ⟨(hcp k hk).2.1, by have := (hcp k hk).2.2.1; omega⟩) (sPA_P he1.1) (fun k hk => by rw [he1.1 11 (by omega)]; exact (hcp k hk).1) (by rw [gf 16 (by decide) (by decide)]; exact h16)) rfl (Nat.le_of_ble_eq_true rfl) rfl d_Model_match_73 (fun v_1 G_1 h_1 => ?_) (fun D_1 G_1 h_1 => absurd h_1.1 (by simp))
  obtain ⟨ho, s2, rfl, q1, q2⟩ := h_1
  cases ho
  have hlen := aF_len2 (P := P) (cp := cp) (a := (0 : Nat)) (b := ([] : List Nat)) C
  rcases q2 with ⟨q2, -⟩ | ⟨-, q3, q4, q5⟩
  · omega
  refine m_W_mt_j hmn (c := c) (by rw [q1.2.1 15 (by decide) (by decide), gf 15 (by decide) (by decide)]; exact h15) bc ?_
  have a3 : ∀ j, j ≠ 25 → (wA (wF s2 15 (nI c)) 25 0 (s2.2 10 c)).2 j = s2.2 j := fun j hj => upA_ne hj
  have f3 : ∀ k, k ≠ 15 → (wA (wF s2 15 (nI c)) 25 0 (s2.2 10 c)).1 k = s2.1 k := fun k hk => wF_ne hk
  have f15 : (wA (wF s2 15 (nI c)) 25 0 (s2.2 10 c)).1 15 = nI c := show (wF s2 15 (nI c)).1 15 = nI c from wF_at
  have v25 : (wA (wF s2 15 (nI c)) 25 0 (s2.2 10 c)).2 25 0 = nI v0 := by
    show upA s2.2 25 (upd (s2.2 25) 0 (s2.2 10 c)) 25 0 = _
    rw [upA_at, up_at, q1.1 10 (by omega), ga 10 (by decide)]
    exact h10
  generalize wA (wF s2 15 (nI c)) 25 0 (s2.2 10 c) = s3 at a3 f3 f15 v25 ⊢
  have he2 : eSt P N t0 pos pl X an0 st s2 := eSt_eq he1 (fun j hj => q1.1 j (by omega)) (fun k a b cc => by
    by_cases e : k = 47
    · rw [e, q3]
      exact he1.2.2.2.2.symm
    · exact q1.2.1 k cc e)
  have he3 : eSt P N t0 pos pl X an0 st s3 := eSt_eq he2 (fun j hj => a3 j (by omega)) (fun k a _ _ => f3 k (by omega))
  have bX := plOk_X he3.2.1
  have hrow2 := aF_hP (pl := pl) he3.2.1.2.2.1 C 0 q5
  have hok := aF_ok wf hcp C (Nat.le_refl _)
  have len26 : ∀ B ∈ aF P ([] : List Nat) cp C, B.2.1.length ≤ 26 := fun B hB' => by have := rOk_len wf (hok B hB').1; omega
  have hrow3 : hPs s3 pl X 0 (aF P ([] : List Nat) cp C) := hPs_fr (r := 0 + (aF P ([] : List Nat) cp C).length) hrow2 len26 (fun _ _ => sR_eq (fun j a b => a3 j (by omega))) (Nat.le_refl _) (fun _ _ => rfl) he3.2.1.2.1
  have e46 : s2.1 46 = nI (aF P ([] : List Nat) cp C).length := by rw [q4, hlen]
  rw [e46]
  refine mt_loop hmn wf wk ht0 hC20 hV h0 hv4 hv60 h09 bQ hB 61 _ (aF P [] cp C) (aF P [] cp C) 0 (-1) 0 [] [] [] s3 pl X (Nat.le_refl _) (by simp) rfl hb0 ⟨he3, hrow3, ?_, by rw [f3 46 (by decide), e46, Nat.zero_add], h80, by simp, ⟨List.nodup_nil, fun π h => (by cases h), List.nodup_nil, fun k h => (by cases h), fun π h => absurd rfl h⟩, hok, fun A hA ρ hρ => by rw [aF_m C A hA ρ hρ]; exact trivial, fun π h => (by cases h), fun A hA ρ hρ => ⟨0, by have := he3.2.1.2.1; omega, by rw [aF_m C A hA ρ hρ]; exact he3.2.1.2.2.1, by rw [aF_m C A hA ρ hρ]; exact v25⟩, by rw [f3 54 (by decide), q1.2.1 54 (by decide) (by decide), g54]; rfl, rfl, fun i y h => (by cases h), fun k hk => by rw [a3 38 (by decide), q1.1 38 (by omega)]; exact g38 k hk⟩ ⟨fun j hj => ?_, fun k a b cc e => ?_⟩
  · exact vR_add wf (r := 0) (fun R hR => absurd hR (Nat.not_lt_zero R)) hrow3 (fun B hB' => (hok B hB').1)
  · rw [a3 j (by omega), q1.1 j (by omega), ga j (by omega)]
    rfl
  · by_cases e15 : k = 15
    · rw [e15, f15]
      exact wF_at.symm
    · rw [f3 k e15, q1.2.1 k b cc, wF_ne e15]
      by_cases e0 : k = 0
      · rw [e0, g0]
        exact wF_at.symm
      · rw [gf k e0 e, wF_ne e0]
end NE
