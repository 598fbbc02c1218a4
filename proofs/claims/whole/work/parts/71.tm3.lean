/-! The reference's tellMissing: as a whole -/
section BJ
variable {E : gE} {d : Nat} {G G0 : gS} {m n : Nat} {s s' : mS} {Q : gO → gS → Prop} {P : Nat → Nat → Int32} {N X t0 : Nat} {pl pos : Nat → List Nat} {an : List Nat → Int32 × Int32}
theorem nI_2 {k : Nat} (h : k < 2 ^ 30) : nI k + 2 = nI (k + 2) := i_nI (add_hi (nI_hi (by omega)) (by decide) (by omega))
theorem tm_push (hmn : m < n) {p f w a : Nat} {q3 q4 : Int32} {rest : List (Nat × List Nat)} (hp : p < X) (bX : X ≤ 513) (hw : w < 8) (ba : a ≤ 4) (bM : rest.length + a < 2400)
    (kk : ∀ s1, fT s s1 → s1.2 13 = s.2 13 → s1.1 25 = s.1 25 → sts s1 pl X (kid f (pl p) w 0 a ++ rest) → GT E Y_Model_tellMissing d G0 168 [(0, .ref m), (1, .int (nI (rest.length + a)))] [] (mW E G m n s1) Q) (hby : s.2 23 p = nI (2 + w)) :
    ∀ (j : Nat) (x : Int32) (s1 : mS), j ≤ a → (j = 0 → x = -1) → (1 ≤ j → x = nI (j - 1)) → fT s s1 → s1.2 13 = s.2 13 → s1.1 25 = s.1 25 → sts s1 pl X (kid f (pl p) w j (a - j) ++ rest) →
      GT E Y_Model_tellMissing d G0 138 [(0, .ref m), (1, .int (nI (rest.length + (a - j)))), (2, .int (nI p)), (3, .int q3), (4, .int q4), (5, .int x)] [] (mW E G m n s1) Q := by
  intro j
  induction j with
  | zero =>
    intro x s1 _ hx _ f1 f2 f3 hs
    rw [hx rfl]
    refine m_W_tm_t hmn (by decide) ?_
    rw [Nat.sub_zero] at hs ⊢
    exact kk s1 f1 f2 f3 hs
  | succ j ih =>
    intro x s1 hj _ hx f1 f2 f3 hs
    rw [hx (by omega), Nat.add_sub_cancel]
    refine m_W_tm_s hmn (M := rest.length + (a - (j + 1))) (p := p) (k := j) (by omega) (by omega) ?_
    have f1' : fT s (wA s1 36 (rest.length + (a - (j + 1))) (-2 - (8 * nI p + nI j))) := fT_tr f1 fT_st
    rw [show rest.length + (a - (j + 1)) + 1 = rest.length + (a - j) by omega]
    refine ih _ _ (by omega) (fun q => by rw [q]; rfl) (fun q => by rw [nI_m1 q (by omega)]) f1' f2 f3 ?_
    rw [show a - j = (a - (j + 1)) + 1 by omega]
    have ll : (kid f (pl p) w (j + 1) (a - (j + 1)) ++ rest).length = rest.length + (a - (j + 1)) := by rw [List.length_append, kid_len]; omega
    show sts _ pl X ((f, pl p ++ [4 * w + j]) :: (kid f (pl p) w (j + 1) (a - (j + 1)) ++ rest))
    refine ⟨?_, sts_T hs fT_st (fun i hi => ?_)⟩
    · refine Or.inr ⟨p, j, w, hp, by omega, hw, ?_, ?_, rfl⟩
      · rw [ll]
        show upd (s1.2 36) _ _ _ = _
        exact up_at
      · rw [f1'.1 23 (by decide) (by decide)]
        exact hby
    · rw [ll] at hi
      show upd (s1.2 36) _ _ i = _
      exact up_ne (by omega)
/-- no place, no answer -/
theorem no_place (hpl : plOk s P N t0 pos pl X) {o e : Nat} (ho : o < X) (he : e < 32) (hz : s.2 22 (32 * o + e) = 0) (bX : X ≤ 513) : ∀ p, p < X → pl p ≠ pl o ++ [e] := by
  intro p hp h
  rcases Nat.eq_zero_or_pos p with z | z
  · subst z
    rw [hpl.2.2.1] at h
    exact absurd (congrArg List.length h) (by simp)
  · obtain ⟨-, p1, e1, l1, l2, l3, l4⟩ := hpl.2.2.2.2.2 p z hp
    rw [l3] at h
    obtain ⟨i1', i2'⟩ := app_inj h
    have := hpl.2.2.2.2.1 p1 o (by omega) ho i1'
    subst this
    subst i2'
    rw [hz] at l4
    have := congrArg tn l4
    rw [tnI (by omega)] at this
    have z0 : tn 0 = 0 := by decide
    omega
/-- the loop, for items that tell less than W -/
def tmS (E : gE) (d : Nat) (G G0 : gS) (m n : Nat) (Q : gO → gS → Prop) (P : Nat → Nat → Int32) (N t0 : Nat) (pos pl : Nat → List Nat) (X : Nat) (an : List Nat → Int32 × Int32) (s : mS) (out : List Int32) (W : Nat) : Prop := ∀ (it : List (Nat × List Nat)) (s1 : mS) (l : List Int32), (oTs P t0 an it).length < W → fT s s1 → sts s1 pl X it → (∀ q ∈ it, dOk P t0 an q.1 q.2) → s1.1 25 = nI l.length → tld s1 0 l → l ++ oTs P t0 an it = out → plOk s1 P N t0 pos pl X → anS s1 pl X an →
      GT E Y_Model_tellMissing d G0 168 [(0, .ref m), (1, .int (nI it.length))] [] (mW E G m n s1) Q
theorem tm_place (hmn : m < n) (bN : N ≤ 512) (hP1 : s.2 1 = P 1) (hok : anOk P t0 an) {out : List Int32} (hout : out.length ≤ 4700) {W : Nat} (ih : tmS E d G G0 m n Q P N t0 pos pl X an s out W) {f : Nat} {π : List Nat} {rest : List (Nat × List Nat)} {l : List Int32} (hdq : dOk P t0 an (f + 1) π) (hdr : ∀ y ∈ rest, dOk P t0 an y.1 y.2) (hW : (aT P t0 an (f + 1) π).length + (oTs P t0 an rest).length < W + 1) (hl : l ++ (aT P t0 an (f + 1) π ++ oTs P t0 an rest) = out) (bX : X ≤ N + 1) :
    ∀ (s2 : mS) (p : Nat), fT s s2 → s2.2 36 rest.length = nI p → p < X → pl p = π → sts s2 pl X rest → s2.1 25 = nI l.length → tld s2 0 l → plOk s2 P N t0 pos pl X → anS s2 pl X an →
      GT E Y_Model_tellMissing d G0 9 [(0, .ref m), (1, .int (nI (rest.length + 1)))] [] (mW E G m n s2) Q := by
  have hlen : l.length + ((aT P t0 an (f + 1) π).length + (oTs P t0 an rest).length) ≤ 4700 := by rw [← List.length_append, ← List.length_append, hl]; exact hout
  have hit : 2 * rest.length ≤ (oTs P t0 an rest).length := oTs_pos hdr
  have h2q := aT_pos hdq
  intro s2 p g1 g2 g3 g4 g5 g6 g7 g8 g9
  have hby := (g9.1 p g3).1
  rw [g4] at hby
  rcases hok π with e0 | e1 | ⟨w, a, w8, ew, a4, ea, t16⟩
  · have eT : aT P t0 an (f + 1) π = [2, 0] := by simp only [aT]; rw [if_pos e0]
    rw [eT] at hW hl
    refine m_W_tm_0 hmn (M := rest.length) (c := l.length) (p := p) (by omega) g2 (by omega) g6 (by omega) (hby.trans e0) ?_
    refine ih rest _ (l ++ [2, 0]) (by simp at hW; omega) (fT_tr g1 fT_tl) (sts_T g5 fT_tl (fun i hi => rfl)) hdr ?_ (tld_tl g7 (by omega)) (by rw [← hl]; simp) (plOk_T g8 fT_tl) (anS_T g9 fT_tl)
    show upd s2.1 25 (s2.1 25 + 2) 25 = _
    rw [up_at, g6, List.length_append]
    exact nI_2 (by omega)
  · have n0 : ¬ (an π).1 = 0 := by rw [e1]; decide
    have eT : aT P t0 an (f + 1) π = [0, (an π).2] := by simp only [aT]; rw [if_neg n0, if_pos e1]
    have e24 : s2.2 24 p = (an π).2 := by
      have := (g9.1 p g3).2
      rw [g4] at this
      exact this e1
    rw [eT] at hW hl
    refine m_W_tm_1 hmn (M := rest.length) (c := l.length) (p := p) (by omega) g2 (by omega) g6 (by omega) (hby.trans e1) ?_
    rw [e24]
    refine ih rest _ (l ++ [0, (an π).2]) (by simp at hW; omega) (fT_tr g1 fT_tl) (sts_T g5 fT_tl (fun i hi => rfl)) hdr ?_ (tld_tl g7 (by omega)) (by rw [← hl]; simp) (plOk_T g8 fT_tl) (anS_T g9 fT_tl)
    show upd s2.1 25 (s2.1 25 + 2) 25 = _
    rw [up_at, g6, List.length_append]
    exact nI_2 (by omega)
  · have etw : tn (an π).1 - 2 = w := by rw [ew, tnI (by omega)]; omega
    have n0 : ¬ (an π).1 = 0 := by rw [ew]; exact nI_ne (a := 2 + w) (b := 0) (by omega) (by omega) (by omega)
    have n1 : ¬ (an π).1 = 1 := by rw [ew]; exact nI_ne (a := 2 + w) (b := 1) (by omega) (by omega) (by omega)
    have eta : tn (P 1 (8 * tyP P t0 π + w)) = a := by rw [ea]; exact tnI (by omega)
    have eT : aT P t0 an (f + 1) π = [1, nI w] ++ aTk (aT P t0 an f) π w 0 a := by
      simp only [aT]
      rw [if_neg n0, if_neg n1, etw, eta]
    have hkd : ∀ k, k < a → dOk P t0 an f (π ++ [4 * w + k]) := by
      rcases hdq with z | z | z
      · exact absurd z n0
      · exact absurd z n1
      · rw [etw, eta] at z
        exact z
    rw [eT] at hW hl
    have h21 := (g8.2.2.2.1 p g3).1
    rw [g4] at h21
    have hk := kid_ok (P := P) (t0 := t0) (an := an) (f := f) (c := w) (π := π) a 0 (fun j _ h2 => hkd j (by omega))
    have hall : ∀ y ∈ kid f π w 0 a ++ rest, dOk P t0 an y.1 y.2 := fun y hy => by
      rcases List.mem_append.mp hy with hy | hy
      · exact hk y hy
      · exact hdr y hy
    have hcnt := oTs_pos hall
    rw [oTs_kid, List.length_append, List.length_append, kid_len] at hcnt
    simp only [List.length_append, List.length_cons, List.length_nil] at hW
    have hl2 := congrArg List.length hl
    simp only [List.length_append, List.length_cons, List.length_nil] at hl2
    refine m_W_tm_2 hmn (M := rest.length) (c := l.length) (p := p) (w := w) (t := tyP P t0 π) (a := a) (by omega) g2 (by omega) g6 (by omega) (hby.trans ew) w8 h21 t16 (by rw [g1.1 1 (by decide) (by decide), hP1]; exact ea) a4 ?_
    have g1' : fT s (rTl s2 l.length 1 (nI w)) := fT_tr g1 fT_tl
    have K := tm_push (E := E) (d := d) (G := G) (G0 := G0) (Q := Q) (s := rTl s2 l.length 1 (nI w)) (pl := pl) (X := X) (p := p) (f := f) (w := w) (a := a) (q3 := nI (2 + w)) (q4 := nI a) (rest := rest) hmn g3 (by omega) w8 a4 (by omega) (fun s3 k1 k2 k3 k4 => ?_) (by rw [fT_tl.1 23 (by decide) (by decide)]; exact hby.trans ew) a (nI a - 1) _ (Nat.le_refl _) (fun z => by rw [z]; rfl) (fun z => i_nI (sub_hi (nI_hi (by omega)) i1 z)) fT_rf rfl rfl (by rw [Nat.sub_self]; exact sts_T g5 fT_tl (fun i hi => rfl))
    · rw [Nat.sub_self, Nat.add_zero] at K
      exact K
    · rw [g4] at k4
      have := ih (kid f π w 0 a ++ rest) s3 (l ++ [1, nI w]) (by rw [oTs_kid, List.length_append]; omega) (fT_tr g1' k1) k4 hall (by
        rw [k3]
        show upd s2.1 25 (s2.1 25 + 2) 25 = _
        rw [up_at, g6, List.length_append]
        exact nI_2 (by omega)) (fun i x hi => by rw [k2]; exact tld_tl (x := 1) (y := nI w) g7 (by omega) i x hi) (by rw [← hl, oTs_kid]; simp) (plOk_T g8 (fT_tr fT_tl k1)) (anS_T g9 (fT_tr fT_tl k1))
      rw [List.length_append, kid_len, Nat.add_comm a rest.length] at this
      exact this
theorem tm_loop (hmn : m < n) (bN : N ≤ 512) (hP1 : s.2 1 = P 1) (hok : anOk P t0 an) {out : List Int32} (hout : out.length ≤ 4700) (hQ : ∀ s', fT s s' → s'.1 25 = nI out.length → tld s' 0 out → Q (.inl none) (mW E G m n s')) :
    ∀ (W : Nat) (it : List (Nat × List Nat)) (s1 : mS) (l : List Int32), (oTs P t0 an it).length < W → fT s s1 → sts s1 pl X it → (∀ q ∈ it, dOk P t0 an q.1 q.2) → s1.1 25 = nI l.length → tld s1 0 l → l ++ oTs P t0 an it = out → plOk s1 P N t0 pos pl X → anS s1 pl X an →
      GT E Y_Model_tellMissing d G0 168 [(0, .ref m), (1, .int (nI it.length))] [] (mW E G m n s1) Q := by
  intro W
  induction W with
  | zero => intro it s1 l h; omega
  | succ W ih =>
    intro it s1 l hW f1 hs hd h25 htl hl hpl han
    have bX := plOk_X hpl
    have hlen : l.length + (oTs P t0 an it).length ≤ 4700 := by rw [← List.length_append, hl]; exact hout
    have hit := oTs_pos hd
    cases it with
    | nil =>
      refine m_W_tm_a hmn (by show nI 0 ≤ 0; decide) (m_W_tm_e hmn (by show nI 0 ≤ 0; decide) ?_)
      simp only [oTs, List.append_nil] at hl
      subst hl
      exact hQ s1 f1 h25 htl
    | cons q rest =>
      obtain ⟨f, π⟩ := q
      have hdq := hd (f, π) List.mem_cons_self
      have hdr : ∀ y ∈ rest, dOk P t0 an y.1 y.2 := fun y hy => hd y (List.mem_cons_of_mem _ hy)
      simp only [List.length_cons] at hit ⊢
      simp only [oTs, List.length_append] at hW hlen hit hl
      cases f with
      | zero => exact hdq.elim
      | succ f =>
        have place := tm_place (W := W) hmn bN hP1 hok hout ih hdq hdr hW hl bX
        rcases hs.1 with ⟨p, p1, p2, p3⟩ | ⟨o, k, w, p1, p2, p3, p4, p5, p6⟩
        · refine m_W_tm_b hmn (M := rest.length) (by omega) (by rw [p2]; exact nI_pos (by omega)) ?_
          exact place s1 p f1 p2 p1 p3 hs.2 h25 htl hpl han
        · have p6' : π = pl o ++ [4 * w + k] := p6
          rcases (hpl.2.2.2.1 o p1).2.2 (4 * w + k) (by omega) with z | ⟨p', z1, z2, z3, z4⟩
          · have e0 : (an π).1 = 0 := han.2 π (by rw [p6']; exact no_place hpl p1 (by omega) z (by omega))
            have eT : aT P t0 an (f + 1) π = [2, 0] := by simp only [aT]; rw [if_pos e0]
            rw [eT] at hW hl
            refine m_W_tm_d hmn (M := rest.length) (o := o) (k := k) (w := w) (c := l.length) (by omega) p4 (by omega) p2 p5 p3 h25 (by omega) (by rw [show 32 * o + 4 * w + k = 32 * o + (4 * w + k) by omega, z]; exact Int32.le_refl _) ?_
            refine ih rest _ (l ++ [2, 0]) (by simp at hW; omega) (fT_tr f1 fT_tl) (sts_T hs.2 fT_tl (fun i hi => rfl)) hdr ?_ (tld_tl htl (by omega)) (by rw [← hl]; simp) (plOk_T hpl fT_tl) (anS_T han fT_tl)
            show upd s1.1 25 (s1.1 25 + 2) 25 = _
            rw [up_at, h25, List.length_append]
            exact nI_2 (by omega)
          · have e22 : s1.2 22 (32 * o + 4 * w + k) = nI p' := by rw [show 32 * o + 4 * w + k = 32 * o + (4 * w + k) by omega]; exact z3
            refine m_W_tm_c hmn (M := rest.length) (o := o) (k := k) (w := w) (by omega) p4 (by omega) p2 p5 p3 (by rw [e22]; intro q; have := (le_hi (nI_hi (n := p') (by omega)) (show (0 : Int32).toInt = ((0 : Nat) : Int) by decide)).mp q; omega) ?_
            rw [e22]
            have f2 : fT s1 (wA s1 36 rest.length (nI p')) := fT_st
            have e36 : (wA s1 36 rest.length (nI p')).2 36 rest.length = nI p' := by
              show upd (s1.2 36) rest.length (nI p') rest.length = _
              exact up_at
            refine m_W_tm_b hmn (M := rest.length) (by omega) (by rw [e36]; exact nI_pos (by omega)) ?_
            exact place _ p' (fT_tr f1 f2) e36 z2 (by rw [z4, p6']) (sts_T hs.2 f2 (fun i hi => by
              show upd (s1.2 36) rest.length (nI p') i = _
              exact up_ne (by omega))) h25 htl (plOk_T hpl f2) (anS_T han f2)
/-- what it tells -/
theorem m_W_tellMissing (hmn : m < n) (bN : N ≤ 512) (hP1 : s.2 1 = P 1) (hok : anOk P t0 an) (hpl : plOk s P N t0 pos pl X) (han : anS s pl X an) (h25 : s.1 25 = 0) {F : Nat} (hd : dOk P t0 an F []) (hb : (aT P t0 an F []).length ≤ 4700) :
    GM E Y_Model_tellMissing d [.ref m] (mW E G m n s) (fun o G' => o = .inl none ∧ ∃ s', G' = mW E G m n s' ∧ fT s s' ∧ s'.1 25 = nI (aT P t0 an F []).length ∧ tld s' 0 (aT P t0 an F [])) := by
  refine m_W_tm_i hmn ?_
  have e36 : (wA s 36 0 0).2 36 0 = nI 0 := by
    show upd (s.2 36) 0 0 0 = _
    exact up_at
  have bX := plOk_X hpl
  cases F with
  | zero => exact hd.elim
  | succ F =>
    have K := tm_place (E := E) (d := d) (G := G) (G0 := mW E G m n s) (Q := fun o G' => o = .inl none ∧ ∃ s', G' = mW E G m n s' ∧ fT s s' ∧ s'.1 25 = nI (aT P t0 an (F + 1) []).length ∧ tld s' 0 (aT P t0 an (F + 1) [])) (s := s) (pl := pl) (X := X) (N := N) (pos := pos) (t0 := t0) (an := an) (out := aT P t0 an (F + 1) []) (W := (aT P t0 an (F + 1) []).length) (f := F) (π := []) (rest := []) (l := []) hmn bN hP1 hok hb ?_ hd (fun y hy => by cases hy) (by simp [oTs]) (by simp [oTs]) bX (wA s 36 0 0) 0 fT_st e36 hpl.2.1 hpl.2.2.1 trivial h25 (fun i x h => by simp at h) (plOk_T hpl fT_st) (anS_T han fT_st)
    · exact K
    · exact fun it s1 l h1 h2 h3 h4 h5 h6 h7 h8 h9 => tm_loop (E := E) (d := d) (G := G) (G0 := mW E G m n s) (s := s) (pl := pl) (X := X) hmn bN hP1 hok hb (fun s' q1 q2 q3 => ⟨rfl, s', rfl, q1, q2, q3⟩) _ it s1 l h1 h2 h3 h4 h5 h6 h7 h8 h9
end BJ
