/-! The reference's tell, bound and boundAt: contracts -/
section BS
variable {E : gE} {d : Nat} {G G0 : gS} {m n : Nat} {s s' : mS} {Q : gO → gS → Prop} {P : Nat → Nat → Int32}
def aVp (P : Nat → Nat → Int32) (T : Nat → List Int32) (v : Nat) : Nat → Nat → List Int32
  | _, 0 => []
  | k, a + 1 => T (tn (P 6 (4 * v + k))) ++ aVp P T v (k + 1) a
/-- what is told of a value -/
def aVl (P : Nat → Nat → Int32) : Nat → Nat → List Int32
  | 0, _ => []
  | f + 1, v => if P 3 v = 1 then [0, P 5 v] else [1, P 5 v] ++ aVp P (aVl P f) v 0 (aAr P v)
/-- a value, no deeper than f -/
def vOk (P : Nat → Nat → Int32) : Nat → Nat → Prop
  | 0, _ => False
  | f + 1, v => v < 512 ∧ (P 3 v = 1 ∨ (P 3 v = 2 ∧ (∃ t w, t < 16 ∧ P 4 v = nI t ∧ w < 8 ∧ P 5 v = nI w) ∧ P 1 (8 * tn (P 4 v) + tn (P 5 v)) = nI (aAr P v) ∧ aAr P v ≤ 4 ∧ ∀ i, i < aAr P v → (∃ u, u < 512 ∧ P 6 (4 * v + i) = nI u) ∧ vOk P f (tn (P 6 (4 * v + i)))))
def vts (s : mS) : List (Nat × Nat) → Prop
  | [] => True
  | q :: r => s.2 36 r.length = nI q.2 ∧ vts s r
def oVs (P : Nat → Nat → Int32) : List (Nat × Nat) → List Int32
  | [] => []
  | q :: r => aVl P q.1 q.2 ++ oVs P r
/-- nothing but what is told and the stack has changed -/
def fV (s s' : mS) : Prop := (∀ j, j ≠ 36 → j ≠ 39 → s'.2 j = s.2 j) ∧ ∀ k, k ≠ 58 → s'.1 k = s.1 k
theorem fV_rf : fV s s := ⟨fun _ _ _ => rfl, fun _ _ => rfl⟩
theorem fV_tr {t : mS} (h : fV s s') (h' : fV s' t) : fV s t := ⟨fun j a b => (h'.1 j a b).trans (h.1 j a b), fun k a => (h'.2 k a).trans (h.2 k a)⟩
theorem fV_tp {c : Nat} {x y : Int32} : fV s (rTp s c x y) := by
  refine ⟨fun j a b => ?_, fun k a => ?_⟩
  · unfold rTp wF wA wR upA
    dsimp only
    simp only [b, if_false]
  · show upd s.1 58 _ k = _
    exact up_ne a
theorem fV_st {q : Nat} {x : Int32} : fV s (wA s 36 q x) := by
  refine ⟨fun j a b => ?_, fun k a => rfl⟩
  unfold wA wR upA
  dsimp only
  simp only [a, if_false]
theorem vts_T : ∀ {l : List (Nat × Nat)}, vts s l → (∀ i, i < l.length → s'.2 36 i = s.2 36 i) → vts s' l
  | [], _, _ => trivial
  | q :: r, h, hi => by
    refine ⟨?_, vts_T h.2 (fun i hl => hi i (by simp; omega))⟩
    rw [hi r.length (by simp)]
    exact h.1
/-- told from 0 on -/
def tlv (s : mS) (l : List Int32) : Prop := ∀ i x, l[i]? = some x → s.2 39 i = x
theorem tlv_tp {c : Nat} {l : List Int32} {x y : Int32} (h : tlv s l) (hc : c = l.length) : tlv (rTp s c x y) (l ++ [x, y]) := by
  intro i z hi
  rcases Nat.lt_or_ge i l.length with hlt | hge
  · rw [List.getElem?_append_left hlt] at hi
    show upd (upd (s.2 39) c x) (c + 1) y i = z
    rw [up_ne (by omega), up_ne (by omega)]
    exact h i z hi
  · rw [List.getElem?_append_right hge] at hi
    have hlt : i - l.length < 2 := (List.getElem?_eq_some_iff.mp hi).1
    rcases (show i - l.length = 0 ∨ i - l.length = 1 by omega) with e | e
    · rw [e] at hi
      cases hi
      show upd (upd (s.2 39) c x) (c + 1) y i = x
      rw [up_ne (by omega), show i = c by omega, up_at]
    · rw [e] at hi
      cases hi
      show upd (upd (s.2 39) c x) (c + 1) y i = y
      rw [show i = c + 1 by omega, up_at]
theorem aVl_pos {f v : Nat} : vOk P f v → 2 ≤ (aVl P f v).length := by
  intro h
  cases f with
  | zero => exact h.elim
  | succ f =>
    simp only [aVl]
    split <;> simp
theorem oVs_pos : ∀ {l : List (Nat × Nat)}, (∀ q ∈ l, vOk P q.1 q.2) → 2 * l.length ≤ (oVs P l).length
  | [], _ => Nat.le_refl _
  | q :: r, h => by
    have h1 := aVl_pos (h q List.mem_cons_self)
    have h2 := oVs_pos (l := r) (fun y hy => h y (List.mem_cons_of_mem _ hy))
    simp only [oVs, List.length_cons, List.length_append]
    omega
def vid (P : Nat → Nat → Int32) (f v : Nat) : Nat → Nat → List (Nat × Nat)
  | _, 0 => []
  | k, a + 1 => (f, tn (P 6 (4 * v + k))) :: vid P f v (k + 1) a
theorem vid_len {f v : Nat} : ∀ (a k : Nat), (vid P f v k a).length = a
  | 0, _ => rfl
  | a + 1, k => by
    simp only [vid, List.length_cons]
    rw [vid_len a (k + 1)]
theorem oVs_vid {f v : Nat} {r : List (Nat × Nat)} : ∀ (a k : Nat), oVs P (vid P f v k a ++ r) = aVp P (aVl P f) v k a ++ oVs P r
  | 0, _ => rfl
  | a + 1, k => by
    simp only [vid, List.cons_append, oVs, aVp]
    rw [oVs_vid a (k + 1), List.append_assoc]
theorem vid_ok {f v : Nat} : ∀ (a k : Nat), (∀ j, k ≤ j → j < k + a → vOk P f (tn (P 6 (4 * v + j)))) → ∀ q ∈ vid P f v k a, vOk P q.1 q.2
  | 0, _, _, q, h => by cases h
  | a + 1, k, hk, q, h => by
    rcases List.mem_cons.mp h with rfl | h
    · exact hk k (Nat.le_refl _) (by omega)
    · exact vid_ok a (k + 1) (fun j h1 h2 => hk j (by omega) (by omega)) q h
theorem tl_push (hmn : m < n) {q1 q4 : Int32} {v f a : Nat} {rest : List (Nat × Nat)} (bv : v < 512) (ba : a ≤ 4) (bM : rest.length + a < 2400) (h6 : s.2 6 = P 6) (hu : ∀ i, i < a → ∃ u, u < 512 ∧ P 6 (4 * v + i) = nI u)
    (kk : ∀ s1, fV s s1 → s1.2 39 = s.2 39 → s1.1 58 = s.1 58 → vts s1 (vid P f v 0 a ++ rest) → GT E Y_Model_tell d G0 14 [(0, .ref m), (1, .int q1), (2, .int (nI (rest.length + a)))] [] (mW E G m n s1) Q) :
    ∀ (j : Nat) (x : Int32) (s1 : mS), j ≤ a → (j = 0 → x = -1) → (1 ≤ j → x = nI (j - 1)) → fV s s1 → s1.2 39 = s.2 39 → s1.1 58 = s.1 58 → vts s1 (vid P f v j (a - j) ++ rest) →
      GT E Y_Model_tell d G0 122 [(0, .ref m), (1, .int q1), (2, .int (nI (rest.length + (a - j)))), (3, .int (nI v)), (4, .int q4), (5, .int x)] [] (mW E G m n s1) Q := by
  intro j
  induction j with
  | zero =>
    intro x s1 _ hx _ f1 f2 f3 hs
    rw [hx rfl]
    refine m_W_tl_t hmn (by decide) ?_
    rw [Nat.sub_zero] at hs ⊢
    exact kk s1 f1 f2 f3 hs
  | succ j ih =>
    intro x s1 hj _ hx f1 f2 f3 hs
    rw [hx (by omega), Nat.add_sub_cancel]
    refine m_W_tl_s hmn (M := rest.length + (a - (j + 1))) (v := v) (k := j) (by omega) (by omega) (by omega) ?_
    rw [show rest.length + (a - (j + 1)) + 1 = rest.length + (a - j) by omega]
    refine ih _ _ (by omega) (fun q => by rw [q]; rfl) (fun q => by rw [nI_m1 q (by omega)]) (fV_tr f1 fV_st) f2 f3 ?_
    rw [show a - j = (a - (j + 1)) + 1 by omega]
    have ll : (vid P f v (j + 1) (a - (j + 1)) ++ rest).length = rest.length + (a - (j + 1)) := by rw [List.length_append, vid_len]; omega
    show vts _ ((f, tn (P 6 (4 * v + j))) :: (vid P f v (j + 1) (a - (j + 1)) ++ rest))
    refine ⟨?_, vts_T hs (fun i hi => ?_)⟩
    · rw [ll]
      show upd (s1.2 36) _ (s1.2 6 (4 * v + j)) _ = _
      rw [up_at, f1.1 6 (by decide) (by decide), h6]
      obtain ⟨u, hu1, hu2⟩ := hu j (by omega)
      show P 6 (4 * v + j) = nI (tn (P 6 (4 * v + j)))
      rw [hu2, tnI (by omega)]
    · rw [ll] at hi
      show upd (s1.2 36) _ _ i = _
      exact up_ne (by omega)
theorem tl_loop (hmn : m < n) {q1 : Int32} (hP : sPA s P) {out : List Int32} (hout : out.length ≤ 120) (hQ : ∀ s', fV s s' → s'.1 58 = nI out.length → tlv s' out → Q (.inl none) (mW E G m n s')) :
    ∀ (W : Nat) (it : List (Nat × Nat)) (s1 : mS) (l : List Int32), (oVs P it).length < W → fV s s1 → vts s1 it → (∀ q ∈ it, vOk P q.1 q.2) → s1.1 58 = nI l.length → tlv s1 l → l ++ oVs P it = out →
      GT E Y_Model_tell d G0 14 [(0, .ref m), (1, .int q1), (2, .int (nI it.length))] [] (mW E G m n s1) Q := by
  intro W
  induction W with
  | zero => intro it s1 l h; omega
  | succ W ih =>
    intro it s1 l hW f1 hs hd h58 htl hl
    have hlen : l.length + (oVs P it).length ≤ 120 := by rw [← List.length_append, hl]; exact hout
    have hit := oVs_pos hd
    cases it with
    | nil =>
      refine m_W_tl_e hmn (by show nI 0 ≤ 0; decide) ?_
      simp only [oVs, List.append_nil] at hl
      subst hl
      exact hQ s1 f1 h58 htl
    | cons q rest =>
      obtain ⟨f, v⟩ := q
      have hdq := hd (f, v) List.mem_cons_self
      have hdr : ∀ y ∈ rest, vOk P y.1 y.2 := fun y hy => hd y (List.mem_cons_of_mem _ hy)
      simp only [List.length_cons] at hit ⊢
      simp only [oVs, List.length_append] at hW hlen hit hl
      cases f with
      | zero => exact hdq.elim
      | succ f =>
        have h36 : s1.2 36 rest.length = nI v := hs.1
        have e3 : s1.2 3 = P 3 := (f1.1 3 (by decide) (by decide)).trans (hP 3 (by omega))
        have e5 : s1.2 5 = P 5 := (f1.1 5 (by decide) (by decide)).trans (hP 5 (by omega))
        have hdq2 : vOk P (f + 1) v := hdq
        obtain ⟨bv, hk⟩ := hdq2
        rcases hk with k1 | ⟨k2, ⟨t, w, t16, e4, w8, e5w⟩, e1, a4, hp⟩
        · have eT : aVl P (f + 1) v = [0, P 5 v] := by simp only [aVl]; rw [if_pos k1]
          rw [eT] at hW hl
          have hl2 := congrArg List.length hl
          simp only [List.length_append, List.length_cons, List.length_nil] at hl2 hW
          refine m_W_tl_1 hmn (M := rest.length) (c := l.length) (v := v) (by omega) h36 (by omega) h58 (by omega) (by rw [e3]; exact k1) ?_
          rw [e5]
          refine ih rest _ (l ++ [0, P 5 v]) (by omega) (fV_tr f1 fV_tp) (vts_T hs.2 (fun i hi => rfl)) hdr ?_ (tlv_tp htl rfl) (by rw [← hl]; simp)
          show upd s1.1 58 (s1.1 58 + 2) 58 = _
          rw [up_at, h58, List.length_append]
          exact nI_2 (by omega)
        · have n1 : ¬ P 3 v = 1 := by rw [k2]; decide
          have eT : aVl P (f + 1) v = [1, P 5 v] ++ aVp P (aVl P f) v 0 (aAr P v) := by
            simp only [aVl]
            rw [if_neg n1]
          rw [eT] at hW hl
          have hk' := vid_ok (P := P) (f := f) (v := v) (aAr P v) 0 (fun j _ h2 => (hp j (by omega)).2)
          have hall : ∀ y ∈ vid P f v 0 (aAr P v) ++ rest, vOk P y.1 y.2 := fun y hy => by
            rcases List.mem_append.mp hy with hy | hy
            · exact hk' y hy
            · exact hdr y hy
          have hcnt := oVs_pos hall
          rw [oVs_vid, List.length_append, List.length_append, vid_len] at hcnt
          have hl2 := congrArg List.length hl
          simp only [List.length_append, List.length_cons, List.length_nil] at hl2 hW
          have et : tn (P 4 v) = t := by rw [e4]; exact tnI (by omega)
          have ew : tn (P 5 v) = w := by rw [e5w]; exact tnI (by omega)
          refine m_W_tl_2 hmn (M := rest.length) (c := l.length) (v := v) (t := t) (w := w) (a := aAr P v) (by omega) h36 (by omega) h58 (by omega) (by rw [e3]; exact k2) (by rw [f1.1 4 (by decide) (by decide), hP 4 (by omega)]; exact e4) t16 (by rw [e5]; exact e5w) w8 (by rw [f1.1 1 (by decide) (by decide), hP 1 (by omega), ← et, ← ew]; exact e1) ?_
          have K := tl_push (E := E) (d := d) (G := G) (G0 := G0) (Q := Q) (P := P) (s := rTp s1 l.length 1 (nI w)) (q1 := q1) (q4 := nI (aAr P v)) (v := v) (f := f) (a := aAr P v) (rest := rest) hmn bv a4 (by omega) ((fV_tp.1 6 (by decide) (by decide)).trans ((f1.1 6 (by decide) (by decide)).trans (hP 6 (by omega)))) (fun i hi => (hp i hi).1) (fun s3 k1 k2 k3 k4 => ?_) (aAr P v) (nI (aAr P v) - 1) _ (Nat.le_refl _) (fun z => by rw [z]; rfl) (fun z => i_nI (sub_hi (nI_hi (by omega)) i1 z)) fV_rf rfl rfl (by rw [Nat.sub_self]; exact vts_T hs.2 (fun i hi => rfl))
          · rw [Nat.sub_self, Nat.add_zero] at K
            exact K
          · have := ih (vid P f v 0 (aAr P v) ++ rest) s3 (l ++ [1, P 5 v]) (by rw [oVs_vid, List.length_append]; omega) (fV_tr (fV_tr f1 fV_tp) k1) k4 hall (by
              rw [k3]
              show upd s1.1 58 (s1.1 58 + 2) 58 = _
              rw [up_at, h58, List.length_append]
              exact nI_2 (by omega)) (fun i x hi => by rw [k2]; rw [e5w] at hi; exact tlv_tp (x := 1) (y := nI w) htl rfl i x hi) (by rw [← hl, oVs_vid]; simp)
            rw [List.length_append, vid_len, Nat.add_comm (aAr P v) rest.length] at this
            exact this
theorem m_W_tell (hmn : m < n) (hP : sPA s P) {F v : Nat} (hv : vOk P F v) (hb : (aVl P F v).length ≤ 120) :
    GM E Y_Model_tell d [.ref m, .int (nI v)] (mW E G m n s) (fun o G' => o = .inl none ∧ ∃ s', G' = mW E G m n s' ∧ fV s s' ∧ s'.1 58 = nI (aVl P F v).length ∧ tlv s' (aVl P F v)) := by
  refine m_W_tl_i hmn ?_
  have f1 : fV s (wA (wF s 58 0) 36 0 (nI v)) := by
    refine ⟨fun j a b => ?_, fun k a => ?_⟩
    · unfold wA wF wR upA
      dsimp only
      simp only [a, if_false]
    · show upd s.1 58 0 k = _
      exact up_ne a
  exact tl_loop (E := E) (d := d) (G := G) (G0 := mW E G m n s) (q1 := nI v) (s := s) hmn hP hb (fun s' h1 h2 h3 => ⟨rfl, s', rfl, h1, h2, h3⟩) ((aVl P F v).length + 1) [(F, v)] _ [] (by simp [oVs]) f1 ⟨by show upd (s.2 36) 0 (nI v) 0 = _; exact up_at, trivial⟩ (fun q hq => by
    rcases List.mem_singleton.mp hq with rfl
    exact hv) (by show upd s.1 58 0 58 = _; exact up_at) (fun i x h => by simp at h) (by simp [oVs])
end BS
