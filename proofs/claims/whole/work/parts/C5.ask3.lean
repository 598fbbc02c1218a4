/-! Tree.ask: its contract -/
section CK
variable {E : gE} {d : Nat} {G G0 : gS} {a : Nat} {c c' c0 c1 : cS} {u u' u2 u0 : uS} {n n' n0 n1 sl sl' sl1 : Nat} {Q : gO → gS → Prop} {B SS : Nat} {P : Nat → Nat → Int32} {N t0 X C nk nk' : Nat} {tm cp : Nat → Nat} {ob : Nat → Int32} {T : Nat → Prop} {pos plc : Nat → List Nat} {ks bs sp ps qs qs' qs1 ms : List Nat} {Z : List zQ} {st : aSt}
/-- the counts of what is built -/
def tC (c : cS) (st : aSt) : Prop := c.1 10 = nI st.2.1 ∧ c.1 11 = nI st.2.2.1 ∧ c.1 9 = st.2.2.2.1 ∧ (st.2.2.1 = 0 → c.1 8 = 0) ∧ (¬ st.2.2.1 = 0 → c.1 8 = nI st.2.2.2.2.1.length ∧ mtT c 0 st.2.2.2.2.1) ∧ c.1 12 = nI st.2.2.2.2.2.2.2
theorem tC_fr (h : tC c st) (h1 : ∀ j, 8 ≤ j → j ≤ 12 → c'.1 j = c.1 j) (h2 : c'.2.1 5 = c.2.1 5) : tC c' st := by
  unfold tC mtT at h ⊢
  rw [h1 10 (by decide) (by decide), h1 11 (by decide) (by decide), h1 9 (by decide) (by decide), h1 8 (by decide) (by decide), h1 12 (by decide) (by decide), h2]
  exact h
/-- paths with those of an answer's arguments -/
def plcX (X : Nat) (plc : Nat → List Nat) (π : List Nat) (w : Nat) : Nat → List Nat := fun j => if j < X then plc j else π ++ [4 * w + (j - X)]
theorem plcX_lt {π : List Nat} {w j : Nat} (h : j < X) : plcX X plc π w j = plc j := if_pos h
theorem plcX_ge {π : List Nat} {w k : Nat} : plcX X plc π w (X + k) = π ++ [4 * w + k] := by
  unfold plcX
  rw [if_neg (by omega), Nat.add_sub_cancel_left]
/-- how many places an answer adds -/
def arq (P : Nat → Nat → Int32) (t0 : Nat) (π : List Nat) (k : Nat) : Nat := if P 0 (tyP P t0 π) ≤ 1 then 0 else tn (P 1 (8 * tyP P t0 π + k))
/-- a question's places are those of the question before, and its answer's -/
def zR1 (P : Nat → Nat → Int32) (t0 : Nat) (Z : List zQ) (Qs : List qR) (D : Nat) (up via : Int32) (X : Nat) (plc : Nat → List Nat) : Prop := (up = -1 → X = 1 ∧ ∀ p, p < 1 → plc p = []) ∧ ∀ (i : Nat) (xi : qR) (zi : zQ) (k : Nat), i < D → k < 2 ^ 31 → up = nI i → via = nI k → Qs[i]? = some xi → Z[i]? = some zi → X = zi.2.2.2.1 + arq P t0 xi.2.1 k ∧ ∀ p, p < X → plc p = plcX zi.2.2.2.1 zi.2.2.2.2.2 xi.2.1 k p
def zRl (P : Nat → Nat → Int32) (t0 : Nat) (Z : List zQ) (Qs : List qR) : Prop := Z.length = Qs.length ∧ ∀ (j : Nat) (x : qR) (z : zQ), Qs[j]? = some x → Z[j]? = some z → zR1 P t0 Z Qs j x.2.2.2.1 x.2.2.2.2 z.2.2.2.1 z.2.2.2.2.2
theorem zR1_app {Qs : List qR} {D : Nat} {up via : Int32} {z : zQ} {x : qR} (hD : D ≤ Qs.length) (hZ : Z.length = Qs.length) (h : zR1 P t0 Z Qs D up via X plc) : zR1 P t0 (Z ++ [z]) (Qs ++ [x]) D up via X plc := ⟨h.1, fun i xi zi k hi hk h1 h2 h3 h4 => by
  rw [List.getElem?_append_left (by omega)] at h3 h4
  exact h.2 i xi zi k hi hk h1 h2 h3 h4⟩
theorem zRl_add {Qs : List qR} {z : zQ} {x : qR} (h : zRl P t0 Z Qs) (hn : zR1 P t0 Z Qs Qs.length x.2.2.2.1 x.2.2.2.2 z.2.2.2.1 z.2.2.2.2.2) : zRl P t0 (Z ++ [z]) (Qs ++ [x]) := by
  obtain ⟨h1, h2⟩ := h
  refine ⟨by rw [List.length_append, List.length_append, h1]; rfl, fun j y w hy hw => ?_⟩
  rcases Nat.lt_or_ge j Qs.length with hlt | hge
  · rw [List.getElem?_append_left hlt] at hy
    rw [List.getElem?_append_left (by omega)] at hw
    exact zR1_app (by omega) h1 (h2 j y w hy hw)
  · have hj := (List.getElem?_eq_some_iff.mp hy).1
    rw [List.length_append, List.length_cons, List.length_nil] at hj
    obtain rfl : j = Qs.length := by omega
    rw [mid_at] at hy
    rw [← h1, mid_at] at hw
    cases hy
    cases hw
    exact zR1_app (Nat.le_refl _) h1 hn
/-- the class holds what is built: ks: the rows of all questions; bs: those of the tree that is planted now -/
def clT (E : gE) (a B SS : Nat) (P : Nat → Nat → Int32) (N t0 : Nat) (tm : Nat → Nat) (ob : Nat → Int32) (T : Nat → Prop) (C : Nat) (cp : Nat → Nat) (c : cS) (u : uS) (n sl : Nat) (ks bs sp ps qs ms : List Nat) (nk : Nat) (Z : List zQ) (st : aSt) : Prop :=
  hpOk E a B SS c u n sl (ks ++ bs) sp ps qs ms ∧ tmW P u a tm ob T ∧ cK P C cp tm c ∧ zqAll P N t0 a tm ob T c u ks qs nk Z st.1 ∧ zRl P t0 Z st.1 ∧ c.1 6 = nI st.1.length ∧ st.1.length ≤ qs.length ∧ st.1.length ≤ 1000 ∧ ks.length = st.2.2.2.2.2.1 ∧ ks.length ≤ 800 ∧ c.1 7 = nI nk ∧ nk ≤ ks.length ∧ tC c st
/-- a step of the tree: what it leaves; D questions are there -/
def tFr (c : cS) (u : uS) (n : Nat) (qs : List Nat) (D : Nat) (c' : cS) (u' : uS) (n' : Nat) (qs' : List Nat) : Prop := gF c u n c' u' n' ∧ ∀ j q, j < D → qs[j]? = some q → qs'[j]? = some q ∧ u'.2.2.1 q 11 = u.2.2.1 q 11
theorem tFr_tr {D D' : Nat} {c2 : cS} {n2 : Nat} {qs2 : List Nat} (h : tFr c u n qs D c' u' n' qs') (h' : tFr c' u' n' qs' D' c2 u2 n2 qs2) (hD : D ≤ D') : tFr c u n qs D c2 u2 n2 qs2 := ⟨gF_tr h.1 h'.1, fun j q hj hq => by
  obtain ⟨a1, a2⟩ := h.2 j q hj hq
  obtain ⟨b1, b2⟩ := h'.2 j q (by omega) a1
  exact ⟨b1, b2.trans a2⟩⟩
theorem tFr_g {D : Nat} (h : gF c u n c' u' n') (hl : lOk E c u a n 20 2 6 1001 qs) (hq : ∀ y, u.1 y = 6 → y < n → u'.2.2.1 y 11 = u.2.2.1 y 11) : tFr c u n qs D c' u' n' qs := ⟨h, fun j q _ hj => by
  have hz := lOk_get hl hj
  exact ⟨hj, hq q hz.2.2.2.2.1.1 hz.2.2.2.2.2⟩⟩
/-- the places stay as they are -/
def plS (c : cS) (u : uS) (n : Nat) (c' : cS) (u' : uS) : Prop := c'.1 16 = c.1 16 ∧ ∀ y, u.1 y = 5 → y < n → u'.2.2.1 y = u.2.2.1 y
theorem plS_tr {c2 : cS} (h : plS c u n c' u') (h' : plS c' u' n' c2 u2) (hk : kFr kT u u' n) (hn : n ≤ n') : plS c u n c2 u2 := ⟨h'.1.trans h.1, fun y hy hl => (h'.2 y (by rw [hk.1 y hl]; exact hy) (by omega)).trans (h.2 y hy hl)⟩
theorem zqAll_add {Qs : List qR} {q : Nat} {x : qR} {z : zQ} (h : zqAll P N t0 a tm ob T c u ks qs nk Z Qs) (hZ : Z.length = Qs.length) (hq : qs[Qs.length]? = some q) (hr : rcs u tm z.1 z.2.1) (hF : zqF P t0 a u q x ks.length z) (hP : zqP P N t0 ob T c nk x z) : zqAll P N t0 a tm ob T c u (ks ++ z.1) qs nk (Z ++ [z]) (Qs ++ [x]) := by
  intro j y hj
  rcases Nat.lt_or_ge j Qs.length with hlt | hge
  · rw [List.getElem?_append_left hlt] at hj
    obtain ⟨q', z', lA, lB, g1, g2, g3, g4⟩ := h j y hj
    refine ⟨q', z', lA, lB ++ z.1, g1, ?_, by rw [g3]; simp, g4⟩
    rw [List.getElem?_append_left (by omega)]
    exact g2
  · have hj2 := (List.getElem?_eq_some_iff.mp hj).1
    rw [List.length_append, List.length_cons, List.length_nil] at hj2
    obtain rfl : j = Qs.length := by omega
    rw [mid_at] at hj
    cases hj
    exact ⟨q, z, ks, [], hq, by rw [← hZ]; exact mid_at, by simp, hr, hF, hP⟩
/-- what ask gives -/
def akQ (E : gE) (G : gS) (a B SS : Nat) (P : Nat → Nat → Int32) (N t0 : Nat) (tm : Nat → Nat) (ob : Nat → Int32) (T : Nat → Prop) (C : Nat) (cp : Nat → Nat) (c : cS) (u : uS) (n : Nat) (ks bs sp ps qs ms : List Nat) (z : zQ) (Z : List zQ) (x : qR) (st : aSt) : gO → gS → Prop := fun o G' => o = .inl (some (.int 1)) ∧ ∃ c' u' n' sl' qs' nk' q, G' = yW E G a c' u' n' sl' ∧ clT E a B SS P N t0 tm ob T C cp c' u' n' sl' (ks ++ bs) [] sp ps qs' ms nk' (Z ++ [z]) (stQ x.1 x.2.1 x.2.2.1 x.2.2.2.1 x.2.2.2.2 st) ∧ tFr c u n qs st.1.length c' u' n' qs' ∧ plS c u n c' u' ∧ qs'[st.1.length]? = some q ∧ u'.2.2.1 q 11 = 0
theorem ask_fin {q : Nat} {z : zQ} {x : qR} (hT : clT E a B SS P N t0 tm ob T C cp c u n sl ks bs sp ps qs ms nk Z st) (h800 : (ks ++ bs).length ≤ 800) (hD : st.1.length < 1000) (hz1 : z.1 = bs) (hr : rcs u tm bs z.2.1) (hxl : x.1.length = bs.length) (hrel : zR1 P t0 Z st.1 st.1.length x.2.2.2.1 x.2.2.2.2 z.2.2.2.1 z.2.2.2.2.2)
    (nx : nxP E a B SS c u n st.1.length (ks ++ bs) sp ps qs ms c1 u2 n1 sl1 qs1 q) (hi : zqI u2 u' q) (hF : akF c1 c' nk) (hqF : zqF P t0 a u' q x ks.length z) (f11 : u'.2.2.1 q 11 = 0) (hzp : zqP P N t0 ob T c' nk' x z) (h7 : c'.1 7 = nI nk') (hnk : nk ≤ nk') (hnk2 : nk' ≤ (ks ++ bs).length) (h12 : c'.1 12 = nI (max st.2.2.2.2.2.2.2 (x.2.2.1 + 1))) :
    akQ E G a B SS P N t0 tm ob T C cp c u n ks bs sp ps qs ms z Z x st (.inl (some (.int 1))) (yW E G a c' u' n1 sl1) := by
  obtain ⟨t1, t2, t3, t4, t5, t6, t7, t8, t9, tA, tB, tC1, tD⟩ := hT
  obtain ⟨g1, g2, g3, g4, g5, ⟨e, g6⟩, g7, g8⟩ := nx
  have hzq := lOk_get g1.2.2.1 g8
  obtain ⟨r1, r2⟩ := zqI_hp g1 hi hzq.2.2.2.2.1.1
  have r3 := (hpOk_k (c' := c') (K := fun k => k = 5) r1 kFr_rf (fun k w => Or.inl w) (fun _ => rfl) (fun j hj => hF.1 j (by omega) (by omega)) (fun j => by rw [hF.2.2.1])).1
  have hkq := zqI_k (n := n1) hi hzq.2.2.2.2.1.1
  have hgf : gF c u n c' u' n1 := ⟨fun j hj => (hF.1 j (by omega) (by omega)).trans (g2.1 j (by omega) (by omega) (by omega)), fun j h4 h5 => (hF.2.1 j h4).trans (by rw [g2.2.1]), by rw [hF.2.2.1]; exact g2.2.2.1, by rw [hF.2.2.1]; exact g2.2.2.2 3 (by decide), kFr_tr (kFr_mono g3 (fun k w => by omega)) (kFr_mono hkq (fun k w => by omega)) g4, g4⟩
  have hxo : ∀ y ∈ ks ++ bs, xOf u' y = xOf u y := fun y hy => (r2 y (List.mem_append_left _ hy)).trans (g5 y (List.mem_append_left _ hy))
  have hold : ∀ j qo, qs[j]? = some qo → j < st.1.length → qs1[j]? = some qo ∧ u'.1 qo = u.1 qo ∧ u'.2.2.1 qo = u.2.2.1 qo := fun j qo hj hlt => by
    have hzo := lOk_get t1.2.2.1 hj
    have hj1 : qs1[j]? = some qo := by rw [g6, List.getElem?_append_left (List.getElem?_eq_some_iff.mp hj).1]; exact hj
    have hne : qo ≠ q := nd_ne g1.2.2.2.2.2.2.2 hj1 g8 (by omega)
    refine ⟨hj1, by rw [hi.1]; exact g3.1 qo hzo.2.2.2.2.2, ?_⟩
    rw [hi.2.2.2 qo hne]
    exact (g3.2 qo hzo.2.2.2.2.2 (by rw [hzo.2.2.2.2.1.1]; decide) (by rw [hzo.2.2.2.2.1.1]; decide)).2.1
  have hc4 : ∀ i, i < nk → c'.2.1 4 i = c.2.1 4 i := fun i h => (hF.2.2.2 i h).trans (by rw [g2.2.1])
  have hall := zqAll_fr (c' := c') (u' := u') (qs' := qs1) t4 (fun j qo hj hq => by
    obtain ⟨w1, w2, w3⟩ := hold j qo hq hj
    exact ⟨w1, w2, fun i _ => by rw [w3]⟩) (fun y hy => hxo y (List.mem_append_left _ hy)) hnk hc4
  have hall2 := zqAll_add (q := q) (x := x) (z := z) hall t5.1 g8 (by rw [hz1]; exact rcs_fr hr (fun y hy => hxo y (List.mem_append_right _ hy))) hqF hzp
  rw [hz1] at hall2
  have c8 : ∀ j, 8 ≤ j → j ≤ 11 → c'.1 j = c.1 j := fun j h1 h2 => (hF.1 j (by omega) (by omega)).trans (g2.1 j (by omega) (by omega) (by omega))
  have c25 : c'.2.1 5 = c.2.1 5 := (hF.2.1 5 (by decide)).trans (by rw [g2.2.1])
  have hlen : (stQ x.1 x.2.1 x.2.2.1 x.2.2.2.1 x.2.2.2.2 st).1.length = st.1.length + 1 := by simp [stQ]
  have hql := (List.getElem?_eq_some_iff.mp g8).1
  refine ⟨rfl, c', u', n1, sl1, qs1, nk', q, rfl, ⟨by rw [List.append_nil]; exact r3, tmW_g t2 (hpOk_un t1) hgf, cK_g t3 hgf, hall2, ?_, ?_, ?_, ?_, ?_, h800, h7, hnk2, ?_⟩, ⟨hgf, fun j qo hj hq => ?_⟩, ⟨?_, fun y hy hl => ?_⟩, g8, f11⟩
  · exact zRl_add t5 hrel
  · rw [hlen, hF.1 6 (by decide) (by decide)]
    exact g7
  · rw [hlen]
    omega
  · rw [hlen]
    omega
  · show _ = st.2.2.2.2.2.1 + x.1.length
    rw [List.length_append, t9, hxl]
  · obtain ⟨w1, w2, w3, w4, w5, w6⟩ := tD
    refine ⟨by rw [c8 10 (by decide) (by decide)]; exact w1, by rw [c8 11 (by decide) (by decide)]; exact w2, by rw [c8 9 (by decide) (by decide)]; exact w3, fun h => by rw [c8 8 (by decide) (by decide)]; exact w4 h, fun h => ?_, h12⟩
    obtain ⟨v1, v2⟩ := w5 h
    refine ⟨by rw [c8 8 (by decide) (by decide)]; exact v1, ?_⟩
    unfold mtT
    rw [c25]
    exact v2
  · obtain ⟨w1, w2, w3⟩ := hold j qo hq hj
    exact ⟨w1, by rw [w3]⟩
  · rw [hF.1 16 (by decide) (by decide)]
    exact g2.1 16 (by decide) (by decide) (by decide)
  · have hne : y ≠ q := fun e => by
      have h6 := hzq.2.2.2.2.1.1
      rw [← e, g3.1 y hl, hy] at h6
      exact absurd h6 (by decide)
    rw [hi.2.2.2 y hne]
    exact (g3.2 y hl (by rw [hy]; decide) (by rw [hy]; decide)).2.1
set_option maxHeartbeats 400000 in
set_option maxRecDepth 100000 in
theorem m_T_ask0 {D K : Nat} {up via fr : Int32} (h6 : c.1 6 = nI D) (hD : D ≤ 1000) (h13 : c.1 13 = nI K) (hK : K ≤ 1000) (hor : D = 1000 ∨ 800 < K) : GM E Y_Tree_ask (d + 8) [.ref (a + 12), .int up, .int via, .int fr] (yW E G a c u n sl) (rIs (some (.int 0)) (yW E G a c u n sl)) := by
  refine g_entry (by decide) (by simp [Value.category]) (Nat.le_of_ble_eq_true rfl) ?_
  by_cases hD2 : D = 1000
  · refine g_aload_n d_Tree_ask_0 rfl ?_
    refine x_get (k := 12) (j := 7) (v := .int (c.1 6)) kc_Tree fl_Tree_47 (by decide) (by decide) rfl rfl d_Tree_ask_1 ?_
    rw [h6]
    refine g_sipush (v := 1000) d_Tree_ask_4 (by decide) ?_
    refine g_icmp_ge (tgt := 23) d_Tree_ask_7 (by decide) (fun c_7 => ?_) (fun c_7 => ?_)
    rotate_left
    · exact absurd c_7 (fun q => q ((le_hi (show (1000 : Int32).toInt = ((1000 : Nat) : Int) by decide) (nI_hi (by omega))).mpr (by omega)))
    refine g_iconst (v := 0) d_Tree_ask_23 (by decide) ?_
    refine g_zret rfl rfl d_Tree_ask_24 ?_
    exact ⟨rfl, rfl⟩
  · refine g_aload_n d_Tree_ask_0 rfl ?_
    refine x_get (k := 12) (j := 7) (v := .int (c.1 6)) kc_Tree fl_Tree_47 (by decide) (by decide) rfl rfl d_Tree_ask_1 ?_
    rw [h6]
    refine g_sipush (v := 1000) d_Tree_ask_4 (by decide) ?_
    refine g_icmp_ge (tgt := 23) d_Tree_ask_7 (by decide) (fun c_7 => ?_) (fun c_7 => ?_)
    · exact absurd c_7 (fun q => by have := (le_hi (show (1000 : Int32).toInt = ((1000 : Nat) : Int) by decide) (nI_hi (by omega))).mp q; omega)
    refine g_aload_n d_Tree_ask_10 rfl ?_
    refine x_get (k := 12) (j := 2) (v := .ref (a + 13)) kc_Tree fl_Tree_12 (by decide) (by decide) rfl rfl d_Tree_ask_11 ?_
    refine c_Vr (as := []) kv_Rows_size ml_Tree_122 rfl (x_at (k := 13) (by decide) rfl) (m_S_size) rfl (Nat.le_of_ble_eq_true rfl) rfl d_Tree_ask_14 rfl ?_
    rw [h13]
    refine g_sipush (v := 800) d_Tree_ask_17 (by decide) ?_
    refine g_icmp_le (tgt := 25) d_Tree_ask_20 (by decide) (fun c_20 => ?_) (fun c_20 => ?_)
    · exact absurd c_20 (fun q => by have := (le_hi (nI_hi (by omega)) (show (800 : Int32).toInt = ((800 : Nat) : Int) by decide)).mp q; omega)
    refine g_iconst (v := 0) d_Tree_ask_23 (by decide) ?_
    refine g_zret rfl rfl d_Tree_ask_24 ?_
    exact ⟨rfl, rfl⟩
set_option maxHeartbeats 1000000 in
set_option maxRecDepth 100000 in
theorem m_T_ask1 (wf : wfA P N pos) (wb : wfB P N) (wk : wfK P N) (tp : tmP P N tm ob T) {b p k ow wy : Nat} {up via : Int32} {ws : List (Nat × Nat)} {bd : Nat → Option Nat} {Lr : List rC} (hAk : tyP P t0 (plc p) < 16) (hT : clT E a B SS P N t0 tm ob T C cp c u n sl ks (b :: bs) sp ps qs ms nk Z st) (h800 : (ks ++ b :: bs).length ≤ 800) (hD : st.1.length < 1000) (hr : rcs u tm (b :: bs) ((ow, (p, k) :: ws, bd) :: Lr)) (hw : rws P N ob T X ((ow, (p, k) :: ws, bd) :: Lr)) (hX16 : c.1 16 = nI X) (hX3 : X ≤ 3200) (hp0 : plc 0 = []) (hinj : ∀ i j, i < X → j < X → plc i = plc j → i = j) {y : Nat} (hy : ps[p]? = some y) (hyd : u.2.2.1 y 0 = nI (plc p).length)
    (hty : P 4 k = nI (tyP P t0 (plc p))) (hk1 : P 0 (tyP P t0 (plc p)) ≤ 1 → P 3 k = 1) (hk2 : ¬ P 0 (tyP P t0 (plc p)) ≤ 1 → P 3 k = 2 ∧ ∃ TT, 2 ≤ TT ∧ TT ≤ 9 ∧ P 0 (tyP P t0 (plc p)) = nI TT) (hwy : wy ≤ 2000) (hlg : st.2.2.2.2.2.2.2 ≤ 3000) (hup : (up = -1 ∧ wy = 0) ∨ ∃ i x, st.1[i]? = some x ∧ up = nI i ∧ wy = x.2.2.1 + 1) (hrel : zR1 P t0 Z st.1 st.1.length up via X plc) :
    GM E Y_Tree_ask (d + 8) [.ref (a + 12), .int up, .int via, .int (nI ks.length)] (yW E G a c u n sl) (akQ E G a B SS P N t0 tm ob T C cp c u n ks (b :: bs) sp ps qs ms (b :: bs, (ow, (p, k) :: ws, bd) :: Lr, p, X, nk, plc) Z (((ow, (p, k) :: ws, bd) :: Lr).map (rP plc), plc p, wy, up, via) st) := by
  obtain ⟨t1, t2, t3, t4, t5, t6, t7, t8, t9, tA, tB, tC1, tD⟩ := id hT
  have h13 := t1.1.2.2.2.2.2.2.1
  have hA1 := hw _ List.mem_cons_self
  have hpX : p < X := hA1.2.2.1 (p, k) List.mem_cons_self
  have hak : aK P k := hA1.2.1 (p, k) List.mem_cons_self
  obtain ⟨y1, y2, y3, y4, y5, -⟩ := tW_settled wf wk tp t2 (q := (p, k)) (hA1.1.1 (p, k) List.mem_cons_self).2 hak
  simp only at y1 y2 y3 y4 y5
  have h12 := tD.2.2.2.2.2
  have hRl : ((ow, (p, k) :: ws, bd) :: Lr).length = (b :: bs).length := (rcs_len hr).symm
  have hll : (ks ++ b :: bs).length = ks.length + (b :: bs).length := List.length_append
  have hns : aNs P (plc p) (((ow, (p, k) :: ws, bd) :: Lr).map (rP plc)) = nsC P p ((ow, (p, k) :: ws, bd) :: Lr) := ns_map _ (fun A hA q hq e => hinj _ _ ((hw A hA).2.2.1 q hq) hpX e)
  have hqsr : qSr P (plc p) (((ow, (p, k) :: ws, bd) :: Lr).map (rP plc)) = aSrt [] (nsC P p ((ow, (p, k) :: ws, bd) :: Lr)) := by
    unfold qSr
    rw [hns]
  have stgA : ∀ Q', (∀ c' u2 u' n' sl' qs' q, nxP E a B SS c u n st.1.length (ks ++ b :: bs) sp ps qs ms c' u2 n' sl' qs' q → zqI u2 u' q → u'.2.2.1 q 8 = nI wy → u'.2.2.1 q 9 = up → u'.2.2.1 q 10 = via → GT E Y_Tree_ask (d + 8) (yW E G a c u n sl) 73 [(0, .ref (a + 12)), (1, .int up), (2, .int via), (3, .int (nI ks.length)), (4, .ref q)] [] (yW E G a c' u' n' sl') Q') → GT E Y_Tree_ask (d + 8) (yW E G a c u n sl) 25 [(0, .ref (a + 12)), (1, .int up), (2, .int via), (3, .int (nI ks.length))] [] (yW E G a c u n sl) Q' := fun Q' kk => by
    rcases hup with ⟨rfl, rfl⟩ | ⟨i, x, hx, rfl, rfl⟩
    · exact m_T_askAr t1 t6 t7 (by omega) kk
    · obtain ⟨qu, z, lA, lB, g1, g2, g3, g4, g5, g6⟩ := t4 i x hx
      exact m_T_askAc (i := i) (qu := qu) (wy := x.2.2.1) g1 (List.getElem?_eq_some_iff.mp hx).1 g5.2.2.2.2.2.2.2.2.2.1 t1 t6 t7 (by omega) kk
  refine g_entry (by decide) (by simp [Value.category]) (Nat.le_of_ble_eq_true rfl) ?_
  refine g_aload_n d_Tree_ask_0 rfl ?_
  refine x_get (k := 12) (j := 7) (v := .int (c.1 6)) kc_Tree fl_Tree_47 (by decide) (by decide) rfl rfl d_Tree_ask_1 ?_
  rw [t6]
  refine g_sipush (v := 1000) d_Tree_ask_4 (by decide) ?_
  refine g_icmp_ge (tgt := 23) d_Tree_ask_7 (by decide) (fun c_7 => ?_) (fun c_7 => ?_)
  · exact absurd c_7 (fun q => by have := (le_hi (show (1000 : Int32).toInt = ((1000 : Nat) : Int) by decide) (nI_hi (by omega))).mp q; omega)
  refine g_aload_n d_Tree_ask_10 rfl ?_
  refine x_get (k := 12) (j := 2) (v := .ref (a + 13)) kc_Tree fl_Tree_12 (by decide) (by decide) rfl rfl d_Tree_ask_11 ?_
  refine c_Vr (as := []) kv_Rows_size ml_Tree_122 rfl (x_at (k := 13) (by decide) rfl) (m_S_size) rfl (Nat.le_of_ble_eq_true rfl) rfl d_Tree_ask_14 rfl ?_
  rw [h13]
  refine g_sipush (v := 800) d_Tree_ask_17 (by decide) ?_
  refine g_icmp_le (tgt := 25) d_Tree_ask_20 (by decide) (fun c_20 => ?_) (fun c_20 => ?_)
  rotate_left
  · exact absurd c_20 (fun q => q ((le_hi (nI_hi (by omega)) (show (800 : Int32).toInt = ((800 : Nat) : Int) by decide)).mpr h800))
  refine stgA _ (fun c1 u2 u3 n1 sl1 qs1 q nx i3 f8 f9 f10 => ?_)
  obtain ⟨g1, g2, g3, g4, g5, ⟨e, g6⟩, g7, g8⟩ := id nx
  have hzq := (lOk_get g1.2.2.1 g8).2.2.2.2.1
  have hz3 : zIs u3 a q 6 := zqI_z i3 hzq
  obtain ⟨r1, r2⟩ := zqI_hp g1 i3 hzq.1
  have hne : ∀ w, w ≠ q → u.1 w ≠ 0 → u.1 w ≠ 11 → w < n → u3.2.2.1 w = u.2.2.1 w := fun w h1 h2 h3 h4 => by
    rw [i3.2.2.2 w h1]
    exact (g3.2 w h4 h2 h3).2.1
  have hun := hpOk_un t1
  have hxo3 : ∀ w ∈ ks ++ b :: bs, xOf u3 w = xOf u w := fun w hw => (r2 w (List.mem_append_left _ hw)).trans (g5 w (List.mem_append_left _ hw))
  have hr3 : rcs u3 tm (b :: bs) ((ow, (p, k) :: ws, bd) :: Lr) := rcs_fr hr (fun w hw => hxo3 w (List.mem_append_right _ hw))
  have hzy := lOk_get t1.2.1 hy
  have hyq : y ≠ q := fun e => by
    have h6 := hzq.1
    rw [← e, g3.1 y hzy.2.2.2.2.2, hzy.2.2.2.2.1.1] at h6
    exact absurd h6 (by decide)
  have hyd3 : u3.2.2.1 y 0 = nI (plc p).length := by
    rw [hne y hyq (by rw [hzy.2.2.2.2.1.1]; decide) (by rw [hzy.2.2.2.2.1.1]; decide) hzy.2.2.2.2.2]
    exact hyd
  have htn := (hun (tm k) (by rw [y1.1]; decide)).2
  have htq : tm k ≠ q := fun e => by
    have h6 := hzq.1
    rw [← e, g3.1 (tm k) htn, y1.1] at h6
    exact absurd h6 (by decide)
  have hzt3 : zIs u3 a (tm k) 7 := zqI_z i3 ⟨(g3.1 _ htn).trans y1.1, y1.2⟩
  have ht3 : ∀ j, u3.2.2.1 (tm k) j = u.2.2.1 (tm k) j := fun j => by rw [hne (tm k) htq (by rw [y1.1]; decide) (by rw [y1.1]; decide) htn]
  have c16 : c1.1 16 = nI X := (g2.1 16 (by decide) (by decide) (by decide)).trans hX16
  have c7 : c1.1 7 = nI nk := (g2.1 7 (by decide) (by decide) (by decide)).trans tB
  have c12 : c1.1 12 = nI st.2.2.2.2.2.2.2 := (g2.1 12 (by decide) (by decide) (by decide)).trans h12
  by_cases hnum : P 0 (tyP P t0 (plc p)) ≤ 1
  · have e3 := hk1 hnum
    refine m_T_askBn (X := X) (dist := (plc p).length) r1 hz3 (by omega) hr3.1 hy (by omega) hyd3 c16 hzt3 (by rw [ht3, y4, e3]; decide) (fun u4 i4 k4 q0 q1 q2 q3 q4 q5 q11 => ?_)
    obtain ⟨r3, r4⟩ := zqI_hp r1 i4 hz3.1
    have hr4 : rcs u4 tm (b :: bs) ((ow, (p, k) :: ws, bd) :: Lr) := rcs_fr hr3 (fun w hw => r4 w (by simp only [List.mem_append]; exact Or.inl (Or.inr hw)))
    have hz4 : zIs u4 a q 6 := zqI_z i4 hz3
    have tw4 : tmW P u4 a tm ob T := tmW_to t2 (fun w hw => by
      have hwn := (hun w (by omega)).2
      have hwq : w ≠ q := fun e => by
        have h6 := hzq.1
        rw [← e, g3.1 w hwn] at h6
        omega
      have hk := g3.2 w hwn (by omega) (by omega)
      refine ⟨by rw [i4.1, i3.1]; exact g3.1 w hwn, by rw [i4.2.1, i3.2.1]; exact hk.1, ?_, by rw [i4.2.2.1, i3.2.2.1]; exact hk.2.2⟩
      rw [i4.2.2.2 w hwq, i3.2.2.2 w hwq]
      exact hk.2.1)
    refine m_T_askCn (p := p) (wy := wy) (lg := st.2.2.2.2.2.2.2) (R := (ow, (p, k) :: ws, bd) :: Lr) wf wb wk tp tw4 hz4 c7 c12 (by omega) (by rw [k4 8 (by decide) (by decide)]; exact f8) (by omega) r3 (rws_w hw (by omega)) (by omega) q0 q1 q2 q5 (by omega) (by omega) hr4 (fun c5 u5 i5 k5 q6 q7 aF a7 aN a12 => ?_)
    have hF : zqF P t0 a u5 q (((ow, (p, k) :: ws, bd) :: Lr).map (rP plc), plc p, wy, up, via) ks.length (b :: bs, (ow, (p, k) :: ws, bd) :: Lr, p, X, nk, plc) := by
      refine ⟨zqI_z i5 hz4, ?_, ?_, ?_, ?_, ?_, ?_, q6, ?_, ?_, ?_, ?_⟩
      · rw [k5 0 (by decide) (by decide)]; exact q0
      · rw [k5 1 (by decide) (by decide)]; exact q1
      · rw [k5 2 (by decide) (by decide)]; exact q2
      · rw [k5 3 (by decide) (by decide)]; exact q3
      · rw [k5 4 (by decide) (by decide)]; exact q4
      · rw [k5 5 (by decide) (by decide), if_pos hnum]; exact q5
      · rw [q7]
        unfold qN
        rw [if_pos hnum]
        show _ = nI ((qSr P (plc p) (((ow, (p, k) :: ws, bd) :: Lr).map (rP plc))).length + 1)
        rw [hqsr]
      · rw [k5 8 (by decide) (by decide), k4 8 (by decide) (by decide)]; exact f8
      · rw [k5 9 (by decide) (by decide), k4 9 (by decide) (by decide)]; exact f9
      · rw [k5 10 (by decide) (by decide), k4 10 (by decide) (by decide)]; exact f10
    have hSl : (aSrt [] (nsC P p ((ow, (p, k) :: ws, bd) :: Lr))).length ≤ (b :: bs).length := by
      have h1 := aSrt_len (l := nsC P p ((ow, (p, k) :: ws, bd) :: Lr)) (S := [])
      have h2 := nsC_len (P := P) (p := p) ((ow, (p, k) :: ws, bd) :: Lr)
      simp only [List.length_nil] at h1
      omega
    exact ask_fin (nk' := nk + (aSrt [] (nsC P p ((ow, (p, k) :: ws, bd) :: Lr))).length) hT h800 hD rfl hr (by rw [List.length_map]; exact hRl) hrel nx (zqI_tr (zqI_tr i3 i4) i5) aF hF (by rw [k5 11 (by decide) (by decide)]; exact q11) ⟨rfl, rfl, hpX, hX3, hw, hp0, hinj, ⟨ow, k, ws, bd, Lr, rfl⟩, fun _ => ⟨by rw [show qSr P (plc p) (((ow, (p, k) :: ws, bd) :: Lr).map (rP plc)) = _ from hqsr]; exact aN, by rw [show qSr P (plc p) (((ow, (p, k) :: ws, bd) :: Lr).map (rP plc)) = _ from hqsr]; exact Nat.le_refl _⟩⟩ a7 (by omega) (by omega) a12
  · obtain ⟨e3, TT, hT2, hT9, hTT⟩ := hk2 hnum
    refine m_T_askBk (X := X) (dist := (plc p).length) r1 hz3 (by omega) hr3.1 hy (by omega) hyd3 c16 hzt3 (by rw [ht3, y4, e3]; decide) (fun u4 i4 k4 q0 q1 q2 q3 q4 q5 q11 => ?_)
    obtain ⟨r3, r4⟩ := zqI_hp r1 i4 hz3.1
    have hr4 : rcs u4 tm (b :: bs) ((ow, (p, k) :: ws, bd) :: Lr) := rcs_fr hr3 (fun w hw => r4 w (by simp only [List.mem_append]; exact Or.inl (Or.inr hw)))
    have hz4 : zIs u4 a q 6 := zqI_z i4 hz3
    have hc0 : c1.2.1 0 (tyP P t0 (plc p)) = nI (TT - 1) := by
      rw [g2.2.1, t3.2.2.1 _ hAk, hTT]
      obtain ⟨m, rfl⟩ : ∃ m, TT = m + 1 := ⟨TT - 1, by omega⟩
      exact nI_s1 (by omega)
    refine m_T_askCk (k := k) (ty := tyP P t0 (plc p)) (TT := TT - 1) (wy := wy) (lg := st.2.2.2.2.2.2.2) hz4 c7 c12 (by omega) (by rw [k4 8 (by decide) (by decide)]; exact f8) (by omega) r3 hr4.1 (zqI_z i4 hzt3) (by rw [i4.2.2.2 _ htq, ht3, y3]; exact hty) hAk hc0 (by omega) q5 (fun c5 u5 i5 k5 q6 q7 aF a7 aN a12 => ?_)
    have hF : zqF P t0 a u5 q (((ow, (p, k) :: ws, bd) :: Lr).map (rP plc), plc p, wy, up, via) ks.length (b :: bs, (ow, (p, k) :: ws, bd) :: Lr, p, X, nk, plc) := by
      refine ⟨zqI_z i5 hz4, ?_, ?_, ?_, ?_, ?_, ?_, q6, ?_, ?_, ?_, ?_⟩
      · rw [k5 0 (by decide) (by decide)]; exact q0
      · rw [k5 1 (by decide) (by decide)]; exact q1
      · rw [k5 2 (by decide) (by decide)]; exact q2
      · rw [k5 3 (by decide) (by decide)]; exact q3
      · rw [k5 4 (by decide) (by decide)]; exact q4
      · rw [k5 5 (by decide) (by decide), if_neg hnum]; exact q5
      · rw [q7]
        unfold qN
        rw [if_neg hnum]
        show _ = nI (tn (P 0 (tyP P t0 (plc p))) - 1)
        rw [hTT, tnI (by omega)]
      · rw [k5 8 (by decide) (by decide), k4 8 (by decide) (by decide)]; exact f8
      · rw [k5 9 (by decide) (by decide), k4 9 (by decide) (by decide)]; exact f9
      · rw [k5 10 (by decide) (by decide), k4 10 (by decide) (by decide)]; exact f10
    exact ask_fin (nk' := nk) hT h800 hD rfl hr (by rw [List.length_map]; exact hRl) hrel nx (zqI_tr (zqI_tr i3 i4) i5) aF hF (by rw [k5 11 (by decide) (by decide)]; exact q11) ⟨rfl, rfl, hpX, hX3, hw, hp0, hinj, ⟨ow, k, ws, bd, Lr, rfl⟩, fun hh => absurd hh hnum⟩ (a7.trans c7) (by omega) (by omega) a12
end CK
