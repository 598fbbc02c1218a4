/-! Rows.insert -/
section BT
variable {E : gE} {d : Nat} {G G0 : gS} {a : Nat} {c c' : cS} {u u' : uS} {n n' sl sl' : Nat} {Q : gO → gS → Prop} {Nb Sb : Nat}
/-- an operation on the list of rows alone leaves the rows -/
theorem rw_keep {ks sp : List Nat} (h : rwOk E a Nb Sb c u n sl ks sp) (hf : uFr u u' n (c.2.2.2 0)) (hn : n ≤ n') : (∀ b ∈ ks ++ sp, rowW u' a b ∧ b + 4 ≤ n' ∧ xOf u' b = xOf u b) ∧ rFr u u' n := by
  have hD : ∀ q, q < n → u.1 q ≠ 0 → u.1 q ≠ 9 → q ≠ c.2.2.2 0 := fun q hq h0 h9 e => by
    rcases h.2.2.2.1.2.1 with ⟨-, g⟩ | ⟨g, -⟩
    · have := (h.2.2.1 q h0).1
      rw [e, g] at this
      have := h.1
      omega
    · rw [e] at h9
      exact h9 g.1
  refine ⟨fun b hb => ?_, hf.1, fun q hq h5 h9 => ?_⟩
  · obtain ⟨hw, hb4⟩ := h.2.2.2.2.2.1 b hb
    refine ⟨⟨zIs_fr hf hw.1 (by omega), zIs_fr hf hw.2.1 (by omega), zIs_fr hf hw.2.2.1 (by omega), zIs_fr hf hw.2.2.2 (by omega)⟩, by omega, ?_⟩
    have e0 := hf.2 b (by omega) (hD b (by omega) (by rw [hw.1.1]; decide) (by rw [hw.1.1]; decide))
    have e1 := hf.2 (b + 1) (by omega) (hD _ (by omega) (by rw [hw.2.1.1]; decide) (by rw [hw.2.1.1]; decide))
    have e2 := hf.2 (b + 2) (by omega) (hD _ (by omega) (by rw [hw.2.2.1.1]; decide) (by rw [hw.2.2.1.1]; decide))
    have e3 := hf.2 (b + 3) (by omega) (hD _ (by omega) (by rw [hw.2.2.2.1]; decide) (by rw [hw.2.2.2.1]; decide))
    unfold xOf
    rw [e0.2.1, e1.2.1, e2.2.2, e3.2.1]
  · exact hf.2 q hq (hD q hq (by omega) h9)
theorem cFr_r (h : cFr c c' 14 15 0) : rFc c c' := ⟨fun j _ h2 h3 => h.1 j h2 h3, h.2.1, h.2.2.1, h.2.2.2⟩
theorem rFc_13 {v : Int32} : rFc c (cF c 13 v) := ⟨fun j h _ _ => up_ne h, rfl, rfl, fun _ _ => rfl⟩
set_option maxHeartbeats 400000 in
set_option maxRecDepth 100000 in
theorem m_S_ins72 {l m sp : List Nat} {b : Nat} (hlo : lOk E c u a n 15 0 1 1000 ((l ++ b :: m) ++ sp)) (h13 : c.1 13 = nI (l.length + m.length)) (kk : Q (.inl (some (.ref b))) (yW E G a (cF c 13 (nI (l ++ b :: m).length)) u n sl)) {fr : Int32} : GT E Y_Rows_insert (d + 3) G0 72 [(0, .ref (a + 13)), (1, .int fr), (2, .int (nI l.length))] [] (yW E G a c u n sl) Q := by
  have hlen : (l ++ b :: m).length = l.length + m.length + 1 := by simp; omega
  have hi : ((l ++ b :: m) ++ sp)[l.length]? = some b := by
    rw [List.getElem?_append_left (by omega)]
    exact mid_at
  have hlo2 : lOk E (cF c 13 (nI (l ++ b :: m).length)) u a n 15 0 1 1000 ((l ++ b :: m) ++ sp) := hlo
  refine g_aload_n d_Rows_insert_72 rfl ?_
  refine g_dup d_Rows_insert_73 rfl ?_
  refine x_get (k := 13) (j := 1) (v := .int (c.1 13)) kc_Rows fl_Rows_18 (by decide) (by decide) rfl rfl d_Rows_insert_74 ?_
  rw [h13]
  refine g_iconst (v := 1) d_Rows_insert_77 (by decide) ?_
  refine g_iadd d_Rows_insert_78 ?_
  refine g_top (nI (l ++ b :: m).length) (by rw [hlen]; exact nI_1 _) ?_
  refine x_put (c' := (cF c 13 (nI (l ++ b :: m).length))) (k := 13) (j := 1) kc_Rows fl_Rows_18 (by decide) (by decide) rfl rfl rfl rfl (Nat.le_of_ble_eq_true rfl) rfl rfl xf_F13 d_Rows_insert_79 ?_
  refine g_aload_n d_Rows_insert_82 rfl ?_
  refine x_get (k := 13) (j := 0) (v := .ref (a + 14)) kc_Rows fl_Rows_12 (by decide) (by decide) rfl rfl d_Rows_insert_83 ?_
  refine g_iload_n d_Rows_insert_86 rfl ?_
  refine c_Vr (as := [.int (nI l.length)]) kv_ArrayList_get ml_Rows_28 rfl (x_at (k := 14) (by decide) rfl) (m_K_get lk_rows hlo2 (by omega) hi) rfl (Nat.le_of_ble_eq_true rfl) rfl d_Rows_insert_87 rfl ?_
  refine z_cast (kb := 1) cl_Rows_32 rfl (hlo.2.2.2 b (List.mem_of_getElem? hi)).1 (by decide) d_Rows_insert_90 ?_
  refine g_aret rfl (by first | exact Or.inl ⟨_, rfl⟩ | exact Or.inr ⟨_, rfl⟩) (by first | exact Or.inl rfl | exact Or.inr ⟨_, rfl⟩) d_Rows_insert_93 ?_
  exact kk
set_option maxHeartbeats 400000 in
set_option maxRecDepth 100000 in
theorem m_S_ins42 {l m sp : List Nat} {b : Nat} (h : rwOk E a Nb Sb c u n sl (l ++ m) (b :: sp)) {fr : Int32} (kk : (∀ c' u' n' sl' sp', rwOk E a Nb Sb c' u' n' sl' (l ++ b :: m) sp' → rFc c c' → rFr u u' n → n ≤ n' → (∀ x ∈ l ++ m, xOf u' x = xOf u x) → Q (.inl (some (.ref b))) (yW E G a c' u' n' sl'))) : GT E Y_Rows_insert (d + 3) G0 42 [(0, .ref (a + 13)), (1, .int fr), (2, .int (nI l.length))] [] (yW E G a c u n sl) Q := by
  have hlen : (l ++ m).length = l.length + m.length := by simp
  have hl1 := rw_len h
  simp only [List.length_cons] at hl1
  obtain ⟨h1, h2, h3, h4, h5, h6, h7, h8, h9, hA, hB⟩ := id h
  rw [hlen] at h7
  by_cases hm : m = []
  · subst hm
    simp only [List.length_nil, Nat.add_zero] at h7 hl1 hlen
    refine g_iload_n d_Rows_insert_42 rfl ?_
    refine g_aload_n d_Rows_insert_43 rfl ?_
    refine x_get (k := 13) (j := 1) (v := .int (c.1 13)) kc_Rows fl_Rows_18 (by decide) (by decide) rfl rfl d_Rows_insert_44 ?_
    rw [h7]
    refine g_icmp_ge (tgt := 72) d_Rows_insert_47 (by decide) (fun c_47 => ?_) (fun c_47 => ?_)
    rotate_left
    · exact absurd c_47 (fun q => q (Int32.le_refl _))
    have e : (l ++ []) ++ b :: sp = (l ++ b :: []) ++ sp := by simp
    rw [e] at h4 h5 h6 h8 h9
    have e2 : l ++ ([] : List Nat) = l := List.append_nil _
    refine m_S_ins72 (l := l) (m := []) (sp := sp) h4 h7 (kk _ _ _ _ sp ⟨h1, h2, h3, h4, h5, h6, rfl, h8, h9, hA, hB⟩ rFc_13 rFr_rf (Nat.le_refl _) (fun x _ => rfl))
  · have hm1 : 1 ≤ m.length := by
      cases m with
      | nil => exact absurd rfl hm
      | cons y z => simp
    have e0 : (l ++ m) ++ b :: sp = (l ++ m) ++ b :: sp := rfl
    have hw := h6 b (by simp)
    refine g_iload_n d_Rows_insert_42 rfl ?_
    refine g_aload_n d_Rows_insert_43 rfl ?_
    refine x_get (k := 13) (j := 1) (v := .int (c.1 13)) kc_Rows fl_Rows_18 (by decide) (by decide) rfl rfl d_Rows_insert_44 ?_
    rw [h7]
    refine g_icmp_ge (tgt := 72) d_Rows_insert_47 (by decide) (fun c_47 => ?_) (fun c_47 => ?_)
    · exact absurd c_47 (ige (by omega) (by omega) (by omega))
    refine g_aload_n d_Rows_insert_50 rfl ?_
    refine x_get (k := 13) (j := 0) (v := .ref (a + 14)) kc_Rows fl_Rows_12 (by decide) (by decide) rfl rfl d_Rows_insert_51 ?_
    refine g_iload_n d_Rows_insert_54 rfl ?_
    refine g_aload_n d_Rows_insert_55 rfl ?_
    refine x_get (k := 13) (j := 0) (v := .ref (a + 14)) kc_Rows fl_Rows_12 (by decide) (by decide) rfl rfl d_Rows_insert_56 ?_
    refine g_aload_n d_Rows_insert_59 rfl ?_
    refine x_get (k := 13) (j := 1) (v := .int (c.1 13)) kc_Rows fl_Rows_18 (by decide) (by decide) rfl rfl d_Rows_insert_60 ?_
    rw [h7, ← hlen]
    refine c_Vx (as := [.int (nI (l ++ m).length)]) kv_ArrayList_remove ml_Rows_102 rfl (x_at (k := 14) (by decide) rfl) (m_K_remove lk_rows h4 (by decide) (by omega)) rfl (Nat.le_of_ble_eq_true rfl) rfl d_Rows_insert_63 rfl (fun G_63 h_63 => ?_)
    obtain ⟨c1, u1, rfl, lo1, cf1, cd1, uf1, uk1, ul1, dn1, cap1⟩ := h_63
    obtain ⟨kp1, rf1⟩ := rw_keep h uf1 (Nat.le_refl _)
    have hw1 := (kp1 b (by simp)).1
    have hx1 : zIs u1 a b 1 := hw1.1
    refine z_cast (kb := 1) cl_Rows_32 rfl hx1 (by decide) d_Rows_insert_66 ?_
    have zc : ∀ P : Prop, (zIs u a (c.2.2.2 0) (9 + 0) ∧ c.2.2.2 0 < n ∧ 10 ≤ u.2.1 (c.2.2.2 0) ∧ ((l ++ m) ++ b :: sp).length ≤ u.2.1 (c.2.2.2 0) ∧ u.2.1 (c.2.2.2 0) ≤ 10 + 2 * 1000 → P) → P := fun P hP => by
      rcases h4.2.1 with ⟨z, -⟩ | z
      · simp at z
      · exact hP ⟨z.1, z.2.1, z.2.2.1, z.2.2.2.1, z.2.2.2.2.1⟩
    have KI := m_K_insert (E := E) (d := d + 1) (G := G) (n := n) (sl := sl) (c := c1) (u := u1) (B := 1000) (kb := 1) (l := l) (r := m ++ sp) (x := b) lk_rows (by rw [List.append_assoc] at lo1; exact lo1) (by decide) (by omega) (by simp only [List.length_append]; omega) (zc _ (fun z => by rw [cd1]; exact ⟨(uk1 _).trans z.1.1, z.1.2⟩)) (by rw [cd1, ul1]; simp only [List.length_append] at cap1 ⊢; omega) (fun q hq => h3 q (by rw [← uk1]; exact hq)) (zc _ (fun z => by rw [cd1, ul1]; exact z.2.2.2.2)) hx1 (by omega) (zc _ (fun z => by rw [cd1, ul1]; exact z.2.2.1)) h1
    refine c_Vx (as := [.int (nI l.length), .ref (b)]) kv_ArrayList_add3 ml_Rows_105 rfl (x_at (k := 14) (by decide) rfl) (KI) rfl (Nat.le_of_ble_eq_true rfl) rfl d_Rows_insert_69 rfl (fun G_69 h_69 => ?_)
    obtain ⟨c2, u2, rfl, lo2, cf2, cd2, uf2, uk2, ul2⟩ := h_69
    have kp2 : ∀ x ∈ (l ++ m) ++ b :: sp, rowW u2 a x ∧ x + 4 ≤ n ∧ xOf u2 x = xOf u x := fun x hx => by
      obtain ⟨w1, w2, w3⟩ := kp1 x hx
      have hq : ∀ q, u1.1 q ≠ 0 → u1.1 q ≠ 9 → q ≠ c1.2.2.2 0 := fun q z0 z9 e => by
        rw [e, cd1] at z9
        rcases h4.2.1 with ⟨z, -⟩ | ⟨z, -⟩
        · simp at z
        · exact z9 ((uk1 _).trans z.1)
      refine ⟨⟨zIs_fr uf2 w1.1 (by omega), zIs_fr uf2 w1.2.1 (by omega), zIs_fr uf2 w1.2.2.1 (by omega), zIs_fr uf2 w1.2.2.2 (by omega)⟩, w2, ?_⟩
      rw [← w3]
      have e0 := uf2.2 x (by omega) (hq _ (by rw [w1.1.1]; decide) (by rw [w1.1.1]; decide))
      have e1 := uf2.2 (x + 1) (by omega) (hq _ (by rw [w1.2.1.1]; decide) (by rw [w1.2.1.1]; decide))
      have e2 := uf2.2 (x + 2) (by omega) (hq _ (by rw [w1.2.2.1.1]; decide) (by rw [w1.2.2.1.1]; decide))
      have e3 := uf2.2 (x + 3) (by omega) (hq _ (by rw [w1.2.2.2.1]; decide) (by rw [w1.2.2.2.1]; decide))
      unfold xOf
      rw [e0.2.1, e1.2.1, e2.2.2, e3.2.1]
    have rf2 : rFr u u2 n := by
      refine ⟨fun q _ => (uk2 q).trans (uk1 q), fun q hq z5 z9 => ?_⟩
      obtain ⟨p1, p2, p3⟩ := rf1.2 q hq z5 z9
      have e := uf2.2 q hq (fun e => by
        rw [cd1] at e
        rcases h4.2.1 with ⟨z, -⟩ | ⟨z, -⟩
        · simp at z
        · rw [e] at z9
          exact z9 z.1)
      exact ⟨e.1.trans p1, e.2.1.trans p2, e.2.2.trans p3⟩
    have ea : l ++ b :: (m ++ sp) = (l ++ b :: m) ++ sp := by simp
    rw [ea] at lo2
    have hp : ((l ++ b :: m) ++ sp).Perm ((l ++ m) ++ b :: sp) := by
      rw [List.append_assoc, List.cons_append, List.append_assoc]
      exact (List.Perm.append_left l (List.perm_middle.symm))
    have hlp := hp.length_eq
    have r13 : c2.1 13 = nI (l.length + m.length) := by rw [cf2.1 13 (by decide) (by decide), cf1.1 13 (by decide) (by decide)]; exact h7
    have ecap : lCap E (cF c2 13 (nI (l ++ b :: m).length)) u2 0 = lCap E c u 0 := by
      unfold lCap
      show (if c2.2.2.2 0 = gDef E then 0 else u2.2.1 (c2.2.2.2 0)) = _
      rw [cd2, cd1, ul2, ul1]
    have rfc : rFc c (cF c2 13 (nI (l ++ b :: m).length)) := rFc_tr (rFc_tr (cFr_r cf1) (cFr_r cf2)) rFc_13
    refine m_S_ins72 (l := l) (m := m) (sp := sp) lo2 r13 (kk _ _ _ _ sp ⟨h1, h2, fun q hq => h3 q (by rw [← uk1, ← uk2]; exact hq), lo2, hp.nodup_iff.mpr h5, fun x hx => ?_, rfl, ?_, ?_, hA, hB⟩ rfc rf2 (Nat.le_refl _) (fun x hx => (kp2 x (List.mem_append_left _ hx)).2.2))
    · have := kp2 x (hp.mem_iff.mp hx)
      exact ⟨this.1, this.2.1⟩
    · rw [ecap, hlp]
      exact h8
    · rw [ecap, hlp]
      exact h9
theorem lCap_new {bs : List Nat} (h : lOk E c u a n 15 0 1 1000 bs) : lCap E c (uRow u n) 0 = lCap E c u 0 := by
  unfold lCap
  rcases h.2.1 with ⟨-, e⟩ | ⟨-, e, -⟩
  · rw [if_pos e, if_pos e]
  · rw [(uRow_o (Or.inl e)).2.1]
theorem uFr_new : uFr u (uRow u n) n n := ⟨fun q hq => (uRow_o (Or.inl hq)).1, fun q hq _ => (uRow_o (Or.inl hq)).2⟩
/-- a new row: the world is one again -/
theorem w_row {G' : gS} (hok : gOk E (yW E G a c u n sl)) (hok' : gOk E G') (ha : a + 24 ≤ n) (h1 : G'.2.1 = n + 4) (h2 : G'.2.2 = sl + 61) (hk : gKeep (n + 1) n (gNew (yW E G a c u n sl) (.inr (7, [.null, .null, .null, .int 0, .int 0])) 5) G') (p0 : G'.1 n = some (.inr (7, [.ref (n + 1), .ref (n + 1 + 1), .ref (n + 1 + 2), .int 0, .int 0]))) (p1 : G'.1 (n + 1) = some (gAI E 24 (fun _ => 0))) (p2 : G'.1 (n + 1 + 1) = some (gAT E 24 (fun _ => none))) (p3 : G'.1 (n + 1 + 2) = some (gAI E 8 (fun _ => 0))) : G' = yW E G a c (uRow u n) (n + 4) (sl + 61) := by
  refine yW_of ha (fun q hq => ?_) h1 h2 (by omega) (fun q hq1 hq2 => ?_) (fun q y hy => by have := (hok'.2 q y hy).2; omega) (fun q y hy => (hok.2 q y hy).2) (fun q hq => uRow_o hq)
  · rw [hk q (by omega) (by omega)]
    show va_up (yW E G a c u n sl).1 n _ q = _
    exact if_neg (by omega)
  · obtain ⟨j, rfl⟩ : ∃ j, q = n + j := ⟨q - n, by omega⟩
    have hj : j < 4 := by omega
    obtain ⟨k1, k2, k3⟩ := uRow_k (u := u) (n := n) hj
    refine ⟨?_, by rw [k1]; omega⟩
    rw [k1]
    rcases (show j = 0 ∨ j = 1 ∨ j = 2 ∨ j = 3 by omega) with rfl | rfl | rfl | rfl
    · rw [show n + 0 = n from rfl, p0]
      show _ = (some (.inr (7, zF 1 n ((uRow u n).2.2.1 n))) : Option va_E)
      rw [show (uRow u n).2.2.1 n = fun _ => 0 from k2]
      rfl
    · rw [p1]
      show _ = some (gAI E 24 ((uRow u n).2.2.1 (n + 1)))
      rw [k2]
    · rw [show n + 2 = n + 1 + 1 from rfl, p2]
      show _ = some (gAT E 24 ((uRow u n).2.2.2 (n + 2)))
      rw [k3]
    · rw [show n + 3 = n + 1 + 2 from rfl, p3]
      show _ = some (gAI E 8 ((uRow u n).2.2.1 (n + 3)))
      rw [k2]

theorem rw_new {ks : List Nat} (h : rwOk E a Nb Sb c u n sl ks []) : uOk (uRow u n) a (n + 4) ∧ lOk E c (uRow u n) a (n + 4) 15 0 1 1000 ks ∧ zIs (uRow u n) a n 1 := by
  obtain ⟨h1, h2, h3, h4, h5, h6, h7, h8, h9, hA, hB⟩ := h
  rw [List.append_nil] at h4
  refine ⟨fun q hq => ?_, lOk_fr h4 uFr_new (by omega) rfl rfl ?_, (row_new h2).1⟩
  · by_cases e : q < n ∨ n + 4 ≤ q
    · rw [(uRow_o e).1] at hq
      have := h3 q hq
      exact ⟨this.1, by omega⟩
    · exact ⟨by omega, by omega⟩
  · rcases h4.2.1 with ⟨-, e⟩ | ⟨-, e, -⟩
    · rw [e]
      omega
    · omega
set_option maxHeartbeats 400000 in
set_option maxRecDepth 100000 in
theorem m_S_ins13 {l m sp : List Nat} (h : rwOk E a Nb Sb c u n sl (l ++ m) sp) (hK : l.length + m.length ≤ 900) {fr : Int32} (kk : ∀ b, (∀ c' u' n' sl' sp', rwOk E a Nb Sb c' u' n' sl' (l ++ b :: m) sp' → rFc c c' → rFr u u' n → n ≤ n' → (∀ x ∈ l ++ m, xOf u' x = xOf u x) → Q (.inl (some (.ref b))) (yW E G a c' u' n' sl'))) : GT E Y_Rows_insert (d + 7) G0 13 [(0, .ref (a + 13)), (1, .int fr), (2, .int (nI l.length))] [] (yW E G a c u n sl) Q := by
  have hlen : (l ++ m).length = l.length + m.length := by simp
  obtain ⟨h1, h2, h3, h4, h5, h6, h7, h8, h9, hA, hB⟩ := id h
  rw [hlen] at h7
  have hcap := lCap_le h4
  have h15 := h4.1
  have hl0 := rw_len h
  rw [hlen] at hl0
  cases sp with
  | cons b sp =>
    have hl2 : (l ++ m ++ b :: sp).length = l.length + m.length + sp.length + 1 := by simp; omega
    simp only [List.length_cons] at hl0
    refine g_aload_n d_Rows_insert_13 rfl ?_
    refine x_get (k := 13) (j := 1) (v := .int (c.1 13)) kc_Rows fl_Rows_18 (by decide) (by decide) rfl rfl d_Rows_insert_14 ?_
    rw [h7]
    refine g_aload_n d_Rows_insert_17 rfl ?_
    refine x_get (k := 13) (j := 0) (v := .ref (a + 14)) kc_Rows fl_Rows_12 (by decide) (by decide) rfl rfl d_Rows_insert_18 ?_
    refine c_Vr (as := []) kv_ArrayList_size ml_Rows_96 rfl (x_at (k := 14) (by decide) rfl) (m_L_size lk_rows) rfl (Nat.le_of_ble_eq_true rfl) rfl d_Rows_insert_21 rfl ?_
    refine g_icmp_ne (tgt := 42) d_Rows_insert_24 (by decide) (fun c_24 => ?_) (fun c_24 => ?_)
    rotate_left
    · exact absurd c_24 (fun q => by have := congrArg tn q; rw [tnI (by omega), h15, hl2, tnI (by omega)] at this; omega)
    exact m_S_ins42 (d := d + 4) h (kk b)
  | nil =>
    rw [List.append_nil] at h15
    have h4' : lOk E c u a n 15 0 1 1000 (l ++ m) := by rw [List.append_nil] at h4; exact h4
    rw [List.append_nil, hlen] at h8 h9
    refine g_aload_n d_Rows_insert_13 rfl ?_
    refine x_get (k := 13) (j := 1) (v := .int (c.1 13)) kc_Rows fl_Rows_18 (by decide) (by decide) rfl rfl d_Rows_insert_14 ?_
    rw [h7]
    refine g_aload_n d_Rows_insert_17 rfl ?_
    refine x_get (k := 13) (j := 0) (v := .ref (a + 14)) kc_Rows fl_Rows_12 (by decide) (by decide) rfl rfl d_Rows_insert_18 ?_
    refine c_Vr (as := []) kv_ArrayList_size ml_Rows_96 rfl (x_at (k := 14) (by decide) rfl) (m_L_size lk_rows) rfl (Nat.le_of_ble_eq_true rfl) rfl d_Rows_insert_21 rfl ?_
    refine g_icmp_ne (tgt := 42) d_Rows_insert_24 (by decide) (fun c_24 => ?_) (fun c_24 => ?_)
    · exact absurd c_24 (fun q => q (by rw [h15, hlen]))
    refine g_aload_n d_Rows_insert_27 rfl ?_
    refine x_get (k := 13) (j := 0) (v := .ref (a + 14)) kc_Rows fl_Rows_12 (by decide) (by decide) rfl rfl d_Rows_insert_28 ?_
    refine g_ok (fun hok => ?_)
    refine g_new kc_Row cl_Rows_32 ki_Row.1 ki_Row.2 (fs := [.null, .null, .null, .int 0, .int 0]) (by decide +kernel) (by show n + 1 ≤ _; omega) (by show sl + 5 ≤ _; omega) d_Rows_insert_31 ?_
    refine g_dup d_Rows_insert_34 rfl ?_
    refine c_INx (as := []) kn_Row_init ml_Rows_97 (m_Row_init (a := n) (n := n + 1) (sl := sl + 5) gNew_at rfl rfl (by omega) (by omega) (by omega)) rfl (Nat.le_of_ble_eq_true rfl) rfl d_Rows_insert_35 rfl (fun G1 hG1 => ?_)
    obtain ⟨p1, p2, p3, p4, p5, p6, p7⟩ := hG1
    refine g_ok (fun hok' => ?_)
    have eG := w_row hok hok' h2 p1 p2 p3 p4 p5 p6 p7
    subst eG
    obtain ⟨n1, n2, n3⟩ := rw_new h
    have ec := lCap_new h4'
    refine c_V (as := [.ref n]) kv_ArrayList_add ml_Rows_98 rfl (x_at (k := 14) (by decide) rfl) (m_K_add lk_rows h1 n1 (by omega) n2 (by decide) (by omega) (by omega) n3 (by omega) (by omega) (by omega)) rfl (Nat.le_of_ble_eq_true rfl) rfl d_Rows_insert_38 (fun v G2 hq => ?_) (fun D G2 hq => absurd hq.1 (by simp))
    obtain ⟨ho, c2, u2, n2', sl2, rfl, lo2, cf2, uf2, uo2, nn2, rn2, rs2, -⟩ := hq
    cases ho
    refine g_pop d_Rows_insert_41 rfl ?_
    show GT E Y_Rows_insert (d + 7) G0 42 _ [] _ _
    have hD : ∀ q, q < n → u.1 q ≠ 0 → u.1 q ≠ 9 → q ≠ c.2.2.2 0 := fun q hq z0 z9 e => by
      rcases h4'.2.1 with ⟨-, g⟩ | ⟨g, -⟩
      · have := (h3 q z0).1
        rw [e, g] at this
        omega
      · rw [e] at z9
        exact z9 g.1
    have hD4 : ∀ j, j < 4 → n + j ≠ c.2.2.2 0 := fun j hj e => by
      rcases h4'.2.1 with ⟨-, g⟩ | ⟨-, g, -⟩
      · omega
      · omega
    have kpo : ∀ q, q < n → u.1 q ≠ 0 → u.1 q ≠ 9 → u2.1 q = u.1 q ∧ u2.2.1 q = u.2.1 q ∧ u2.2.2.1 q = u.2.2.1 q ∧ u2.2.2.2 q = u.2.2.2 q := fun q hq z0 z9 => by
      obtain ⟨e1, e2, e3, e4⟩ := uRow_o (u := u) (n := n) (q := q) (Or.inl hq)
      obtain ⟨f2, f3, f4⟩ := uf2.2 q (by omega) (hD q hq z0 z9)
      exact ⟨(uf2.1 q (by omega)).trans e1, f2.trans e2, f3.trans e3, f4.trans e4⟩
    have rowO : ∀ x ∈ l ++ m, rowW u2 a x ∧ x + 4 ≤ n ∧ xOf u2 x = xOf u x := fun x hx => by
      obtain ⟨hw, hx4⟩ := h6 x (List.mem_append_left _ hx)
      have e0 := kpo x (by omega) (by rw [hw.1.1]; decide) (by rw [hw.1.1]; decide)
      have e1 := kpo (x + 1) (by omega) (by rw [hw.2.1.1]; decide) (by rw [hw.2.1.1]; decide)
      have e2 := kpo (x + 2) (by omega) (by rw [hw.2.2.1.1]; decide) (by rw [hw.2.2.1.1]; decide)
      have e3 := kpo (x + 3) (by omega) (by rw [hw.2.2.2.1]; decide) (by rw [hw.2.2.2.1]; decide)
      refine ⟨⟨⟨e0.1.trans hw.1.1, hw.1.2⟩, ⟨e1.1.trans hw.2.1.1, hw.2.1.2⟩, ⟨e2.1.trans hw.2.2.1.1, hw.2.2.1.2⟩, ⟨e3.1.trans hw.2.2.2.1, hw.2.2.2.2⟩⟩, hx4, ?_⟩
      unfold xOf
      rw [e0.2.2.1, e1.2.2.1, e2.2.2.2, e3.2.2.1]
    have hrw : rwOk E a Nb Sb c2 u2 n2' sl2 (l ++ m) [n] := by
      refine ⟨h1, by omega, uo2, lo2, ?_, fun x hx => ?_, ?_, ?_, ?_, hA, hB⟩
      · refine List.nodup_append.mpr ⟨by rw [List.append_nil] at h5; exact h5, by simp, fun x hx y hy e => ?_⟩
        rcases List.mem_singleton.mp hy with rfl
        have := (h6 x (List.mem_append_left _ hx)).2
        omega
      · rcases List.mem_append.mp hx with hx | hx
        · obtain ⟨w1, w2, -⟩ := rowO x hx
          exact ⟨w1, by omega⟩
        · rcases List.mem_singleton.mp hx with rfl
          have hw := row_new (u := u) h2
          refine ⟨⟨zIs_fr uf2 hw.1 (by omega), zIs_fr uf2 hw.2.1 (by omega), zIs_fr uf2 hw.2.2.1 (by omega), zIs_fr uf2 hw.2.2.2 (by omega)⟩, by omega⟩
      · rw [cf2.1 13 (by decide) (by decide), hlen]
        exact h7
      · rw [List.length_append, List.length_append]
        simp only [List.length_cons, List.length_nil]
        omega
      · rw [List.length_append, List.length_append]
        simp only [List.length_cons, List.length_nil]
        omega
    refine m_S_ins42 (d := d + 4) hrw (fun c3 u3 n3' sl3 sp3 r3 f3 g3 k3 x3 => kk n c3 u3 n3' sl3 sp3 r3 (rFc_tr (cFr_r cf2) f3) (rFr_tr ⟨fun q hq => (uf2.1 q (by omega)).trans (uRow_o (Or.inl hq)).1, fun q hq z5 z9 => (kpo q hq (by omega) z9).2⟩ g3 (by omega)) (by omega) (fun x hx => (x3 x hx).trans (rowO x hx).2.2))
/-- a spare row comes behind l -/
def inQ (E : gE) (G : gS) (a Nb Sb : Nat) (l m : List Nat) (c : cS) (u : uS) (n : Nat) : gO → gS → Prop := fun o G' => ∃ b c' u' n' sl' sp', o = .inl (some (.ref b)) ∧ G' = yW E G a c' u' n' sl' ∧ rwOk E a Nb Sb c' u' n' sl' (l ++ b :: m) sp' ∧ rFc c c' ∧ rFr u u' n ∧ n ≤ n' ∧ ∀ x ∈ l ++ m, xOf u' x = xOf u x
set_option maxHeartbeats 400000 in
set_option maxRecDepth 100000 in
theorem m_S_insert {l m sp : List Nat} {fr : Nat} (h : rwOk E a Nb Sb c u n sl (l ++ m) sp) (hK : l.length + m.length ≤ 900) (hf : fr ≤ l.length + m.length) (h80 : l.length + m.length < fr + 80) : GM E Y_Rows_insert (d + 7) [.ref (a + 13), .int (nI fr), .int (nI l.length)] (yW E G a c u n sl) (inQ E G a Nb Sb l m c u n) := by
  refine g_entry (by decide) (by simp [Value.category]) (Nat.le_of_ble_eq_true rfl) ?_
  have hlen : (l ++ m).length = l.length + m.length := by simp
  have h7 := h.2.2.2.2.2.2.1
  refine g_aload_n d_Rows_insert_0 rfl ?_
  refine x_get (k := 13) (j := 1) (v := .int (c.1 13)) kc_Rows fl_Rows_18 (by decide) (by decide) rfl rfl d_Rows_insert_1 ?_
  rw [h7, hlen]
  refine g_iload_n d_Rows_insert_4 rfl ?_
  refine g_isub d_Rows_insert_5 ?_
  refine g_bipush (v := 80) d_Rows_insert_6 (by decide) ?_
  refine g_icmp_lt (tgt := 13) d_Rows_insert_8 (by decide) (fun c_8 => ?_) (fun c_8 => ?_)
  rotate_left
  · exact absurd c_8 (fun q => q ((lt_hi (sub_hi (nI_hi (by omega)) (nI_hi (by omega)) hf) (show (80 : Int32).toInt = ((80 : Nat) : Int) by decide)).mpr (by omega)))
  exact m_S_ins13 h hK (fun b c' u' n' sl' sp' r f g k x => ⟨b, c', u', n', sl', sp', rfl, rfl, r, f, g, k, x⟩)
end BT
