/-! The tree's objects: rows, places, questions, what is met; the room of all of them -/
theorem d_Place_begin_0 : decode Y_Place_begin.2.1 0 = .ok (.aload_n 0, 1) := by decide +kernel
theorem d_Place_begin_1 : decode Y_Place_begin.2.1 1 = .ok (.iload_n 1, 1) := by decide +kernel
theorem d_Place_begin_2 : decode Y_Place_begin.2.1 2 = .ok (.putfield 9, 3) := by decide +kernel
theorem d_Place_begin_5 : decode Y_Place_begin.2.1 5 = .ok (.aload_n 0, 1) := by decide +kernel
theorem d_Place_begin_6 : decode Y_Place_begin.2.1 6 = .ok (.invokevirtual 15, 3) := by decide +kernel
theorem d_Place_begin_9 : decode Y_Place_begin.2.1 9 = .ok (.return_, 1) := by decide +kernel
theorem d_Place_answer_0 : decode Y_Place_answer.2.1 0 = .ok (.aload_n 0, 1) := by decide +kernel
theorem d_Place_answer_1 : decode Y_Place_answer.2.1 1 = .ok (.iload_n 1, 1) := by decide +kernel
theorem d_Place_answer_2 : decode Y_Place_answer.2.1 2 = .ok (.putfield 18, 3) := by decide +kernel
theorem d_Place_answer_5 : decode Y_Place_answer.2.1 5 = .ok (.aload_n 0, 1) := by decide +kernel
theorem d_Place_answer_6 : decode Y_Place_answer.2.1 6 = .ok (.iload_n 2, 1) := by decide +kernel
theorem d_Place_answer_7 : decode Y_Place_answer.2.1 7 = .ok (.putfield 21, 3) := by decide +kernel
theorem d_Place_answer_10 : decode Y_Place_answer.2.1 10 = .ok (.aload_n 0, 1) := by decide +kernel
theorem d_Place_answer_11 : decode Y_Place_answer.2.1 11 = .ok (.iload_n 3, 1) := by decide +kernel
theorem d_Place_answer_12 : decode Y_Place_answer.2.1 12 = .ok (.putfield 24, 3) := by decide +kernel
theorem d_Place_answer_15 : decode Y_Place_answer.2.1 15 = .ok (.aload_n 0, 1) := by decide +kernel
theorem d_Place_answer_16 : decode Y_Place_answer.2.1 16 = .ok (.iload 4, 2) := by decide +kernel
theorem d_Place_answer_18 : decode Y_Place_answer.2.1 18 = .ok (.putfield 27, 3) := by decide +kernel
theorem d_Place_answer_21 : decode Y_Place_answer.2.1 21 = .ok (.return_, 1) := by decide +kernel
theorem d_Place_leave_0 : decode Y_Place_leave.2.1 0 = .ok (.aload_n 0, 1) := by decide +kernel
theorem d_Place_leave_1 : decode Y_Place_leave.2.1 1 = .ok (.iconst 2, 1) := by decide +kernel
theorem d_Place_leave_2 : decode Y_Place_leave.2.1 2 = .ok (.putfield 18, 3) := by decide +kernel
theorem d_Place_leave_5 : decode Y_Place_leave.2.1 5 = .ok (.aload_n 0, 1) := by decide +kernel
theorem d_Place_leave_6 : decode Y_Place_leave.2.1 6 = .ok (.iconst 0, 1) := by decide +kernel
theorem d_Place_leave_7 : decode Y_Place_leave.2.1 7 = .ok (.putfield 21, 3) := by decide +kernel
theorem d_Place_leave_10 : decode Y_Place_leave.2.1 10 = .ok (.aload_n 0, 1) := by decide +kernel
theorem d_Place_leave_11 : decode Y_Place_leave.2.1 11 = .ok (.iconst 0, 1) := by decide +kernel
theorem d_Place_leave_12 : decode Y_Place_leave.2.1 12 = .ok (.putfield 27, 3) := by decide +kernel
theorem d_Place_leave_15 : decode Y_Place_leave.2.1 15 = .ok (.return_, 1) := by decide +kernel
theorem d_Places_add_0 : decode Y_Places_add.2.1 0 = .ok (.aload_n 0, 1) := by decide +kernel
theorem d_Places_add_1 : decode Y_Places_add.2.1 1 = .ok (.getfield 18, 3) := by decide +kernel
theorem d_Places_add_4 : decode Y_Places_add.2.1 4 = .ok (.aload_n 0, 1) := by decide +kernel
theorem d_Places_add_5 : decode Y_Places_add.2.1 5 = .ok (.getfield 12, 3) := by decide +kernel
theorem d_Places_add_8 : decode Y_Places_add.2.1 8 = .ok (.invokevirtual 53, 3) := by decide +kernel
theorem d_Places_add_11 : decode Y_Places_add.2.1 11 = .ok (.if_icmp .ne 18, 3) := by decide +kernel
theorem d_Places_add_14 : decode Y_Places_add.2.1 14 = .ok (.aload_n 0, 1) := by decide +kernel
theorem d_Places_add_15 : decode Y_Places_add.2.1 15 = .ok (.getfield 12, 3) := by decide +kernel
theorem d_Places_add_18 : decode Y_Places_add.2.1 18 = .ok (.new 30, 3) := by decide +kernel
theorem d_Places_add_21 : decode Y_Places_add.2.1 21 = .ok (.dup, 1) := by decide +kernel
theorem d_Places_add_22 : decode Y_Places_add.2.1 22 = .ok (.invokespecial 57, 3) := by decide +kernel
theorem d_Places_add_25 : decode Y_Places_add.2.1 25 = .ok (.invokevirtual 58, 3) := by decide +kernel
theorem d_Places_add_28 : decode Y_Places_add.2.1 28 = .ok (.pop, 1) := by decide +kernel
theorem d_Places_add_29 : decode Y_Places_add.2.1 29 = .ok (.aload_n 0, 1) := by decide +kernel
theorem d_Places_add_30 : decode Y_Places_add.2.1 30 = .ok (.getfield 12, 3) := by decide +kernel
theorem d_Places_add_33 : decode Y_Places_add.2.1 33 = .ok (.aload_n 0, 1) := by decide +kernel
theorem d_Places_add_34 : decode Y_Places_add.2.1 34 = .ok (.getfield 18, 3) := by decide +kernel
theorem d_Places_add_37 : decode Y_Places_add.2.1 37 = .ok (.invokevirtual 26, 3) := by decide +kernel
theorem d_Places_add_40 : decode Y_Places_add.2.1 40 = .ok (.checkcast 30, 3) := by decide +kernel
theorem d_Places_add_43 : decode Y_Places_add.2.1 43 = .ok (.iload_n 1, 1) := by decide +kernel
theorem d_Places_add_44 : decode Y_Places_add.2.1 44 = .ok (.invokevirtual 61, 3) := by decide +kernel
theorem d_Places_add_47 : decode Y_Places_add.2.1 47 = .ok (.aload_n 0, 1) := by decide +kernel
theorem d_Places_add_48 : decode Y_Places_add.2.1 48 = .ok (.dup, 1) := by decide +kernel
theorem d_Places_add_49 : decode Y_Places_add.2.1 49 = .ok (.getfield 18, 3) := by decide +kernel
theorem d_Places_add_52 : decode Y_Places_add.2.1 52 = .ok (.iconst 1, 1) := by decide +kernel
theorem d_Places_add_53 : decode Y_Places_add.2.1 53 = .ok (.iadd, 1) := by decide +kernel
theorem d_Places_add_54 : decode Y_Places_add.2.1 54 = .ok (.putfield 18, 3) := by decide +kernel
theorem d_Places_add_57 : decode Y_Places_add.2.1 57 = .ok (.return_, 1) := by decide +kernel
theorem d_Tree_nextQuestion_0 : decode Y_Tree_nextQuestion.2.1 0 = .ok (.aload_n 0, 1) := by decide +kernel
theorem d_Tree_nextQuestion_1 : decode Y_Tree_nextQuestion.2.1 1 = .ok (.getfield 47, 3) := by decide +kernel
theorem d_Tree_nextQuestion_4 : decode Y_Tree_nextQuestion.2.1 4 = .ok (.aload_n 0, 1) := by decide +kernel
theorem d_Tree_nextQuestion_5 : decode Y_Tree_nextQuestion.2.1 5 = .ok (.getfield 28, 3) := by decide +kernel
theorem d_Tree_nextQuestion_8 : decode Y_Tree_nextQuestion.2.1 8 = .ok (.invokevirtual 227, 3) := by decide +kernel
theorem d_Tree_nextQuestion_11 : decode Y_Tree_nextQuestion.2.1 11 = .ok (.if_icmp .ne 18, 3) := by decide +kernel
theorem d_Tree_nextQuestion_14 : decode Y_Tree_nextQuestion.2.1 14 = .ok (.aload_n 0, 1) := by decide +kernel
theorem d_Tree_nextQuestion_15 : decode Y_Tree_nextQuestion.2.1 15 = .ok (.getfield 28, 3) := by decide +kernel
theorem d_Tree_nextQuestion_18 : decode Y_Tree_nextQuestion.2.1 18 = .ok (.new 67, 3) := by decide +kernel
theorem d_Tree_nextQuestion_21 : decode Y_Tree_nextQuestion.2.1 21 = .ok (.dup, 1) := by decide +kernel
theorem d_Tree_nextQuestion_22 : decode Y_Tree_nextQuestion.2.1 22 = .ok (.invokespecial 228, 3) := by decide +kernel
theorem d_Tree_nextQuestion_25 : decode Y_Tree_nextQuestion.2.1 25 = .ok (.invokevirtual 229, 3) := by decide +kernel
theorem d_Tree_nextQuestion_28 : decode Y_Tree_nextQuestion.2.1 28 = .ok (.pop, 1) := by decide +kernel
theorem d_Tree_nextQuestion_29 : decode Y_Tree_nextQuestion.2.1 29 = .ok (.aload_n 0, 1) := by decide +kernel
theorem d_Tree_nextQuestion_30 : decode Y_Tree_nextQuestion.2.1 30 = .ok (.dup, 1) := by decide +kernel
theorem d_Tree_nextQuestion_31 : decode Y_Tree_nextQuestion.2.1 31 = .ok (.getfield 47, 3) := by decide +kernel
theorem d_Tree_nextQuestion_34 : decode Y_Tree_nextQuestion.2.1 34 = .ok (.iconst 1, 1) := by decide +kernel
theorem d_Tree_nextQuestion_35 : decode Y_Tree_nextQuestion.2.1 35 = .ok (.iadd, 1) := by decide +kernel
theorem d_Tree_nextQuestion_36 : decode Y_Tree_nextQuestion.2.1 36 = .ok (.putfield 47, 3) := by decide +kernel
theorem d_Tree_nextQuestion_39 : decode Y_Tree_nextQuestion.2.1 39 = .ok (.aload_n 0, 1) := by decide +kernel
theorem d_Tree_nextQuestion_40 : decode Y_Tree_nextQuestion.2.1 40 = .ok (.getfield 28, 3) := by decide +kernel
theorem d_Tree_nextQuestion_43 : decode Y_Tree_nextQuestion.2.1 43 = .ok (.aload_n 0, 1) := by decide +kernel
theorem d_Tree_nextQuestion_44 : decode Y_Tree_nextQuestion.2.1 44 = .ok (.getfield 47, 3) := by decide +kernel
theorem d_Tree_nextQuestion_47 : decode Y_Tree_nextQuestion.2.1 47 = .ok (.iconst 1, 1) := by decide +kernel
theorem d_Tree_nextQuestion_48 : decode Y_Tree_nextQuestion.2.1 48 = .ok (.isub, 1) := by decide +kernel
theorem d_Tree_nextQuestion_49 : decode Y_Tree_nextQuestion.2.1 49 = .ok (.invokevirtual 63, 3) := by decide +kernel
theorem d_Tree_nextQuestion_52 : decode Y_Tree_nextQuestion.2.1 52 = .ok (.checkcast 67, 3) := by decide +kernel
theorem d_Tree_nextQuestion_55 : decode Y_Tree_nextQuestion.2.1 55 = .ok (.areturn, 1) := by decide +kernel
section CC
variable {E : gE} {d : Nat} {G G0 : gS} {a : Nat} {c c' c0 : cS} {u u' u2 u0 : uS} {n n' n0 sl sl' : Nat} {Q : gO → gS → Prop} {Nb Sb B S : Nat} {K K' : Nat → Prop} {b : Nat} {ks sp ps qs ms : List Nat}
/-- below n only objects of the kinds K have changed -/
def kFr (K : Nat → Prop) (u u' : uS) (n : Nat) : Prop := (∀ q, q < n → u'.1 q = u.1 q) ∧ ∀ q, q < n → u.1 q ≠ 0 → ¬ K (u.1 q) → u'.2.1 q = u.2.1 q ∧ u'.2.2.1 q = u.2.2.1 q ∧ u'.2.2.2 q = u.2.2.2 q
theorem kFr_rf : kFr K u u n := ⟨fun _ _ => rfl, fun _ _ _ _ => ⟨rfl, rfl, rfl⟩⟩
theorem kFr_tr (h : kFr K u u' n) (h' : kFr K u' u2 n') (hn : n ≤ n') : kFr K u u2 n := ⟨fun q hq => (h'.1 q (by omega)).trans (h.1 q hq), fun q hq h0 hk => by
  obtain ⟨a1, a2, a3⟩ := h.2 q hq h0 hk
  obtain ⟨b1, b2, b3⟩ := h'.2 q (by omega) (by rw [h.1 q hq]; exact h0) (by rw [h.1 q hq]; exact hk)
  exact ⟨b1.trans a1, b2.trans a2, b3.trans a3⟩⟩
theorem kFr_mono (h : kFr K u u' n) (hK : ∀ k, K k → K' k) : kFr K' u u' n := ⟨h.1, fun q hq h0 hk => h.2 q hq h0 (fun z => hk (hK _ z))⟩
theorem kFr_r (h : rFr u u' n) : kFr (fun k => k < 5 ∨ k = 9) u u' n := ⟨h.1, fun q hq _ hk => h.2 q hq (by omega) (by omega)⟩
theorem rFr_k (h : kFr K u u' n) (hK : ∀ k, K k → k < 5 ∨ k = 9) : rFr u u' n := ⟨h.1, fun q hq h5 h9 => h.2 q hq (by omega) (fun z => by have := hK _ z; omega)⟩
theorem kFr_u {q0 k0 : Nat} (h : uFr u u' n q0) (hq : u.1 q0 = k0 ∨ u.1 q0 = 0) : kFr (fun k => k = k0) u u' n := ⟨h.1, fun q hq' h0 hk => h.2 q hq' (fun e => by
  rw [e] at h0 hk
  rcases hq with z | z
  · exact hk z
  · exact h0 z)⟩
theorem kFr_I {p j k0 : Nat} {x : Int32} (h : u.1 p = k0) : kFr (fun k => k = k0) u (uI u p j x) n := ⟨fun _ _ => rfl, fun q _ _ hk => ⟨rfl, up_I (fun e => hk (by rw [e]; exact h)), rfl⟩⟩
theorem zIs_k {q k : Nat} (h : kFr K u u' n) (hz : zIs u a q k) (hq : q < n) : zIs u' a q k := ⟨(h.1 q hq).trans hz.1, hz.2⟩
theorem lOk_k {is D kb BB : Nat} {bs : List Nat} (h : lOk E c u a n is D kb BB bs) (hf : kFr K u u' n) (hK : ¬ K (9 + D)) (hn : n ≤ n') (hc1 : c'.1 is = c.1 is) (hc2 : c'.2.2.2 D = c.2.2.2 D) : lOk E c' u' a n' is D kb BB bs ∧ lCap E c' u' D = lCap E c u D := by
  obtain ⟨h1, h2, h3, h4⟩ := h
  have hz : ∀ b ∈ bs, zIs u' a b kb ∧ b < n' := fun b hb => by
    obtain ⟨z1, z2⟩ := h4 b hb
    exact ⟨zIs_k hf z1 z2, by omega⟩
  unfold lCap
  rw [hc2]
  rcases h2 with ⟨g1, g2⟩ | ⟨g1, g2, g3, g4, g5, g6⟩
  · refine ⟨⟨by rw [hc1]; exact h1, Or.inl ⟨g1, by rw [hc2]; exact g2⟩, h3, hz⟩, ?_⟩
    rw [if_pos g2, if_pos g2]
  · obtain ⟨e1, -, e3⟩ := hf.2 _ g2 (by rw [g1.1]; omega) (by rw [g1.1]; exact hK)
    refine ⟨⟨by rw [hc1]; exact h1, Or.inr ?_, h3, hz⟩, by rw [e1]⟩
    rw [hc2, e1, e3]
    exact ⟨zIs_k hf g1 g2, by omega, g3, g4, g5, g6⟩
/-- rows among other things that grow -/
theorem rw_k {Nb' Sb' : Nat} (h : rwOk E a Nb Sb c u n sl ks sp) (hf : kFr K u u' n) (hK : ∀ k, K k → 5 ≤ k ∧ k ≠ 9) (hn : n ≤ n') (ho : uOk u' a n') (h13 : c'.1 13 = c.1 13) (h15 : c'.1 15 = c.1 15) (hD : c'.2.2.2 0 = c.2.2.2 0) (r1 : n' + Nb ≤ n + Nb') (r2 : sl' + Sb ≤ sl + Sb') (r3 : Nb' + 7000 ≤ E.1.heap.size + room_1.cells) (r4 : Sb' + 120000 ≤ room_1.slots) : rwOk E a Nb' Sb' c' u' n' sl' ks sp ∧ ∀ y ∈ ks ++ sp, xOf u' y = xOf u y := by
  obtain ⟨h1, h2, h3, h4, h5, h6, h7, h8, h9, hA, hB⟩ := h
  obtain ⟨l1, l2⟩ := lOk_k (c' := c') h4 hf (fun z => (hK _ z).2 rfl) hn h15 hD
  have hc : ∀ y j, y + j < n → u.1 (y + j) = j + 1 → j < 4 → u'.2.1 (y + j) = u.2.1 (y + j) ∧ u'.2.2.1 (y + j) = u.2.2.1 (y + j) ∧ u'.2.2.2 (y + j) = u.2.2.2 (y + j) := fun y j hy hk hj => hf.2 _ hy (by rw [hk]; omega) (fun z => by have := (hK _ z).1; rw [hk] at this; omega)
  refine ⟨⟨h1, by omega, ho, l1, h5, fun y hy => ?_, by rw [h13]; exact h7, by rw [l2]; omega, by rw [l2]; omega, r3, r4⟩, fun y hy => ?_⟩
  · obtain ⟨hw, hy4⟩ := h6 y hy
    exact ⟨⟨zIs_k hf hw.1 (by omega), zIs_k hf hw.2.1 (by omega), zIs_k hf hw.2.2.1 (by omega), zIs_k hf hw.2.2.2 (by omega)⟩, by omega⟩
  · obtain ⟨hw, hy4⟩ := h6 y hy
    unfold xOf
    rw [show u'.2.2.1 y = u.2.2.1 y from (hc y 0 (by omega) hw.1.1 (by decide)).2.1, (hc y 1 (by omega) hw.2.1.1 (by decide)).2.1, (hc y 2 (by omega) hw.2.2.1.1 (by decide)).2.2, (hc y 3 (by omega) hw.2.2.2.1 (by decide)).2.1]
/-- cells and slots of places, questions and what is met -/
def oN (E : gE) (c : cS) (u : uS) (ps qs : List Nat) : Nat := lCap E c u 1 + ps.length + (lCap E c u 2 + qs.length) + lCap E c u 3
def oS (E : gE) (c : cS) (u : uS) (ps qs : List Nat) : Nat := 4 * lCap E c u 1 + 5 * ps.length + (4 * lCap E c u 2 + 12 * qs.length) + 4 * lCap E c u 3
/-- the tree's objects are in order: rows in use and spare, places, questions, what is met -/
def hpOk (E : gE) (a B S : Nat) (c : cS) (u : uS) (n sl : Nat) (ks sp ps qs ms : List Nat) : Prop := rwOk E a (B + oN E c u ps qs) (S + oS E c u ps qs) c u n sl ks sp ∧ lOk E c u a n 18 1 5 3300 ps ∧ lOk E c u a n 20 2 6 1001 qs ∧ lOk E c u a n 23 3 7 3300 ms ∧ B + 40000 ≤ E.1.heap.size + room_1.cells ∧ S + 300000 ≤ room_1.slots ∧ ps.Nodup ∧ qs.Nodup
theorem hpOk_room {c : cS} {u : uS} {n : Nat} (h1 : lOk E c u a n 18 1 5 3300 ps) (h2 : lOk E c u a n 20 2 6 1001 qs) (h3 : lOk E c u a n 23 3 7 3300 ms) : oN E c u ps qs ≤ 20000 ∧ oS E c u ps qs ≤ 100000 := by
  have a1 := lCap_le h1
  have a2 := lCap_le h2
  have a3 := lCap_le h3
  have b1 := h1.2.2.1
  have b2 := h2.2.2.1
  unfold oN oS
  omega
theorem oN_eq (e1 : lCap E c' u' 1 = lCap E c u 1) (e2 : lCap E c' u' 2 = lCap E c u 2) (e3 : lCap E c' u' 3 = lCap E c u 3) : oN E c' u' ps qs = oN E c u ps qs ∧ oS E c' u' ps qs = oS E c u ps qs := by
  unfold oN oS
  rw [e1, e2, e3]
  exact ⟨rfl, rfl⟩
/-- what is done to rows leaves it in order -/
theorem hpOk_rows {ks' sp' : List Nat} (h : hpOk E a B S c u n sl ks sp ps qs ms) (h' : rwOk E a (B + oN E c u ps qs) (S + oS E c u ps qs) c' u' n' sl' ks' sp') (hc : rFc c c') (hf : rFr u u' n) (hn : n ≤ n') : hpOk E a B S c' u' n' sl' ks' sp' ps qs ms := by
  obtain ⟨h1, h2, h3, h4, h5⟩ := h
  obtain ⟨a1, a2⟩ := lOk_k (c' := c') h2 (kFr_r hf) (by decide) hn (hc.1 18 (by decide) (by decide) (by decide)) (hc.2.2.2 1 (by decide))
  obtain ⟨b1, b2⟩ := lOk_k (c' := c') h3 (kFr_r hf) (by decide) hn (hc.1 20 (by decide) (by decide) (by decide)) (hc.2.2.2 2 (by decide))
  obtain ⟨d1, d2⟩ := lOk_k (c' := c') h4 (kFr_r hf) (by decide) hn (hc.1 23 (by decide) (by decide) (by decide)) (hc.2.2.2 3 (by decide))
  obtain ⟨e1, e2⟩ := oN_eq (ps := ps) (qs := qs) a2 b2 d2
  refine ⟨?_, a1, b1, d1, h5⟩
  rw [e1, e2]
  exact h'
/-- numbers of the class and fields of places and questions may change -/
theorem hpOk_k (h : hpOk E a B S c u n sl ks sp ps qs ms) (hf : kFr K u u' n) (hK : ∀ k, K k → k = 5 ∨ k = 6) (hk : ∀ q, u'.1 q = u.1 q) (hc : ∀ j, j = 13 ∨ j = 15 ∨ j = 18 ∨ j = 20 ∨ j = 23 → c'.1 j = c.1 j) (hD : ∀ j, c'.2.2.2 j = c.2.2.2 j) : hpOk E a B S c' u' n sl ks sp ps qs ms ∧ ∀ y ∈ ks ++ sp, xOf u' y = xOf u y := by
  obtain ⟨h1, h2, h3, h4, h5, h6, h7⟩ := h
  have hK' : ∀ D, ¬ K (9 + D) := fun D z => by have := hK _ z; omega
  obtain ⟨a1, a2⟩ := lOk_k (c' := c') h2 hf (hK' 1) (Nat.le_refl n) (hc 18 (by decide)) (hD 1)
  obtain ⟨b1, b2⟩ := lOk_k (c' := c') h3 hf (hK' 2) (Nat.le_refl n) (hc 20 (by decide)) (hD 2)
  obtain ⟨d1, d2⟩ := lOk_k (c' := c') h4 hf (hK' 3) (Nat.le_refl n) (hc 23 (by decide)) (hD 3)
  obtain ⟨e1, e2⟩ := oN_eq (ps := ps) (qs := qs) a2 b2 d2
  obtain ⟨o1, o2⟩ := hpOk_room h2 h3 h4
  obtain ⟨r1, r2⟩ := rw_k (c' := c') (Nb' := B + oN E c u ps qs) (Sb' := S + oS E c u ps qs) h1 hf (fun k z => by have := hK k z; omega) (Nat.le_refl n) (fun q hq => h1.2.2.1 q (by rw [← hk]; exact hq)) (hc 13 (by decide)) (hc 15 (by decide)) (hD 0) (Nat.le_refl _) (Nat.le_refl _) (by omega) (by omega)
  refine ⟨⟨?_, a1, b1, d1, h5, h6, h7⟩, r2⟩
  rw [e1, e2]
  exact r1
theorem hpOk_un (h : hpOk E a B S c u n sl ks sp ps qs ms) : uOk u a n := h.1.2.2.1

theorem m_Place_init : GM E Y_Place_init (d + 1) [.ref b] G (rIs none G) := by
  refine g_entry (by decide) (by simp [Value.category]) (Nat.le_of_ble_eq_true rfl) ?_
  refine g_aload_n d_Place_init_0 rfl ?_
  refine g_objInit ml_Place_3 w_objI w_objC (Nat.le_of_ble_eq_true rfl) d_Place_init_1 ?_
  refine g_vret rfl d_Place_init_4 ?_
  exact ⟨rfl, rfl⟩
theorem m_Question_init : GM E Y_Question_init (d + 1) [.ref b] G (rIs none G) := by
  refine g_entry (by decide) (by simp [Value.category]) (Nat.le_of_ble_eq_true rfl) ?_
  refine g_aload_n d_Question_init_0 rfl ?_
  refine g_objInit ml_Question_1 w_objI w_objC (Nat.le_of_ble_eq_true rfl) d_Question_init_1 ?_
  refine g_vret rfl d_Question_init_4 ?_
  exact ⟨rfl, rfl⟩
set_option maxHeartbeats 400000 in
set_option maxRecDepth 100000 in
theorem m_Places_add_14 {x : Int32} (h : hpOk E a B S c u n sl ks sp ps qs ms) (hl : ps.length < 3300) (kk : ∀ c' u' n' sl' p, hpOk E a B S c' u' n' sl' ks sp (ps ++ [p]) qs ms → cFr c c' 17 18 1 → kFr (fun k => k = 10) u u' n → n ≤ n' → zIs u' a p 5 → n ≤ p → (∀ y ∈ ks ++ sp, xOf u' y = xOf u y) → GT E Y_Places_add (d + 7) G0 29 [(0, .ref (a + 15)), (1, .int x)] [] (yW E G a c' u' n' sl') Q) : GT E Y_Places_add (d + 7) G0 14 [(0, .ref (a + 15)), (1, .int x)] [] (yW E G a c u n sl) Q := by
  obtain ⟨h1, h2, h3, h4, h5, h6, h7, h8⟩ := id h
  obtain ⟨o1, o2⟩ := hpOk_room h2 h3 h4
  have hg := h1.1
  have han := h1.2.1
  have hcap0 := lCap_le h1.2.2.2.1
  have hlen0 := rw_len h1
  have hn0 := h1.2.2.2.2.2.2.2.1
  have hs0 := h1.2.2.2.2.2.2.2.2.1
  have hlenA : (ks ++ sp).length = ks.length + sp.length := List.length_append
  refine g_aload_n d_Places_add_14 rfl ?_
  refine x_get (k := 15) (j := 0) (v := .ref (a + 16)) kc_Places fl_Places_12 (by decide) (by decide) rfl rfl d_Places_add_15 ?_
  refine g_new kc_Place cl_Places_30 ki_Place.1 ki_Place.2 (fs := [.int 0, .int 0, .int 0, .int 0, .int 0]) (by decide +kernel) (by show n + 1 ≤ _; omega) (by show sl + 5 ≤ _; omega) d_Places_add_18 ?_
  refine g_dup d_Places_add_21 rfl ?_
  refine c_INr (as := []) kn_Place_init ml_Places_57 m_Place_init rfl (Nat.le_of_ble_eq_true rfl) rfl d_Places_add_22 rfl ?_
  have eW : gNew (yW E G a c u n sl) (.inr (4, [.int 0, .int 0, .int 0, .int 0, .int 0])) 5 = yW E G a c (uN u n 5 0 (fun _ => 0) (fun _ => none)) (n + 1) (sl + 5) := z_new han (by decide) (by show _ = _; simp only [zD, zF, uN, upA_at])
  rw [eW]
  have hnk : ∀ q, q < n → (uN u n 5 0 (fun _ => 0) (fun _ => none)).1 q = u.1 q := fun q hq => upN_ne (by omega)
  have f1 : uFr u (uN u n 5 0 (fun _ => 0) (fun _ => none)) n n := ⟨hnk, fun q hq _ => ⟨upN_ne (by omega), upA_ne (by omega), upT_ne (by omega)⟩⟩
  have k1 : kFr (fun k => k = 10) u (uN u n 5 0 (fun _ => 0) (fun _ => none)) n := ⟨hnk, fun q hq _ _ => f1.2 q hq (by omega)⟩
  have ho1 : uOk (uN u n 5 0 (fun _ => 0) (fun _ => none)) a (n + 1) := fun q hq => by
    by_cases e : q = n
    · omega
    · rw [show (uN u n 5 0 (fun _ => 0) (fun _ => none)).1 q = u.1 q from upN_ne e] at hq
      have := h1.2.2.1 q hq
      omega
  have hnot : ∀ D' is' kb' BB' bs', lOk E c u a n is' D' kb' BB' bs' → lOk E c (uN u n 5 0 (fun _ => 0) (fun _ => none)) a (n + 1) is' D' kb' BB' bs' ∧ lCap E c (uN u n 5 0 (fun _ => 0) (fun _ => none)) D' = lCap E c u D' := fun D' is' kb' BB' bs' hL => lOk_k (K := fun _ => False) (c' := c) hL ⟨hnk, fun q hq _ _ => f1.2 q hq (by omega)⟩ (fun z => z) (by omega) rfl rfl
  obtain ⟨l1, l2⟩ := hnot _ _ _ _ _ h2
  have hzn : zIs (uN u n 5 0 (fun _ => 0) (fun _ => none)) a n 5 := ⟨upN_at, by omega⟩
  refine c_V (as := [.ref n]) kv_ArrayList_add ml_Places_58 rfl (x_at (k := 16) (by decide) rfl) (m_K_add lk_places hg ho1 (by omega) l1 (by decide) (by omega) hl hzn (by omega) (by omega) (by omega)) rfl (Nat.le_of_ble_eq_true rfl) rfl d_Places_add_25 (fun v G2 hq => ?_) (fun D G2 hq => absurd hq.1 (by simp))
  obtain ⟨ho, c2, u2, n2, sl2, rfl, lo2, cf2, uf2, uo2, nn2, rn2, rs2, ss2⟩ := hq
  cases ho
  refine g_pop d_Places_add_28 rfl ?_
  show GT E Y_Places_add (d + 7) G0 29 _ [] _ _
  have hDk : (uN u n 5 0 (fun _ => 0) (fun _ => none)).1 (c.2.2.2 1) = 10 ∨ (uN u n 5 0 (fun _ => 0) (fun _ => none)).1 (c.2.2.2 1) = 0 := by
    rcases l1.2.1 with ⟨-, g⟩ | ⟨g, -⟩
    · refine Or.inr (Decidable.byContradiction (fun hne => ?_))
      have := (ho1 _ hne).1
      rw [g] at this
      omega
    · exact Or.inl g.1
  have k2 := kFr_u uf2 hDk
  have k3 : kFr (fun k => k = 10) u u2 n := kFr_tr k1 k2 (by omega)
  rw [l2] at rn2 rs2
  obtain ⟨q1, q2⟩ := lOk_k (c' := c2) h3 k3 (by decide) (show n ≤ n2 by omega) (cf2.1 20 (by decide) (by decide)) (cf2.2.2.2 2 (by decide))
  obtain ⟨m1, m2⟩ := lOk_k (c' := c2) h4 k3 (by decide) (show n ≤ n2 by omega) (cf2.1 23 (by decide) (by decide)) (cf2.2.2.2 3 (by decide))
  have hro := hpOk_room lo2 q1 m1
  have eN : n2 + (B + oN E c u ps qs) ≤ n + (B + oN E c2 u2 (ps ++ [n]) qs) := by
    unfold oN
    rw [q2, m2, List.length_append, List.length_cons, List.length_nil]
    omega
  have eS : sl2 + (S + oS E c u ps qs) ≤ sl + (S + oS E c2 u2 (ps ++ [n]) qs) := by
    unfold oS
    rw [q2, m2, List.length_append, List.length_cons, List.length_nil]
    omega
  obtain ⟨r1, r2⟩ := rw_k (c' := c2) h1 k3 (fun k z => by omega) (by omega) uo2 (cf2.1 13 (by decide) (by decide)) (cf2.1 15 (by decide) (by decide)) (cf2.2.2.2 0 (by decide)) eN eS (by omega) (by omega)
  have hnd : n ∉ ps := fun z => by
    have := (h2.2.2.2 n z).2
    omega
  have hN : (ps ++ [n]).Nodup := List.nodup_append.mpr ⟨h7, by simp, fun x hx y hy e => by
    rcases List.mem_singleton.mp hy with rfl
    exact hnd (e ▸ hx)⟩
  exact kk c2 u2 n2 sl2 n ⟨r1, lo2, q1, m1, h5, h6, hN, h8⟩ cf2 k3 (by omega) (zIs_k k2 hzn (by omega)) (Nat.le_refl _) r2
set_option maxHeartbeats 400000 in
set_option maxRecDepth 100000 in
theorem m_Tree_nextQuestion_14 (h : hpOk E a B S c u n sl ks sp ps qs ms) (hl : qs.length < 1001) (kk : ∀ c' u' n' sl' p, hpOk E a B S c' u' n' sl' ks sp ps (qs ++ [p]) ms → cFr c c' 19 20 2 → kFr (fun k => k = 11) u u' n → n ≤ n' → zIs u' a p 6 → n ≤ p → (∀ y ∈ ks ++ sp, xOf u' y = xOf u y) → GT E Y_Tree_nextQuestion (d + 7) G0 29 [(0, .ref (a + 12))] [] (yW E G a c' u' n' sl') Q) : GT E Y_Tree_nextQuestion (d + 7) G0 14 [(0, .ref (a + 12))] [] (yW E G a c u n sl) Q := by
  obtain ⟨h1, h2, h3, h4, h5, h6, h7, h8⟩ := id h
  obtain ⟨o1, o2⟩ := hpOk_room h2 h3 h4
  have hg := h1.1
  have han := h1.2.1
  have hcap0 := lCap_le h1.2.2.2.1
  have hlen0 := rw_len h1
  have hn0 := h1.2.2.2.2.2.2.2.1
  have hs0 := h1.2.2.2.2.2.2.2.2.1
  have hlenA : (ks ++ sp).length = ks.length + sp.length := List.length_append
  refine g_aload_n d_Tree_nextQuestion_14 rfl ?_
  refine x_get (k := 12) (j := 4) (v := .ref (a + 17)) kc_Tree fl_Tree_28 (by decide) (by decide) rfl rfl d_Tree_nextQuestion_15 ?_
  refine g_new kc_Question cl_Tree_67 ki_Question.1 ki_Question.2 (fs := [.int 0, .int 0, .int 0, .int 0, .int 0, .int 0, .int 0, .int 0, .int 0, .int 0, .int 0, .int 0]) (by decide +kernel) (by show n + 1 ≤ _; omega) (by show sl + 12 ≤ _; omega) d_Tree_nextQuestion_18 ?_
  refine g_dup d_Tree_nextQuestion_21 rfl ?_
  refine c_INr (as := []) kn_Question_init ml_Tree_228 m_Question_init rfl (Nat.le_of_ble_eq_true rfl) rfl d_Tree_nextQuestion_22 rfl ?_
  have eW : gNew (yW E G a c u n sl) (.inr (6, [.int 0, .int 0, .int 0, .int 0, .int 0, .int 0, .int 0, .int 0, .int 0, .int 0, .int 0, .int 0])) 12 = yW E G a c (uN u n 6 0 (fun _ => 0) (fun _ => none)) (n + 1) (sl + 12) := z_new han (by decide) (by show _ = _; simp only [zD, zF, uN, upA_at])
  rw [eW]
  have hnk : ∀ q, q < n → (uN u n 6 0 (fun _ => 0) (fun _ => none)).1 q = u.1 q := fun q hq => upN_ne (by omega)
  have f1 : uFr u (uN u n 6 0 (fun _ => 0) (fun _ => none)) n n := ⟨hnk, fun q hq _ => ⟨upN_ne (by omega), upA_ne (by omega), upT_ne (by omega)⟩⟩
  have k1 : kFr (fun k => k = 11) u (uN u n 6 0 (fun _ => 0) (fun _ => none)) n := ⟨hnk, fun q hq _ _ => f1.2 q hq (by omega)⟩
  have ho1 : uOk (uN u n 6 0 (fun _ => 0) (fun _ => none)) a (n + 1) := fun q hq => by
    by_cases e : q = n
    · omega
    · rw [show (uN u n 6 0 (fun _ => 0) (fun _ => none)).1 q = u.1 q from upN_ne e] at hq
      have := h1.2.2.1 q hq
      omega
  have hnot : ∀ D' is' kb' BB' bs', lOk E c u a n is' D' kb' BB' bs' → lOk E c (uN u n 6 0 (fun _ => 0) (fun _ => none)) a (n + 1) is' D' kb' BB' bs' ∧ lCap E c (uN u n 6 0 (fun _ => 0) (fun _ => none)) D' = lCap E c u D' := fun D' is' kb' BB' bs' hL => lOk_k (K := fun _ => False) (c' := c) hL ⟨hnk, fun q hq _ _ => f1.2 q hq (by omega)⟩ (fun z => z) (by omega) rfl rfl
  obtain ⟨l1, l2⟩ := hnot _ _ _ _ _ h3
  have hzn : zIs (uN u n 6 0 (fun _ => 0) (fun _ => none)) a n 6 := ⟨upN_at, by omega⟩
  refine c_V (as := [.ref n]) kv_ArrayList_add ml_Tree_229 rfl (x_at (k := 17) (by decide) rfl) (m_K_add lk_quests hg ho1 (by omega) l1 (by decide) (by omega) hl hzn (by omega) (by omega) (by omega)) rfl (Nat.le_of_ble_eq_true rfl) rfl d_Tree_nextQuestion_25 (fun v G2 hq => ?_) (fun D G2 hq => absurd hq.1 (by simp))
  obtain ⟨ho, c2, u2, n2, sl2, rfl, lo2, cf2, uf2, uo2, nn2, rn2, rs2, ss2⟩ := hq
  cases ho
  refine g_pop d_Tree_nextQuestion_28 rfl ?_
  show GT E Y_Tree_nextQuestion (d + 7) G0 29 _ [] _ _
  have hDk : (uN u n 6 0 (fun _ => 0) (fun _ => none)).1 (c.2.2.2 2) = 11 ∨ (uN u n 6 0 (fun _ => 0) (fun _ => none)).1 (c.2.2.2 2) = 0 := by
    rcases l1.2.1 with ⟨-, g⟩ | ⟨g, -⟩
    · refine Or.inr (Decidable.byContradiction (fun hne => ?_))
      have := (ho1 _ hne).1
      rw [g] at this
      omega
    · exact Or.inl g.1
  have k2 := kFr_u uf2 hDk
  have k3 : kFr (fun k => k = 11) u u2 n := kFr_tr k1 k2 (by omega)
  rw [l2] at rn2 rs2
  obtain ⟨q1, q2⟩ := lOk_k (c' := c2) h2 k3 (by decide) (show n ≤ n2 by omega) (cf2.1 18 (by decide) (by decide)) (cf2.2.2.2 1 (by decide))
  obtain ⟨m1, m2⟩ := lOk_k (c' := c2) h4 k3 (by decide) (show n ≤ n2 by omega) (cf2.1 23 (by decide) (by decide)) (cf2.2.2.2 3 (by decide))
  have hro := hpOk_room q1 lo2 m1
  have eN : n2 + (B + oN E c u ps qs) ≤ n + (B + oN E c2 u2 ps (qs ++ [n])) := by
    unfold oN
    rw [q2, m2, List.length_append, List.length_cons, List.length_nil]
    omega
  have eS : sl2 + (S + oS E c u ps qs) ≤ sl + (S + oS E c2 u2 ps (qs ++ [n])) := by
    unfold oS
    rw [q2, m2, List.length_append, List.length_cons, List.length_nil]
    omega
  obtain ⟨r1, r2⟩ := rw_k (c' := c2) h1 k3 (fun k z => by omega) (by omega) uo2 (cf2.1 13 (by decide) (by decide)) (cf2.1 15 (by decide) (by decide)) (cf2.2.2.2 0 (by decide)) eN eS (by omega) (by omega)
  have hnd : n ∉ qs := fun z => by
    have := (h3.2.2.2 n z).2
    omega
  have hN : (qs ++ [n]).Nodup := List.nodup_append.mpr ⟨h8, by simp, fun x hx y hy e => by
    rcases List.mem_singleton.mp hy with rfl
    exact hnd (e ▸ hx)⟩
  exact kk c2 u2 n2 sl2 n ⟨r1, q1, lo2, m1, h5, h6, h7, hN⟩ cf2 k3 (by omega) (zIs_k k2 hzn (by omega)) (Nat.le_refl _) r2
end CC
