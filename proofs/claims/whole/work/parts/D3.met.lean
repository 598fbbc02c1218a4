/-! What is met on a value's way -/
theorem d_Passage_begin_0 : decode Y_Passage_begin.2.1 0 = .ok (.aload_n 0, 1) := by decide +kernel
theorem d_Passage_begin_1 : decode Y_Passage_begin.2.1 1 = .ok (.invokevirtual 35, 3) := by decide +kernel
theorem d_Passage_begin_4 : decode Y_Passage_begin.2.1 4 = .ok (.aload_n 0, 1) := by decide +kernel
theorem d_Passage_begin_5 : decode Y_Passage_begin.2.1 5 = .ok (.getfield 24, 3) := by decide +kernel
theorem d_Passage_begin_8 : decode Y_Passage_begin.2.1 8 = .ok (.aload_n 1, 1) := by decide +kernel
theorem d_Passage_begin_9 : decode Y_Passage_begin.2.1 9 = .ok (.invokevirtual 38, 3) := by decide +kernel
theorem d_Passage_begin_12 : decode Y_Passage_begin.2.1 12 = .ok (.pop, 1) := by decide +kernel
theorem d_Passage_begin_13 : decode Y_Passage_begin.2.1 13 = .ok (.return_, 1) := by decide +kernel
theorem d_Passage_meet_0 : decode Y_Passage_meet.2.1 0 = .ok (.aload_n 0, 1) := by decide +kernel
theorem d_Passage_meet_1 : decode Y_Passage_meet.2.1 1 = .ok (.getfield 28, 3) := by decide +kernel
theorem d_Passage_meet_4 : decode Y_Passage_meet.2.1 4 = .ok (.aload_n 0, 1) := by decide +kernel
theorem d_Passage_meet_5 : decode Y_Passage_meet.2.1 5 = .ok (.getfield 9, 3) := by decide +kernel
theorem d_Passage_meet_8 : decode Y_Passage_meet.2.1 8 = .ok (.arraylength, 1) := by decide +kernel
theorem d_Passage_meet_9 : decode Y_Passage_meet.2.1 9 = .ok (.if_icmp .ge 23, 3) := by decide +kernel
theorem d_Passage_meet_12 : decode Y_Passage_meet.2.1 12 = .ok (.aload_n 0, 1) := by decide +kernel
theorem d_Passage_meet_13 : decode Y_Passage_meet.2.1 13 = .ok (.getfield 9, 3) := by decide +kernel
theorem d_Passage_meet_16 : decode Y_Passage_meet.2.1 16 = .ok (.aload_n 0, 1) := by decide +kernel
theorem d_Passage_meet_17 : decode Y_Passage_meet.2.1 17 = .ok (.getfield 28, 3) := by decide +kernel
theorem d_Passage_meet_20 : decode Y_Passage_meet.2.1 20 = .ok (.iload_n 1, 1) := by decide +kernel
theorem d_Passage_meet_21 : decode Y_Passage_meet.2.1 21 = .ok (.iastore, 1) := by decide +kernel
theorem d_Passage_meet_22 : decode Y_Passage_meet.2.1 22 = .ok (.aload_n 0, 1) := by decide +kernel
theorem d_Passage_meet_23 : decode Y_Passage_meet.2.1 23 = .ok (.dup, 1) := by decide +kernel
theorem d_Passage_meet_24 : decode Y_Passage_meet.2.1 24 = .ok (.getfield 28, 3) := by decide +kernel
theorem d_Passage_meet_27 : decode Y_Passage_meet.2.1 27 = .ok (.iconst 1, 1) := by decide +kernel
theorem d_Passage_meet_28 : decode Y_Passage_meet.2.1 28 = .ok (.iadd, 1) := by decide +kernel
theorem d_Passage_meet_29 : decode Y_Passage_meet.2.1 29 = .ok (.putfield 28, 3) := by decide +kernel
theorem d_Passage_meet_32 : decode Y_Passage_meet.2.1 32 = .ok (.aload_n 0, 1) := by decide +kernel
theorem d_Passage_meet_33 : decode Y_Passage_meet.2.1 33 = .ok (.getfield 24, 3) := by decide +kernel
theorem d_Passage_meet_36 : decode Y_Passage_meet.2.1 36 = .ok (.iload_n 2, 1) := by decide +kernel
theorem d_Passage_meet_37 : decode Y_Passage_meet.2.1 37 = .ok (.invokevirtual 42, 3) := by decide +kernel
theorem d_Passage_meet_40 : decode Y_Passage_meet.2.1 40 = .ok (.checkcast 15, 3) := by decide +kernel
theorem d_Passage_meet_43 : decode Y_Passage_meet.2.1 43 = .ok (.astore_n 3, 1) := by decide +kernel
theorem d_Passage_meet_44 : decode Y_Passage_meet.2.1 44 = .ok (.iconst 0, 1) := by decide +kernel
theorem d_Passage_meet_45 : decode Y_Passage_meet.2.1 45 = .ok (.istore 4, 2) := by decide +kernel
theorem d_Passage_meet_47 : decode Y_Passage_meet.2.1 47 = .ok (.iload 4, 2) := by decide +kernel
theorem d_Passage_meet_49 : decode Y_Passage_meet.2.1 49 = .ok (.aload_n 3, 1) := by decide +kernel
theorem d_Passage_meet_50 : decode Y_Passage_meet.2.1 50 = .ok (.getfield 46, 3) := by decide +kernel
theorem d_Passage_meet_53 : decode Y_Passage_meet.2.1 53 = .ok (.arraylength, 1) := by decide +kernel
theorem d_Passage_meet_54 : decode Y_Passage_meet.2.1 54 = .ok (.if_icmp .ge 24, 3) := by decide +kernel
theorem d_Passage_meet_57 : decode Y_Passage_meet.2.1 57 = .ok (.aload_n 0, 1) := by decide +kernel
theorem d_Passage_meet_58 : decode Y_Passage_meet.2.1 58 = .ok (.getfield 24, 3) := by decide +kernel
theorem d_Passage_meet_61 : decode Y_Passage_meet.2.1 61 = .ok (.aload_n 3, 1) := by decide +kernel
theorem d_Passage_meet_62 : decode Y_Passage_meet.2.1 62 = .ok (.getfield 46, 3) := by decide +kernel
theorem d_Passage_meet_65 : decode Y_Passage_meet.2.1 65 = .ok (.iload 4, 2) := by decide +kernel
theorem d_Passage_meet_67 : decode Y_Passage_meet.2.1 67 = .ok (.aaload, 1) := by decide +kernel
theorem d_Passage_meet_68 : decode Y_Passage_meet.2.1 68 = .ok (.invokevirtual 38, 3) := by decide +kernel
theorem d_Passage_meet_71 : decode Y_Passage_meet.2.1 71 = .ok (.pop, 1) := by decide +kernel
theorem d_Passage_meet_72 : decode Y_Passage_meet.2.1 72 = .ok (.iinc 4 1, 3) := by decide +kernel
theorem d_Passage_meet_75 : decode Y_Passage_meet.2.1 75 = .ok (.goto (-28), 3) := by decide +kernel
theorem d_Passage_meet_78 : decode Y_Passage_meet.2.1 78 = .ok (.aload_n 3, 1) := by decide +kernel
theorem d_Passage_meet_79 : decode Y_Passage_meet.2.1 79 = .ok (.areturn, 1) := by decide +kernel
theorem d_Passage_bind_0 : decode Y_Passage_bind.2.1 0 = .ok (.iconst 0, 1) := by decide +kernel
theorem d_Passage_bind_1 : decode Y_Passage_bind.2.1 1 = .ok (.istore_n 2, 1) := by decide +kernel
theorem d_Passage_bind_2 : decode Y_Passage_bind.2.1 2 = .ok (.iload_n 2, 1) := by decide +kernel
theorem d_Passage_bind_3 : decode Y_Passage_bind.2.1 3 = .ok (.bipush 8, 2) := by decide +kernel
theorem d_Passage_bind_5 : decode Y_Passage_bind.2.1 5 = .ok (.if_icmp .ge 52, 3) := by decide +kernel
theorem d_Passage_bind_8 : decode Y_Passage_bind.2.1 8 = .ok (.aload_n 1, 1) := by decide +kernel
theorem d_Passage_bind_9 : decode Y_Passage_bind.2.1 9 = .ok (.getfield 49, 3) := by decide +kernel
theorem d_Passage_bind_12 : decode Y_Passage_bind.2.1 12 = .ok (.iload_n 2, 1) := by decide +kernel
theorem d_Passage_bind_13 : decode Y_Passage_bind.2.1 13 = .ok (.iaload, 1) := by decide +kernel
theorem d_Passage_bind_14 : decode Y_Passage_bind.2.1 14 = .ok (.istore_n 3, 1) := by decide +kernel
theorem d_Passage_bind_15 : decode Y_Passage_bind.2.1 15 = .ok (.aload_n 0, 1) := by decide +kernel
theorem d_Passage_bind_16 : decode Y_Passage_bind.2.1 16 = .ok (.getfield 17, 3) := by decide +kernel
theorem d_Passage_bind_19 : decode Y_Passage_bind.2.1 19 = .ok (.iload_n 2, 1) := by decide +kernel
theorem d_Passage_bind_20 : decode Y_Passage_bind.2.1 20 = .ok (.iload_n 3, 1) := by decide +kernel
theorem d_Passage_bind_21 : decode Y_Passage_bind.2.1 21 = .ok (.ifCond .lt 28, 3) := by decide +kernel
theorem d_Passage_bind_24 : decode Y_Passage_bind.2.1 24 = .ok (.iload_n 3, 1) := by decide +kernel
theorem d_Passage_bind_25 : decode Y_Passage_bind.2.1 25 = .ok (.aload_n 0, 1) := by decide +kernel
theorem d_Passage_bind_26 : decode Y_Passage_bind.2.1 26 = .ok (.getfield 24, 3) := by decide +kernel
theorem d_Passage_bind_29 : decode Y_Passage_bind.2.1 29 = .ok (.invokevirtual 54, 3) := by decide +kernel
theorem d_Passage_bind_32 : decode Y_Passage_bind.2.1 32 = .ok (.if_icmp .ge 17, 3) := by decide +kernel
theorem d_Passage_bind_35 : decode Y_Passage_bind.2.1 35 = .ok (.aload_n 0, 1) := by decide +kernel
theorem d_Passage_bind_36 : decode Y_Passage_bind.2.1 36 = .ok (.getfield 24, 3) := by decide +kernel
theorem d_Passage_bind_39 : decode Y_Passage_bind.2.1 39 = .ok (.iload_n 3, 1) := by decide +kernel
theorem d_Passage_bind_40 : decode Y_Passage_bind.2.1 40 = .ok (.invokevirtual 42, 3) := by decide +kernel
theorem d_Passage_bind_43 : decode Y_Passage_bind.2.1 43 = .ok (.checkcast 15, 3) := by decide +kernel
theorem d_Passage_bind_46 : decode Y_Passage_bind.2.1 46 = .ok (.goto 4, 3) := by decide +kernel
theorem d_Passage_bind_49 : decode Y_Passage_bind.2.1 49 = .ok (.aconst_null, 1) := by decide +kernel
theorem d_Passage_bind_50 : decode Y_Passage_bind.2.1 50 = .ok (.aastore, 1) := by decide +kernel
theorem d_Passage_bind_51 : decode Y_Passage_bind.2.1 51 = .ok (.iinc 2 1, 3) := by decide +kernel
theorem d_Passage_bind_54 : decode Y_Passage_bind.2.1 54 = .ok (.goto (-52), 3) := by decide +kernel
theorem d_Passage_bind_57 : decode Y_Passage_bind.2.1 57 = .ok (.return_, 1) := by decide +kernel
section CS
variable {E : gE} {d : Nat} {G G0 : gS} {a : Nat} {c c' c0 c1 : cS} {u u' u2 u0 : uS} {n n' n2 n1 sl sl' sl2 : Nat} {Q : gO → gS → Prop} {B SS : Nat} {ks sp ps qs ms ms' : List Nat}
/-- the list of what is met has changed -/
theorem hpOk_met {c2 : cS} (h : hpOk E a B SS c u n sl ks sp ps qs ms) (lo : lOk E c2 u2 a n2 23 3 7 3300 ms') (cf : cFr c c2 22 23 3) (uf : uFr u u2 n (c.2.2.2 3)) (uo : uOk u2 a n2) (nn : n ≤ n2) (rn : n2 + lCap E c u 3 ≤ n + lCap E c2 u2 3) (rs : sl2 + 4 * lCap E c u 3 ≤ sl + 4 * lCap E c2 u2 3) : hpOk E a B SS c2 u2 n2 sl2 ks sp ps qs ms' ∧ kFr (fun k => k = 12) u u2 n ∧ ∀ y ∈ ks ++ sp, xOf u2 y = xOf u y := by
  obtain ⟨h1, h2, h3, h4, h5, h6, h7, h8⟩ := h
  have hDk : u.1 (c.2.2.2 3) = 12 ∨ u.1 (c.2.2.2 3) = 0 := by
    rcases h4.2.1 with ⟨-, g⟩ | ⟨g, -⟩
    · refine Or.inr (Decidable.byContradiction (fun hne => ?_))
      have := (h1.2.2.1 _ hne).1
      rw [g] at this
      have := h1.1
      omega
    · exact Or.inl g.1
  have k2 := kFr_u uf hDk
  obtain ⟨p1, p2⟩ := lOk_k (c' := c2) h2 k2 (by decide) nn (cf.1 18 (by decide) (by decide)) (cf.2.2.2 1 (by decide))
  obtain ⟨q1, q2⟩ := lOk_k (c' := c2) h3 k2 (by decide) nn (cf.1 20 (by decide) (by decide)) (cf.2.2.2 2 (by decide))
  have hro := hpOk_room p1 q1 lo
  have eN : n2 + (B + oN E c u ps qs) ≤ n + (B + oN E c2 u2 ps qs) := by
    unfold oN
    rw [p2, q2]
    omega
  have eS : sl2 + (SS + oS E c u ps qs) ≤ sl + (SS + oS E c2 u2 ps qs) := by
    unfold oS
    rw [p2, q2]
    omega
  obtain ⟨r1, r2⟩ := rw_k (c' := c2) h1 k2 (fun k z => by omega) nn uo (cf.1 13 (by decide) (by decide)) (cf.1 15 (by decide) (by decide)) (cf.2.2.2 0 (by decide)) eN eS (by omega) (by omega)
  exact ⟨⟨r1, p1, q1, lo, h5, h6, h7, h8⟩, k2, r2⟩
set_option maxHeartbeats 400000 in
set_option maxRecDepth 100000 in
theorem m_K_cl27 {m : Nat} (hz : m = 0 ∨ (zIs u0 a (c0.2.2.2 3) 12 ∧ m ≤ u0.2.1 (c0.2.2.2 3))) (hm : m < 10000) : ∀ (w i : Nat) (u : uS), i + w = m → (∀ q, u.1 q = u0.1 q) → (∀ q, u.2.1 q = u0.2.1 q) → uFr u0 u n (c0.2.2.2 3) → (∀ u', (∀ q, u'.1 q = u0.1 q) → (∀ q, u'.2.1 q = u0.2.1 q) → uFr u0 u' n (c0.2.2.2 3) → Q (.inl none) (yW E G a c u' n sl)) → GT E Y_ArrayList_clear d G0 27 [(0, .ref (a + 23)), (1, .ref (c0.2.2.2 3)), (2, .int (nI m)), (3, .int (nI i))] [] (yW E G a c u n sl) Q := by
  intro w
  induction w with
  | zero =>
    intro i u hi hk hl hf kk
    obtain rfl : i = m := by omega
    refine g_iload_n d_ArrayList_clear_27 rfl ?_
    refine g_iload_n d_ArrayList_clear_28 rfl ?_
    refine g_icmp_ge (tgt := 42) d_ArrayList_clear_29 (by decide) (fun c_29 => ?_) (fun c_29 => ?_)
    rotate_left
    · exact absurd c_29 (fun q => q (Int32.le_refl _))
    refine g_vret rfl d_ArrayList_clear_42 ?_
    exact kk u hk hl hf
  | succ w ih =>
    intro i u hi hk hl hf kk
    have hz1 : zIs u a (c0.2.2.2 3) 12 ∧ m ≤ u.2.1 (c0.2.2.2 3) := by
      rcases hz with z | ⟨z1, z2⟩
      · omega
      · exact ⟨⟨(hk _).trans z1.1, z1.2⟩, by rw [hl]; exact z2⟩
    refine g_iload_n d_ArrayList_clear_27 rfl ?_
    refine g_iload_n d_ArrayList_clear_28 rfl ?_
    refine g_icmp_ge (tgt := 42) d_ArrayList_clear_29 (by decide) (fun c_29 => ?_) (fun c_29 => ?_)
    · exact absurd c_29 (ige (by omega) (by omega) (by omega))
    refine g_aload_n d_ArrayList_clear_32 rfl ?_
    refine g_iload_n d_ArrayList_clear_33 rfl ?_
    refine g_null d_ArrayList_clear_34 ?_
    refine z_oastN (j := i) lk_met.2.2.1 hz1.1 (nI_hi (by omega)) (by omega) d_ArrayList_clear_35 ?_
    refine g_iinc (v := nI (i + 1)) d_ArrayList_clear_36 rfl (nI_1 i) (by decide) rfl ?_
    refine g_goto (tgt := 27) d_ArrayList_clear_39 (by decide) ?_
    refine ih (i + 1) _ (by omega) hk hl ⟨fun q hq => hk q, fun q hq hne => ?_⟩ kk
    obtain ⟨z1, z2, z3⟩ := hf.2 q hq hne
    refine ⟨z1, z2, ?_⟩
    rw [up_T hne]
    exact z3
/-- nothing is met -/
def clP (E : gE) (a B SS : Nat) (c : cS) (u : uS) (n sl : Nat) (ks sp ps qs ms : List Nat) (c' : cS) (u' : uS) : Prop := hpOk E a B SS c' u' n sl ks sp ps qs ms ∧ cFr c c' 22 23 3 ∧ kFr (fun k => k = 12) u u' n ∧ (∀ y ∈ ks ++ sp, xOf u' y = xOf u y)
set_option maxHeartbeats 400000 in
set_option maxRecDepth 100000 in
theorem m_K_clear (h : hpOk E a B SS c u n sl ks sp ps qs ms) : GM E Y_ArrayList_clear d [.ref (a + 23)] (yW E G a c u n sl) (rPost none (fun G' => ∃ c' u', G' = yW E G a c' u' n sl ∧ clP E a B SS c u n sl ks sp ps qs [] c' u')) := by
  refine g_entry (by decide) (by simp [Value.category]) (Nat.le_of_ble_eq_true rfl) ?_
  have hlo := h.2.2.2.1
  have h23 := hlo.1
  have hml := hlo.2.2.1
  have hzz : ms.length = 0 ∨ (zIs u a (c.2.2.2 3) 12 ∧ ms.length ≤ u.2.1 (c.2.2.2 3)) := by
    rcases hlo.2.1 with ⟨g, -⟩ | ⟨g1, g2, g3, g4, -⟩
    · exact Or.inl (by rw [g]; rfl)
    · exact Or.inr ⟨g1, g4⟩
  refine g_aload_n d_ArrayList_clear_0 rfl ?_
  refine g_dup d_ArrayList_clear_1 rfl ?_
  refine x_get (k := 23) (j := 0) (v := .int (c.1 22)) kc_ArrayList fl_ArrayList_63 (by decide) (by decide) rfl rfl d_ArrayList_clear_2 ?_
  refine g_iconst (v := 1) d_ArrayList_clear_5 (by decide) ?_
  refine g_iadd d_ArrayList_clear_6 ?_
  refine x_put (c' := (cF c 22 ((c.1 22) + (1)))) (k := 23) (j := 0) kc_ArrayList fl_ArrayList_63 (by decide) (by decide) rfl rfl rfl rfl (Nat.le_of_ble_eq_true rfl) rfl rfl xf_F22 d_ArrayList_clear_7 ?_
  refine g_aload_n d_ArrayList_clear_10 rfl ?_
  refine x_get (k := 23) (j := 1) (v := .ref (c.2.2.2 3)) kc_ArrayList fl_ArrayList_9 (by decide) (by decide) rfl rfl d_ArrayList_clear_11 ?_
  refine g_astore_n d_ArrayList_clear_14 (by decide) rfl ?_
  refine g_aload_n d_ArrayList_clear_15 rfl ?_
  refine x_get (k := 23) (j := 2) (v := .int (c.1 23)) kc_ArrayList fl_ArrayList_48 (by decide) (by decide) rfl rfl d_ArrayList_clear_16 ?_
  rw [h23]
  refine g_istore_n d_ArrayList_clear_19 (by decide) rfl ?_
  refine g_aload_n d_ArrayList_clear_20 rfl ?_
  refine g_iconst (v := 0) d_ArrayList_clear_21 (by decide) ?_
  refine g_dup_x1 d_ArrayList_clear_22 rfl rfl ?_
  refine x_put (c' := (cF (cF c 22 ((c.1 22) + (1))) 23 (0))) (k := 23) (j := 2) kc_ArrayList fl_ArrayList_48 (by decide) (by decide) rfl rfl rfl rfl (Nat.le_of_ble_eq_true rfl) rfl rfl xf_F23 d_ArrayList_clear_23 ?_
  refine g_istore_n d_ArrayList_clear_26 (by decide) rfl ?_
  refine m_K_cl27 (c0 := c) (u0 := u) (m := ms.length) hzz (by omega) ms.length 0 u (by omega) (fun _ => rfl) (fun _ => rfl) ⟨fun _ _ => rfl, fun _ _ _ => ⟨rfl, rfl, rfl⟩⟩ (fun u' k1 k2 k3 => ?_)
  have hcf : cFr c (cF (cF c 22 ((c.1 22) + (1))) 23 (0)) 22 23 3 := ⟨fun j h1 h2 => (up_ne h2).trans (up_ne h1), rfl, rfl, fun _ _ => rfl⟩
  have elc : lCap E (cF (cF c 22 ((c.1 22) + (1))) 23 (0)) u' 3 = lCap E c u 3 := by
    unfold lCap
    show (if c.2.2.2 3 = gDef E then 0 else u'.2.1 (c.2.2.2 3)) = _
    rw [k2]
  have lo2 : lOk E (cF (cF c 22 ((c.1 22) + (1))) 23 (0)) u' a n 23 3 7 3300 [] := by
    refine ⟨rfl, ?_, by decide, fun b hb => by cases hb⟩
    rcases hlo.2.1 with ⟨-, g⟩ | ⟨g1, g2, g3, g4, g5, -⟩
    · exact Or.inl ⟨rfl, g⟩
    · exact Or.inr ⟨⟨(k1 _).trans g1.1, g1.2⟩, g2, by show 10 ≤ u'.2.1 (c.2.2.2 3); rw [k2]; exact g3, Nat.zero_le _, by show u'.2.1 (c.2.2.2 3) ≤ _; rw [k2]; exact g5, fun i b hb => by cases hb⟩
  obtain ⟨r1, r2, r3⟩ := hpOk_met (n2 := n) (sl2 := sl) h lo2 hcf k3 (fun q hq => h.1.2.2.1 q (by rw [← k1]; exact hq)) (Nat.le_refl _) (by rw [elc]; exact Nat.le_refl _) (by rw [elc]; exact Nat.le_refl _)
  exact ⟨rfl, _, u', rfl, r1, hcf, r2, r3⟩
/-- only the passage has changed -/
def pgF (c c' : cS) : Prop := (∀ j, j ≠ 21 → j ≠ 22 → j ≠ 23 → c'.1 j = c.1 j) ∧ (∀ j, j ≠ 6 → c'.2.1 j = c.2.1 j) ∧ (∀ j, j ≠ 3 → c'.2.2.1 j = c.2.2.1 j) ∧ ∀ j, j ≠ 3 → c'.2.2.2 j = c.2.2.2 j
theorem pgF_rf : pgF c c := ⟨fun _ _ _ _ => rfl, fun _ _ => rfl, fun _ _ => rfl, fun _ _ => rfl⟩
theorem pgF_tr {c2 : cS} (h : pgF c c') (h' : pgF c' c2) : pgF c c2 := ⟨fun j x y z => (h'.1 j x y z).trans (h.1 j x y z), fun j x => (h'.2.1 j x).trans (h.2.1 j x), fun j x => (h'.2.2.1 j x).trans (h.2.2.1 j x), fun j x => (h'.2.2.2 j x).trans (h.2.2.2 j x)⟩
theorem pgF_c (h : cFr c c' 22 23 3) : pgF c c' := ⟨fun j _ h2 h3 => h.1 j h2 h3, fun j _ => by rw [h.2.1], fun j _ => by rw [h.2.2.1], h.2.2.2⟩
theorem pg_hp (h : hpOk E a B SS c u n sl ks sp ps qs ms) (h1 : ∀ j, j ≠ 21 → c'.1 j = c.1 j) (h2 : c'.2.2.2 = c.2.2.2) : hpOk E a B SS c' u n sl ks sp ps qs ms := (hpOk_k (c' := c') (K := fun k => k = 5) h kFr_rf (fun k z => Or.inl z) (fun _ => rfl) (fun j hj => h1 j (by omega)) (fun j => by rw [h2])).1
/-- the world of a passage's step -/
def pgP (E : gE) (a B SS : Nat) (c : cS) (u : uS) (n : Nat) (ks sp ps qs ms : List Nat) (c' : cS) (u' : uS) (n' sl' : Nat) : Prop := hpOk E a B SS c' u' n' sl' ks sp ps qs ms ∧ pgF c c' ∧ kFr (fun k => k = 12) u u' n ∧ n ≤ n' ∧ (∀ y ∈ ks ++ sp, xOf u' y = xOf u y)
theorem pgP_tr {c2 : cS} {ms2 : List Nat} (h : pgP E a B SS c u n ks sp ps qs ms c' u' n' sl') (h' : pgP E a B SS c' u' n' ks sp ps qs ms2 c2 u2 n2 sl2) : pgP E a B SS c u n ks sp ps qs ms2 c2 u2 n2 sl2 := ⟨h'.1, pgF_tr h.2.1 h'.2.1, kFr_tr h.2.2.1 h'.2.2.1 h.2.2.2.1, Nat.le_trans h.2.2.2.1 h'.2.2.2.1, fun y hy => (h'.2.2.2.2 y hy).trans (h.2.2.2.2 y hy)⟩
set_option maxHeartbeats 400000 in
set_option maxRecDepth 100000 in
theorem m_Pg_fl {G1 : gS} : ∀ (w k : Nat), 8 < k + w → k ≤ 8 → Q (.inl none) (xW E G1 a (kNul c 8)) → GT E Y_Passage_forget (d + 1) G0 14 [(0, .ref (a + 20)), (1, .int (nI k))] [] (xW E G1 a (kNul c k)) Q := by
  intro w
  induction w with
  | zero =>
    intro k h1 h2
    omega
  | succ w ih =>
    intro k h1 h2 kk
    refine g_iload_n d_Passage_forget_14 rfl ?_
    refine g_bipush (v := 8) d_Passage_forget_15 (by decide) ?_
    refine g_icmp_ge (tgt := 33) d_Passage_forget_17 (by decide) (fun c_17 => ?_) (fun c_17 => ?_)
    · refine g_vret rfl d_Passage_forget_33 ?_
      have e : k = 8 := by have := (le_hi i8 (nI_hi (n := k) (by omega))).mp c_17; omega
      subst e
      exact kk
    · refine g_aload_n d_Passage_forget_20 rfl ?_
      refine x_get (k := 20) (j := 1) (v := .ref (a + 22)) kc_Passage fl_Passage_17 (by decide) (by decide) rfl rfl d_Passage_forget_21 ?_
      refine g_iload_n d_Passage_forget_24 rfl ?_
      refine g_null d_Passage_forget_25 ?_
      refine x_tstN (c' := (cT (kNul c k) 3 (k) none)) (k := 22) (q := k) (by decide) rfl (nI_hi (by omega)) (by have := Nat.not_le.mp (fun q => c_17 ((le_hi i8 (nI_hi (n := k) (by omega))).mpr q)); omega) rfl xf_T3 d_Passage_forget_26 ?_
      refine g_iinc (v := nI k + 1) d_Passage_forget_27 rfl (by rfl) (by decide) rfl ?_
      refine g_goto (tgt := 14) d_Passage_forget_30 (by decide) ?_
      rw [kNul_s, nI_1]
      exact ih (k + 1) (by omega) (by have := Nat.not_le.mp (fun q => c_17 ((le_hi i8 (nI_hi (n := k) (by omega))).mpr q)); omega) kk
set_option maxHeartbeats 400000 in
set_option maxRecDepth 100000 in
theorem m_Pg_forget (h : hpOk E a B SS c u n sl ks sp ps qs ms) : GM E Y_Passage_forget (d + 1) [.ref (a + 20)] (yW E G a c u n sl) (rPost none (fun G' => ∃ c' u', G' = yW E G a c' u' n sl ∧ pgP E a B SS c u n ks sp ps qs [] c' u' n sl ∧ c'.1 21 = 0 ∧ ∀ k, k < 8 → c'.2.2.1 3 k = none)) := by
  refine g_entry (by decide) (by simp [Value.category]) (Nat.le_of_ble_eq_true rfl) ?_
  have h1 := pg_hp (c' := cF c 21 0) h (fun j hj => up_ne hj) rfl
  refine g_aload_n d_Passage_forget_0 rfl ?_
  refine g_iconst (v := 0) d_Passage_forget_1 (by decide) ?_
  refine x_put (c' := (cF c 21 (0))) (k := 20) (j := 3) kc_Passage fl_Passage_28 (by decide) (by decide) rfl rfl rfl rfl (Nat.le_of_ble_eq_true rfl) rfl rfl xf_F21 d_Passage_forget_2 ?_
  refine g_aload_n d_Passage_forget_5 rfl ?_
  refine x_get (k := 20) (j := 2) (v := .ref (a + 23)) kc_Passage fl_Passage_24 (by decide) (by decide) rfl rfl d_Passage_forget_6 ?_
  refine c_Vx (as := []) kv_ArrayList_clear ml_Passage_32 rfl (x_at (k := 23) (by decide) rfl) (m_K_clear h1) rfl (Nat.le_of_ble_eq_true rfl) rfl d_Passage_forget_9 rfl (fun G_9 h_9 => ?_)
  obtain ⟨c1, u1, rfl, r1, r2, r3, r4⟩ := h_9
  refine g_iconst (v := 0) d_Passage_forget_12 (by decide) ?_
  refine g_istore_n d_Passage_forget_13 (by decide) rfl ?_
  have K := m_Pg_fl (E := E) (d := d) (G1 := zW E G u1 n sl) (a := a) (G0 := yW E G a c u n sl) (c := c1) (Q := rPost none (fun G' => ∃ c' u', G' = yW E G a c' u' n sl ∧ pgP E a B SS c u n ks sp ps qs [] c' u' n sl ∧ c'.1 21 = 0 ∧ ∀ k, k < 8 → c'.2.2.1 3 k = none)) 9 0 (by omega) (by omega)
  rw [kNul_0, show nI 0 = 0 from rfl] at K
  refine K ?_
  refine ⟨rfl, kNul c1 8, u1, rfl, ⟨pg_hp r1 (fun _ _ => rfl) rfl, pgF_tr (pgF_tr (c' := cF c 21 0) ⟨fun j h _ _ => up_ne h, fun _ _ => rfl, fun _ _ => rfl, fun _ _ => rfl⟩ (pgF_c r2)) ⟨fun _ _ _ _ => rfl, fun _ _ => rfl, fun j hj => upT_ne hj, fun _ _ => rfl⟩, r3, Nat.le_refl _, r4⟩, ?_, fun k hk => ?_⟩
  · show c1.1 21 = 0
    rw [r2.1 21 (by decide) (by decide)]
    rfl
  · show upT c1.2.2.1 3 _ 3 k = none
    rw [upT_at]
    exact if_pos hk
theorem hp_room (h : hpOk E a B SS c u n sl ks sp ps qs ms) : n + 900 ≤ E.1.heap.size + room_1.cells ∧ sl + 50000 ≤ room_1.slots := by
  have h1 := h.1
  have hcap0 := lCap_le h1.2.2.2.1
  have hlen0 := rw_len h1
  have hn0 := h1.2.2.2.2.2.2.2.1
  have hs0 := h1.2.2.2.2.2.2.2.2.1
  have hA := h1.2.2.2.2.2.2.2.2.2.1
  have hB := h1.2.2.2.2.2.2.2.2.2.2
  rw [List.length_append] at hn0 hs0
  omega
/-- a term is added to what is met -/
theorem m_K_met {t : Nat} (h : hpOk E a B SS c u n sl ks sp ps qs ms) (ht : zIs u a t 7) (hl : ms.length < 3300) : GM E Y_ArrayList_add (d + 6) [.ref (a + 23), .ref t] (yW E G a c u n sl) (rPost (some (.int 1)) (fun G' => ∃ c' u' n' sl', G' = yW E G a c' u' n' sl' ∧ pgP E a B SS c u n ks sp ps qs (ms ++ [t]) c' u' n' sl' ∧ c'.1 21 = c.1 21 ∧ c'.2.1 = c.2.1 ∧ c'.2.2.1 = c.2.2.1)) := by
  have hr := hp_room h
  have K := m_K_add (E := E) (d := d) (G := G) (sl := sl) lk_met h.1.1 h.1.2.2.1 h.1.2.1 h.2.2.2.1 (by decide) (by omega) hl ht (h.1.2.2.1 t (by rw [ht.1]; decide)).2 (by omega) (by omega)
  refine K.mono (fun o G' hq => ?_)
  obtain ⟨ho, c2, u2, n2, sl2, rfl, lo2, cf2, uf2, uo2, nn2, rn2, rs2, -⟩ := hq
  obtain ⟨r1, r2, r3⟩ := hpOk_met h lo2 cf2 uf2 uo2 nn2 rn2 rs2
  exact ⟨ho, c2, u2, n2, sl2, rfl, ⟨r1, pgF_c cf2, r2, nn2, r3⟩, cf2.1 21 (by decide) (by decide), cf2.2.1, cf2.2.2.1⟩
set_option maxHeartbeats 400000 in
set_option maxRecDepth 100000 in
theorem m_Pg_begin {t : Nat} (h : hpOk E a B SS c u n sl ks sp ps qs ms) (ht : zIs u a t 7) : GM E Y_Passage_begin (d + 7) [.ref (a + 20), .ref t] (yW E G a c u n sl) (rPost none (fun G' => ∃ c' u' n' sl', G' = yW E G a c' u' n' sl' ∧ pgP E a B SS c u n ks sp ps qs [t] c' u' n' sl' ∧ c'.1 21 = 0 ∧ ∀ k, k < 8 → c'.2.2.1 3 k = none)) := by
  refine g_entry (by decide) (by simp [Value.category]) (Nat.le_of_ble_eq_true rfl) ?_
  refine g_aload_n d_Passage_begin_0 rfl ?_
  refine c_Vx (as := []) kv_Passage_forget ml_Passage_35 rfl (x_at (k := 20) (by decide) rfl) (m_Pg_forget (d := d + 5) h) rfl (Nat.le_of_ble_eq_true rfl) rfl d_Passage_begin_1 rfl (fun G_1 h_1 => ?_)
  obtain ⟨c1, u1, rfl, r1, r2, r3⟩ := h_1
  have ht1 : zIs u1 a t 7 := zIs_k r1.2.2.1 ht (h.1.2.2.1 t (by rw [ht.1]; decide)).2
  refine g_aload_n d_Passage_begin_4 rfl ?_
  refine x_get (k := 20) (j := 2) (v := .ref (a + 23)) kc_Passage fl_Passage_24 (by decide) (by decide) rfl rfl d_Passage_begin_5 ?_
  refine g_aload_n d_Passage_begin_8 rfl ?_
  refine c_Vx (as := [.ref (t)]) kv_ArrayList_add ml_Passage_38 rfl (x_at (k := 23) (by decide) rfl) (m_K_met (d := d) r1.1 ht1 (by decide)) rfl (Nat.le_of_ble_eq_true rfl) rfl d_Passage_begin_9 rfl (fun G_9 h_9 => ?_)
  obtain ⟨c2, u2, n2, sl2, rfl, s1, s2, s3, s4⟩ := h_9
  refine g_pop d_Passage_begin_12 rfl ?_
  refine g_vret rfl d_Passage_begin_13 ?_
  exact ⟨rfl, c2, u2, n2, sl2, rfl, pgP_tr r1 s1, s2.trans r2, fun k hk => by rw [s4]; exact r3 k hk⟩
set_option maxHeartbeats 400000 in
set_option maxRecDepth 100000 in
theorem m_Pg_mt47 {t : Nat} {qn pl : Int32} {all : List Nat} (h4 : all.length ≤ 4) : ∀ (w i : Nat) (ms : List Nat) (c : cS) (u : uS) (n sl : Nat), i + w = all.length → ms.length + w ≤ 3300 → hpOk E a B SS c u n sl ks sp ps qs ms → zIs u a t 7 → zIs u a (t + 1) 8 → u.2.1 (t + 1) = all.length → (∀ j s, all[j]? = some s → u.2.2.2 (t + 1) j = some s ∧ zIs u a s 7) → (∀ c' u' n' sl', pgP E a B SS c u n ks sp ps qs (ms ++ all.drop i) c' u' n' sl' → c'.1 21 = c.1 21 → c'.2.1 = c.2.1 → c'.2.2.1 = c.2.2.1 → Q (.inl (some (.ref t))) (yW E G a c' u' n' sl')) → GT E Y_Passage_meet (d + 7) G0 47 [(0, .ref (a + 20)), (1, .int qn), (2, .int pl), (3, .ref t), (4, .int (nI i))] [] (yW E G a c u n sl) Q := by
  intro w
  induction w with
  | zero =>
    intro i ms c u n sl hi hml h ht ht1 hL hps kk
    obtain rfl : i = all.length := by omega
    refine g_iload d_Passage_meet_47 rfl ?_
    refine g_aload_n d_Passage_meet_49 rfl ?_
    refine z_get (k := 7) (j := 3) (v := .ref (t + 1)) kc_Term fl_Passage_46 (by decide) ht (by decide) rfl rfl d_Passage_meet_50 ?_
    refine g_tlen (z_at ht1 (by decide)) rfl d_Passage_meet_53 ?_
    refine g_icmp_ge (tgt := 78) d_Passage_meet_54 (by decide) (fun c_54 => ?_) (fun c_54 => ?_)
    rotate_left
    · exact absurd c_54 (fun q => q (by rw [hL]; exact Int32.le_refl _))
    refine g_aload_n d_Passage_meet_78 rfl ?_
    refine g_aret rfl (by first | exact Or.inl ⟨_, rfl⟩ | exact Or.inr ⟨_, rfl⟩) (by first | exact Or.inl rfl | exact Or.inr ⟨_, rfl⟩) d_Passage_meet_79 ?_
    refine kk c u n sl ⟨by rw [List.drop_length, List.append_nil]; exact h, pgF_rf, kFr_rf, Nat.le_refl _, fun _ _ => rfl⟩ rfl rfl rfl
  | succ w ih =>
    intro i ms c u n sl hi hml h ht ht1 hL hps kk
    obtain ⟨s, hs⟩ : ∃ s, all[i]? = some s := ⟨all[i]'(by omega), List.getElem?_eq_getElem (by omega)⟩
    obtain ⟨hs1, hs2⟩ := hps i s hs
    have hun := h.1.2.2.1
    refine g_iload d_Passage_meet_47 rfl ?_
    refine g_aload_n d_Passage_meet_49 rfl ?_
    refine z_get (k := 7) (j := 3) (v := .ref (t + 1)) kc_Term fl_Passage_46 (by decide) ht (by decide) rfl rfl d_Passage_meet_50 ?_
    refine g_tlen (z_at ht1 (by decide)) rfl d_Passage_meet_53 ?_
    refine g_icmp_ge (tgt := 78) d_Passage_meet_54 (by decide) (fun c_54 => ?_) (fun c_54 => ?_)
    · exact absurd c_54 (by rw [hL]; exact ige (by omega) (by omega) (by omega))
    refine g_aload_n d_Passage_meet_57 rfl ?_
    refine x_get (k := 20) (j := 2) (v := .ref (a + 23)) kc_Passage fl_Passage_24 (by decide) (by decide) rfl rfl d_Passage_meet_58 ?_
    refine g_aload_n d_Passage_meet_61 rfl ?_
    refine z_get (k := 7) (j := 3) (v := .ref (t + 1)) kc_Term fl_Passage_46 (by decide) ht (by decide) rfl rfl d_Passage_meet_62 ?_
    refine g_iload d_Passage_meet_65 rfl ?_
    refine z_tald (k := 8) (j := i) ht1 (by decide) rfl (nI_hi (by omega)) (by omega) hs1 d_Passage_meet_67 ?_
    refine c_Vx (as := [.ref (s)]) kv_ArrayList_add ml_Passage_38 rfl (x_at (k := 23) (by decide) rfl) (m_K_met (d := d) h hs2 (by omega)) rfl (Nat.le_of_ble_eq_true rfl) rfl d_Passage_meet_68 rfl (fun G_68 h_68 => ?_)
    obtain ⟨c1, u1, n1, sl1, rfl, s1, s2, s3, s4⟩ := h_68
    have kz : ∀ q k, zIs u a q k → k ≠ 0 → zIs u1 a q k := fun q k hz h0 => zIs_k s1.2.2.1 hz (hun q (by rw [hz.1]; exact h0)).2
    have kc : ∀ q k, zIs u a q k → k ≠ 0 → k ≠ 12 → u1.2.1 q = u.2.1 q ∧ u1.2.2.2 q = u.2.2.2 q := fun q k hz h0 h12 => by
      have := s1.2.2.1.2 q (hun q (by rw [hz.1]; exact h0)).2 (by rw [hz.1]; exact h0) (by rw [hz.1]; exact h12)
      exact ⟨this.1, this.2.2⟩
    refine g_pop d_Passage_meet_71 rfl ?_
    refine g_iinc (v := nI (i + 1)) d_Passage_meet_72 rfl (nI_1 i) (by decide) rfl ?_
    refine g_goto (tgt := 47) d_Passage_meet_75 (by decide) ?_
    refine ih (i + 1) (ms ++ [s]) c1 u1 n1 sl1 (by omega) (by simp only [List.length_append, List.length_cons, List.length_nil]; omega) s1.1 (kz _ _ ht (by decide)) (kz _ _ ht1 (by decide)) (by rw [(kc _ _ ht1 (by decide) (by decide)).1]; exact hL) (fun j s' hj => ?_) (fun c' u' n' sl' k1 k2 k3 k4 => ?_)
    · obtain ⟨w1, w2⟩ := hps j s' hj
      exact ⟨by rw [(kc _ _ ht1 (by decide) (by decide)).2]; exact w1, kz _ _ w2 (by decide)⟩
    · refine kk c' u' n' sl' ?_ (k2.trans s2) (k3.trans s3) (k4.trans s4)
      have e : ms ++ all.drop i = (ms ++ [s]) ++ all.drop (i + 1) := by
        rw [List.append_assoc, List.drop_eq_getElem_cons (by omega), show all[i]'(by omega) = s from (List.getElem?_eq_some_iff.mp hs).2]
        rfl
      rw [e]
      exact pgP_tr s1 k1
set_option maxHeartbeats 400000 in
set_option maxRecDepth 100000 in
theorem m_Pg_meet {t l p : Nat} {qn : Int32} {all : List Nat} (h : hpOk E a B SS c u n sl ks sp ps qs ms) (h21 : c.1 21 = nI l) (hl : l < 60) (hp : ms[p]? = some t) (h4 : all.length ≤ 4) (hml : ms.length + 4 ≤ 3300) (ht1 : zIs u a (t + 1) 8) (hL : u.2.1 (t + 1) = all.length) (hps : ∀ j s, all[j]? = some s → u.2.2.2 (t + 1) j = some s ∧ zIs u a s 7) : GM E Y_Passage_meet (d + 7) [.ref (a + 20), .int qn, .int (nI p)] (yW E G a c u n sl) (rPost (some (.ref t)) (fun G' => ∃ c' u' n' sl', G' = yW E G a c' u' n' sl' ∧ pgP E a B SS c u n ks sp ps qs (ms ++ all) c' u' n' sl' ∧ c'.1 21 = nI (l + 1) ∧ c'.2.1 6 = upd (c.2.1 6) l qn ∧ c'.2.2.1 = c.2.2.1)) := by
  refine g_entry (by decide) (by simp [Value.category]) (Nat.le_of_ble_eq_true rfl) ?_
  have ht := (lOk_get h.2.2.2.1 hp).2.2.2.2.1
  have cA6_at : (cF (cA c 6 l qn) 21 (nI (l + 1))).2.1 6 = upd (c.2.1 6) l qn := upA_at (A := c.2.1) (j := 6) (f := upd (c.2.1 6) l qn)
  have h1 : hpOk E a B SS (cF (cA c 6 l qn) 21 (nI (l + 1))) u n sl ks sp ps qs ms := pg_hp h (fun j hj => up_ne hj) rfl
  refine g_aload_n d_Passage_meet_0 rfl ?_
  refine x_get (k := 20) (j := 3) (v := .int (c.1 21)) kc_Passage fl_Passage_28 (by decide) (by decide) rfl rfl d_Passage_meet_1 ?_
  rw [h21]
  refine g_aload_n d_Passage_meet_4 rfl ?_
  refine x_get (k := 20) (j := 0) (v := .ref (a + 21)) kc_Passage fl_Passage_9 (by decide) (by decide) rfl rfl d_Passage_meet_5 ?_
  refine g_ilen (x_at (k := 21) (by decide) rfl) rfl d_Passage_meet_8 ?_
  refine g_icmp_ge (tgt := 32) d_Passage_meet_9 (by decide) (fun c_9 => ?_) (fun c_9 => ?_)
  · exact absurd c_9 (fun q => by have := (le_hi (show (Int32.ofNat 60).toInt = ((60 : Nat) : Int) by decide) (nI_hi (by omega))).mp q; omega)
  refine g_aload_n d_Passage_meet_12 rfl ?_
  refine x_get (k := 20) (j := 0) (v := .ref (a + 21)) kc_Passage fl_Passage_9 (by decide) (by decide) rfl rfl d_Passage_meet_13 ?_
  refine g_aload_n d_Passage_meet_16 rfl ?_
  refine x_get (k := 20) (j := 3) (v := .int (c.1 21)) kc_Passage fl_Passage_28 (by decide) (by decide) rfl rfl d_Passage_meet_17 ?_
  rw [h21]
  refine g_iload_n d_Passage_meet_20 rfl ?_
  refine x_ast (c' := (cA c 6 (l) (qn))) (k := 21) (q := l) (by decide) rfl (nI_hi (by omega)) hl rfl xf_A6 d_Passage_meet_21 ?_
  refine g_aload_n d_Passage_meet_22 rfl ?_
  refine g_dup d_Passage_meet_23 rfl ?_
  refine x_get (k := 20) (j := 3) (v := .int (c.1 21)) kc_Passage fl_Passage_28 (by decide) (by decide) rfl rfl d_Passage_meet_24 ?_
  rw [h21]
  refine g_iconst (v := 1) d_Passage_meet_27 (by decide) ?_
  refine g_iadd d_Passage_meet_28 ?_
  refine g_top (nI (l + 1)) (nI_1 l) ?_
  refine x_put (c' := (cF (cA c 6 (l) (qn)) 21 (nI (l + 1)))) (k := 20) (j := 3) kc_Passage fl_Passage_28 (by decide) (by decide) rfl rfl rfl rfl (Nat.le_of_ble_eq_true rfl) rfl rfl xf_F21 d_Passage_meet_29 ?_
  refine g_aload_n d_Passage_meet_32 rfl ?_
  refine x_get (k := 20) (j := 2) (v := .ref (a + 23)) kc_Passage fl_Passage_24 (by decide) (by decide) rfl rfl d_Passage_meet_33 ?_
  refine g_iload_n d_Passage_meet_36 rfl ?_
  refine c_Vr (as := [.int (nI p)]) kv_ArrayList_get ml_Passage_42 rfl (x_at (k := 23) (by decide) rfl) (m_K_get lk_met h1.2.2.2.1 (by omega) hp) rfl (Nat.le_of_ble_eq_true rfl) rfl d_Passage_meet_37 rfl ?_
  refine z_cast (kb := 7) cl_Passage_15 rfl ht (by decide) d_Passage_meet_40 ?_
  refine g_astore_n d_Passage_meet_43 (by decide) rfl ?_
  refine g_iconst (v := 0) d_Passage_meet_44 (by decide) ?_
  refine g_istore d_Passage_meet_45 (by decide) rfl ?_
  refine m_Pg_mt47 (all := all) h4 all.length 0 ms _ u n sl (by omega) (by omega) h1 ht ht1 hL hps (fun c' u' n' sl' k1 k2 k3 k4 => ⟨rfl, c', u', n', sl', rfl, ?_, k2, by rw [k3]; exact cA6_at, k4⟩)
  rw [List.drop_zero] at k1
  have hpf : pgF c (cF (cA c 6 l qn) 21 (nI (l + 1))) := ⟨fun j h _ _ => up_ne h, fun j hj => upA_ne hj, fun _ _ => rfl, fun _ _ => rfl⟩
  exact ⟨k1.1, pgF_tr hpf k1.2.1, k1.2.2⟩
end CS
