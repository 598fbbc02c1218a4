/-! Tree.fail, Tree.plant -/
theorem d_Tree_plant_0 : decode Y_Tree_plant.2.1 0 = .ok (.iconst 0, 1) := by decide +kernel
theorem d_Tree_plant_1 : decode Y_Tree_plant.2.1 1 = .ok (.istore 4, 2) := by decide +kernel
theorem d_Tree_plant_3 : decode Y_Tree_plant.2.1 3 = .ok (.iload 4, 2) := by decide +kernel
theorem d_Tree_plant_5 : decode Y_Tree_plant.2.1 5 = .ok (.bipush 20, 2) := by decide +kernel
theorem d_Tree_plant_7 : decode Y_Tree_plant.2.1 7 = .ok (.if_icmp .gt 110, 3) := by decide +kernel
theorem d_Tree_plant_10 : decode Y_Tree_plant.2.1 10 = .ok (.aload_n 0, 1) := by decide +kernel
theorem d_Tree_plant_11 : decode Y_Tree_plant.2.1 11 = .ok (.getfield 12, 3) := by decide +kernel
theorem d_Tree_plant_14 : decode Y_Tree_plant.2.1 14 = .ok (.invokevirtual 122, 3) := by decide +kernel
theorem d_Tree_plant_17 : decode Y_Tree_plant.2.1 17 = .ok (.iload_n 3, 1) := by decide +kernel
theorem d_Tree_plant_18 : decode Y_Tree_plant.2.1 18 = .ok (.if_icmp .le 99, 3) := by decide +kernel
theorem d_Tree_plant_21 : decode Y_Tree_plant.2.1 21 = .ok (.aload_n 0, 1) := by decide +kernel
theorem d_Tree_plant_22 : decode Y_Tree_plant.2.1 22 = .ok (.getfield 12, 3) := by decide +kernel
theorem d_Tree_plant_25 : decode Y_Tree_plant.2.1 25 = .ok (.iload_n 3, 1) := by decide +kernel
theorem d_Tree_plant_26 : decode Y_Tree_plant.2.1 26 = .ok (.invokevirtual 133, 3) := by decide +kernel
theorem d_Tree_plant_29 : decode Y_Tree_plant.2.1 29 = .ok (.astore 5, 2) := by decide +kernel
theorem d_Tree_plant_31 : decode Y_Tree_plant.2.1 31 = .ok (.aload 5, 2) := by decide +kernel
theorem d_Tree_plant_33 : decode Y_Tree_plant.2.1 33 = .ok (.invokevirtual 158, 3) := by decide +kernel
theorem d_Tree_plant_36 : decode Y_Tree_plant.2.1 36 = .ok (.ifCond .eq 11, 3) := by decide +kernel
theorem d_Tree_plant_39 : decode Y_Tree_plant.2.1 39 = .ok (.aload_n 0, 1) := by decide +kernel
theorem d_Tree_plant_40 : decode Y_Tree_plant.2.1 40 = .ok (.iload_n 1, 1) := by decide +kernel
theorem d_Tree_plant_41 : decode Y_Tree_plant.2.1 41 = .ok (.iload_n 2, 1) := by decide +kernel
theorem d_Tree_plant_42 : decode Y_Tree_plant.2.1 42 = .ok (.iload_n 3, 1) := by decide +kernel
theorem d_Tree_plant_43 : decode Y_Tree_plant.2.1 43 = .ok (.invokevirtual 162, 3) := by decide +kernel
theorem d_Tree_plant_46 : decode Y_Tree_plant.2.1 46 = .ok (.ireturn, 1) := by decide +kernel
theorem d_Tree_plant_47 : decode Y_Tree_plant.2.1 47 = .ok (.aload_n 0, 1) := by decide +kernel
theorem d_Tree_plant_48 : decode Y_Tree_plant.2.1 48 = .ok (.dup, 1) := by decide +kernel
theorem d_Tree_plant_49 : decode Y_Tree_plant.2.1 49 = .ok (.getfield 102, 3) := by decide +kernel
theorem d_Tree_plant_52 : decode Y_Tree_plant.2.1 52 = .ok (.iconst 1, 1) := by decide +kernel
theorem d_Tree_plant_53 : decode Y_Tree_plant.2.1 53 = .ok (.iadd, 1) := by decide +kernel
theorem d_Tree_plant_54 : decode Y_Tree_plant.2.1 54 = .ok (.putfield 102, 3) := by decide +kernel
theorem d_Tree_plant_57 : decode Y_Tree_plant.2.1 57 = .ok (.aload_n 0, 1) := by decide +kernel
theorem d_Tree_plant_58 : decode Y_Tree_plant.2.1 58 = .ok (.dup, 1) := by decide +kernel
theorem d_Tree_plant_59 : decode Y_Tree_plant.2.1 59 = .ok (.getfield 99, 3) := by decide +kernel
theorem d_Tree_plant_62 : decode Y_Tree_plant.2.1 62 = .ok (.iconst 1, 1) := by decide +kernel
theorem d_Tree_plant_63 : decode Y_Tree_plant.2.1 63 = .ok (.aload 5, 2) := by decide +kernel
theorem d_Tree_plant_65 : decode Y_Tree_plant.2.1 65 = .ok (.getfield 165, 3) := by decide +kernel
theorem d_Tree_plant_68 : decode Y_Tree_plant.2.1 68 = .ok (.ishl, 1) := by decide +kernel
theorem d_Tree_plant_69 : decode Y_Tree_plant.2.1 69 = .ok (.ior, 1) := by decide +kernel
theorem d_Tree_plant_70 : decode Y_Tree_plant.2.1 70 = .ok (.putfield 99, 3) := by decide +kernel
theorem d_Tree_plant_73 : decode Y_Tree_plant.2.1 73 = .ok (.aload_n 0, 1) := by decide +kernel
theorem d_Tree_plant_74 : decode Y_Tree_plant.2.1 74 = .ok (.getfield 43, 3) := by decide +kernel
theorem d_Tree_plant_77 : decode Y_Tree_plant.2.1 77 = .ok (.aload 5, 2) := by decide +kernel
theorem d_Tree_plant_79 : decode Y_Tree_plant.2.1 79 = .ok (.getfield 165, 3) := by decide +kernel
theorem d_Tree_plant_82 : decode Y_Tree_plant.2.1 82 = .ok (.invokevirtual 168, 3) := by decide +kernel
theorem d_Tree_plant_85 : decode Y_Tree_plant.2.1 85 = .ok (.ifCond .ne 13, 3) := by decide +kernel
theorem d_Tree_plant_88 : decode Y_Tree_plant.2.1 88 = .ok (.aload_n 0, 1) := by decide +kernel
theorem d_Tree_plant_89 : decode Y_Tree_plant.2.1 89 = .ok (.getfield 12, 3) := by decide +kernel
theorem d_Tree_plant_92 : decode Y_Tree_plant.2.1 92 = .ok (.iload_n 3, 1) := by decide +kernel
theorem d_Tree_plant_93 : decode Y_Tree_plant.2.1 93 = .ok (.invokevirtual 89, 3) := by decide +kernel
theorem d_Tree_plant_96 : decode Y_Tree_plant.2.1 96 = .ok (.iconst 1, 1) := by decide +kernel
theorem d_Tree_plant_97 : decode Y_Tree_plant.2.1 97 = .ok (.ireturn, 1) := by decide +kernel
theorem d_Tree_plant_98 : decode Y_Tree_plant.2.1 98 = .ok (.aload_n 0, 1) := by decide +kernel
theorem d_Tree_plant_99 : decode Y_Tree_plant.2.1 99 = .ok (.getfield 12, 3) := by decide +kernel
theorem d_Tree_plant_102 : decode Y_Tree_plant.2.1 102 = .ok (.iload_n 3, 1) := by decide +kernel
theorem d_Tree_plant_103 : decode Y_Tree_plant.2.1 103 = .ok (.aload 5, 2) := by decide +kernel
theorem d_Tree_plant_105 : decode Y_Tree_plant.2.1 105 = .ok (.getfield 165, 3) := by decide +kernel
theorem d_Tree_plant_108 : decode Y_Tree_plant.2.1 108 = .ok (.invokevirtual 174, 3) := by decide +kernel
theorem d_Tree_plant_111 : decode Y_Tree_plant.2.1 111 = .ok (.iinc 4 1, 3) := by decide +kernel
theorem d_Tree_plant_114 : decode Y_Tree_plant.2.1 114 = .ok (.goto (-111), 3) := by decide +kernel
theorem d_Tree_plant_117 : decode Y_Tree_plant.2.1 117 = .ok (.aload_n 0, 1) := by decide +kernel
theorem d_Tree_plant_118 : decode Y_Tree_plant.2.1 118 = .ok (.invokevirtual 178, 3) := by decide +kernel
theorem d_Tree_plant_121 : decode Y_Tree_plant.2.1 121 = .ok (.iconst 1, 1) := by decide +kernel
theorem d_Tree_plant_122 : decode Y_Tree_plant.2.1 122 = .ok (.ireturn, 1) := by decide +kernel
section CL
variable {E : gE} {d : Nat} {G G0 : gS} {a : Nat} {c c' c0 c1 : cS} {u u' u2 u0 : uS} {n n' n0 n1 sl sl' sl1 : Nat} {Q : gO → gS → Prop} {B SS : Nat} {P : Nat → Nat → Int32} {N t0 X C nk nk' way : Nat} {tm cp : Nat → Nat} {ob : Nat → Int32} {T : Nat → Prop} {pos plc : Nat → List Nat} {an : aAn} {ks bs sp ps qs qs' qs1 ms : List Nat} {Z : List zQ} {st : aSt} {W : List (List Nat)}
/-- of the class only counts and what is missing have changed -/
def flF (c c' : cS) : Prop := (∀ j, j < 8 ∨ 11 < j → c'.1 j = c.1 j) ∧ (∀ j, j ≠ 5 → c'.2.1 j = c.2.1 j) ∧ c'.2.2 = c.2.2
theorem flF_hp (h : hpOk E a B SS c u n sl ks sp ps qs ms) (hF : flF c c') : hpOk E a B SS c' u n sl ks sp ps qs ms := (hpOk_k (c' := c') (K := fun k => k = 5) h kFr_rf (fun k z => Or.inl z) (fun _ => rfl) (fun j hj => hF.1 j (by omega)) (fun j => by rw [hF.2.2])).1
theorem flF_g (hF : flF c c') : gF c u n c' u n := gF_c (fun j hj => hF.1 j (by omega)) (fun j _ h5 => hF.2.1 j h5) hF.2.2
theorem flF_T (h : clT E a B SS P N t0 tm ob T C cp c u n sl ks bs sp ps qs ms nk Z st) (hF : flF c c') {st' : aSt} (e1 : st'.1 = st.1) (e2 : st'.2.2.2.2.2.1 = st.2.2.2.2.2.1) (hC : tC c' st') : clT E a B SS P N t0 tm ob T C cp c' u n sl ks bs sp ps qs ms nk Z st' := by
  obtain ⟨t1, t2, t3, t4, t5, t6, t7, t8, t9, tA, tB, tC1, tD⟩ := h
  have hg := flF_g (u := u) (n := n) hF
  refine ⟨flF_hp t1 hF, t2, cK_g t3 hg, ?_, by rw [e1]; exact t5, by rw [e1, hF.1 6 (by decide)]; exact t6, by rw [e1]; exact t7, by rw [e1]; exact t8, by rw [e2]; exact t9, tA, by rw [hF.1 7 (by decide)]; exact tB, tC1, hC⟩
  rw [e1]
  exact zqAll_fr t4 (fun j q _ hq => ⟨hq, rfl, fun _ _ => rfl⟩) (fun _ _ => rfl) (Nat.le_refl _) (fun i _ => by rw [hF.2.1 4 (by decide)])
/-- the way's places -/
def wyC (P : Nat → Nat → Int32) (t0 : Nat) (u : uS) (ps : List Nat) (X : Nat) (plc : Nat → List Nat) (an : aAn) : Prop := (∀ i, i < X → plC P t0 u ps X plc an i) ∧ 0 < X ∧ X ≤ 3200 ∧ plc 0 = [] ∧ ∀ i j, i < X → j < X → plc i = plc j → i = j
set_option maxHeartbeats 400000 in
set_option maxRecDepth 100000 in
theorem m_T_fail (h : hpOk E a B SS c u n sl ks sp ps qs ms) (hC : tC c st) (hf : st.2.2.1 < 1000000) (hwy : wyC P t0 u ps X plc an) (h24 : ∀ π, ¬ (an π).1 = 0 → π.length ≤ 23) (hd : dOk P t0 an 26 []) (hl : (aT P t0 an 26 []).length ≤ 6402) : GM E Y_Tree_fail (d + 31) [.ref (a + 12)] (yW E G a c u n sl) (rPost none (fun G' => ∃ c', G' = yW E G a c' u n sl ∧ flF c c' ∧ c'.1 10 = c.1 10 ∧ c'.1 9 = c.1 9 ∧ tC c' (stF P t0 an way st))) := by
  refine g_entry (by decide) (by simp [Value.category]) (Nat.le_of_ble_eq_true rfl) ?_
  obtain ⟨w1, w2, w3, w4, w5, w6⟩ := id hC
  by_cases h0 : st.2.2.1 = 0
  · have KT := m_P_tellAll (E := E) (d := d) (G := G) (c := c) (n := n) (sl := sl) (f := 26) (by have := hwy.2.2.1; omega) hwy.2.1 hwy.2.2.2.1 hwy.1 h24 hd hl h
    refine g_aload_n d_Tree_fail_0 rfl ?_
    refine x_get (k := 12) (j := 12) (v := .int (c.1 11)) kc_Tree fl_Tree_105 (by decide) (by decide) rfl rfl d_Tree_fail_1 ?_
    rw [w2]
    refine g_if_ne (tgt := 22) d_Tree_fail_4 (by decide) (fun c_4 => ?_) (fun c_4 => ?_)
    · exact absurd c_4 (fun q => q (by rw [h0]; rfl))
    refine g_aload_n d_Tree_fail_7 rfl ?_
    refine g_aload_n d_Tree_fail_8 rfl ?_
    refine x_get (k := 12) (j := 3) (v := .ref (a + 15)) kc_Tree fl_Tree_21 (by decide) (by decide) rfl rfl d_Tree_fail_9 ?_
    refine g_aload_n d_Tree_fail_12 rfl ?_
    refine x_get (k := 12) (j := 6) (v := .ref (a + 19)) kc_Tree fl_Tree_36 (by decide) (by decide) rfl rfl d_Tree_fail_13 ?_
    refine c_Vx (as := [.ref (a + 19)]) kv_Places_tellAll ml_Tree_181 rfl (x_at (k := 15) (by decide) rfl) (KT) rfl (Nat.le_of_ble_eq_true rfl) rfl d_Tree_fail_16 rfl (fun G_16 h_16 => ?_)
    obtain ⟨c1, rfl, hp1⟩ := h_16
    refine x_put (c' := (cF c1 8 (nI (aT P t0 an 26 []).length))) (k := 12) (j := 9) kc_Tree fl_Tree_96 (by decide) (by decide) rfl rfl rfl rfl (Nat.le_of_ble_eq_true rfl) rfl rfl xf_F8 d_Tree_fail_19 ?_
    refine g_aload_n d_Tree_fail_22 rfl ?_
    refine g_dup d_Tree_fail_23 rfl ?_
    refine x_get (k := 12) (j := 12) (v := .int (c1.1 11)) kc_Tree fl_Tree_105 (by decide) (by decide) rfl rfl d_Tree_fail_24 ?_
    rw [hp1.2.1, w2]
    refine g_iconst (v := 1) d_Tree_fail_27 (by decide) ?_
    refine g_iadd d_Tree_fail_28 ?_
    refine g_top (nI (st.2.2.1 + 1)) (nI_1 _) ?_
    refine x_put (c' := (cF (cF c1 8 (nI (aT P t0 an 26 []).length)) 11 (nI (st.2.2.1 + 1)))) (k := 12) (j := 12) kc_Tree fl_Tree_105 (by decide) (by decide) rfl rfl rfl rfl (Nat.le_of_ble_eq_true rfl) rfl rfl xf_F11 d_Tree_fail_29 ?_
    refine g_vret rfl d_Tree_fail_32 ?_
    have c25 : ∀ j, j ≠ 5 → c1.2.1 j = c.2.1 j := hp1.2.2.1
    have cj : ∀ j, j ≠ 8 → j ≠ 11 → (cF (cF c1 8 (nI (aT P t0 an 26 []).length)) 11 (nI (st.2.2.1 + 1))).1 j = c.1 j := fun j h8 h11 => by
      show upd (upd c1.1 8 _) 11 _ j = _
      rw [up_ne h11, up_ne h8, hp1.2.1]
    refine ⟨rfl, _, rfl, ⟨fun j hj => cj j (by omega) (by omega), c25, hp1.2.2.2.1⟩, cj 10 (by decide) (by decide), cj 9 (by decide) (by decide), ?_⟩
    refine ⟨(cj 10 (by decide) (by decide)).trans w1, rfl, (cj 9 (by decide) (by decide)).trans w3, fun z => absurd z (by simp [stF]), fun _ => ?_, (cj 12 (by decide) (by decide)).trans w6⟩
    simp only [stF, h0, if_true]
    exact ⟨rfl, hp1.1⟩
  · refine g_aload_n d_Tree_fail_0 rfl ?_
    refine x_get (k := 12) (j := 12) (v := .int (c.1 11)) kc_Tree fl_Tree_105 (by decide) (by decide) rfl rfl d_Tree_fail_1 ?_
    rw [w2]
    refine g_if_ne (tgt := 22) d_Tree_fail_4 (by decide) (fun c_4 => ?_) (fun c_4 => ?_)
    rotate_left
    · exact absurd c_4 (fun q => nI_ne (b := 0) h0 (by omega) (by omega) q)
    refine g_aload_n d_Tree_fail_22 rfl ?_
    refine g_dup d_Tree_fail_23 rfl ?_
    refine x_get (k := 12) (j := 12) (v := .int (c.1 11)) kc_Tree fl_Tree_105 (by decide) (by decide) rfl rfl d_Tree_fail_24 ?_
    rw [w2]
    refine g_iconst (v := 1) d_Tree_fail_27 (by decide) ?_
    refine g_iadd d_Tree_fail_28 ?_
    refine g_top (nI (st.2.2.1 + 1)) (nI_1 _) ?_
    refine x_put (c' := (cF c 11 (nI (st.2.2.1 + 1)))) (k := 12) (j := 12) kc_Tree fl_Tree_105 (by decide) (by decide) rfl rfl rfl rfl (Nat.le_of_ble_eq_true rfl) rfl rfl xf_F11 d_Tree_fail_29 ?_
    refine g_vret rfl d_Tree_fail_32 ?_
    have cj : ∀ j, j ≠ 11 → (cF c 11 (nI (st.2.2.1 + 1))).1 j = c.1 j := fun j h11 => up_ne h11
    refine ⟨rfl, _, rfl, ⟨fun j hj => cj j (by omega), fun _ _ => rfl, rfl⟩, cj 10 (by decide), cj 9 (by decide), ?_⟩
    refine ⟨(cj 10 (by decide)).trans w1, rfl, (cj 9 (by decide)).trans w3, fun z => absurd z (by simp [stF]), fun _ => ?_, (cj 12 (by decide)).trans w6⟩
    simp only [stF, if_neg h0]
    exact ⟨(cj 8 (by decide)).trans (w5 h0).1, (w5 h0).2⟩
set_option maxHeartbeats 400000 in
set_option maxRecDepth 100000 in
theorem m_C_grd {k : Nat} (hk : k < 20) (h : c.2.1 3 k = 0 ∨ c.2.1 3 k = 1) : GM E Y_Cases_isGuarded d [.ref (a + 5), .int (nI k)] (yW E G a c u n sl) (rIs (some (.int (c.2.1 3 k))) (yW E G a c u n sl)) := by
  refine g_entry (by decide) (by simp [Value.category]) (Nat.le_of_ble_eq_true rfl) ?_
  refine g_aload_n d_Cases_isGuarded_0 rfl ?_
  refine x_get (k := 5) (j := 1) (v := .ref (a + 7)) kc_Cases fl_Cases_17 (by decide) (by decide) rfl rfl d_Cases_isGuarded_1 ?_
  refine g_iload_n d_Cases_isGuarded_4 rfl ?_
  refine g_zald (j := k) (x_at (k := 7) (by decide) rfl) (nI_hi (by omega)) hk d_Cases_isGuarded_5 ?_
  refine g_zret rfl (by rcases h with z | z <;> rw [z] <;> rfl) d_Cases_isGuarded_6 ?_
  exact ⟨rfl, rfl⟩
theorem m_T_has {b : Nat} (hw : rowW u a b) {A : rC} (hx : rc u tm b A) (hl : A.2.1.length < 1000) : GM E Y_Row_hasWishes d [.ref b] (yW E G a c u n sl) (rIs (some (.int (if A.2.1 = [] then 0 else 1))) (yW E G a c u n sl)) := by
  have K := m_R_has (E := E) (d := d) (G := G) (c := c) (n := n) (sl := sl) (x := xOf u b) hw
  rw [uR_self, hx.2.1, List.length_map] at K
  have e : b32 (0 < nI A.2.1.length) = if A.2.1 = [] then 0 else 1 := by
    unfold b32
    by_cases h : A.2.1 = []
    · rw [if_pos h, h]
      rfl
    · rw [if_neg h]
      refine if_pos ((lt_hi (show (0 : Int32).toInt = ((0 : Nat) : Int) by decide) (nI_hi (by omega))).mpr ?_)
      exact List.length_pos_iff.mpr h
  rw [e] at K
  exact K
/-- what is done with rows that take: the state, the rows that are left, the cases left out -/
def pPl (P : Nat → Nat → Int32) (way : Nat) : Nat → List pRow → aSt → aSt × List pRow × List Nat
  | 0, L, st => (st, L, [])
  | _ + 1, [], st => (st, [], [])
  | f + 1, A :: r, st => if A.2.1 = [] ∧ ¬ P 12 A.1 = 0 then ((pPl P way f (aOt A.1 (A :: r)) (stT A.1 way st)).1, (pPl P way f (aOt A.1 (A :: r)) (stT A.1 way st)).2.1, A.1 :: (pPl P way f (aOt A.1 (A :: r)) (stT A.1 way st)).2.2) else (st, A :: r, [])
theorem pPl_1 : ∀ (f : Nat) (L : List pRow) (st : aSt), (pPl P way f L st).1.1 = st.1 ∧ (pPl P way f L st).1.2.2.2.2.2.1 = st.2.2.2.2.2.1 ∧ (pPl P way f L st).1.2.2.1 = st.2.2.1 ∧ (pPl P way f L st).1.2.2.2.2.2.2.2 = st.2.2.2.2.2.2.2
  | 0, L, st => ⟨rfl, rfl, rfl, rfl⟩
  | f + 1, [], st => ⟨rfl, rfl, rfl, rfl⟩
  | f + 1, A :: r, st => by
    simp only [pPl]
    split
    · exact pPl_1 f _ _
    · exact ⟨rfl, rfl, rfl, rfl⟩
/-- a leaf's state -/
def stL (P : Nat → Nat → Int32) (t0 : Nat) (an : aAn) (way : Nat) (st : aSt) : List pRow → Option aSt
  | [] => some (stF P t0 an way st)
  | A :: _ => if A.2.1 = [] then some (stT A.1 way st) else none
theorem stT_tC {ow : Nat} (h : tC c st) (h10 : c'.1 10 = nI (st.2.1 + 1)) (h9 : c'.1 9 = st.2.2.2.1 ||| 1 <<< (nI ow &&& 31)) (hj : ∀ j, j = 8 ∨ j = 11 ∨ j = 12 → c'.1 j = c.1 j) (h5 : c'.2.1 5 = c.2.1 5) : tC c' (stT ow way st) := by
  obtain ⟨w1, w2, w3, w4, w5, w6⟩ := h
  refine ⟨h10, (hj 11 (by decide)).trans w2, h9, fun z => (hj 8 (by decide)).trans (w4 z), fun z => ?_, (hj 12 (by decide)).trans w6⟩
  obtain ⟨v1, v2⟩ := w5 z
  refine ⟨(hj 8 (by decide)).trans v1, ?_⟩
  unfold mtT
  rw [h5]
  exact v2
theorem clT_rows {bs' sp' : List Nat} (h : clT E a B SS P N t0 tm ob T C cp c u n sl ks bs sp ps qs ms nk Z st) (h' : hpOk E a B SS c' u' n' sl' (ks ++ bs') sp' ps qs ms) (hc : rFc c c') (hf : rFr u u' n) (hn : n ≤ n') (hx : ∀ y ∈ ks, xOf u' y = xOf u y) : clT E a B SS P N t0 tm ob T C cp c' u' n' sl' ks bs' sp' ps qs ms nk Z st := by
  obtain ⟨t1, t2, t3, t4, t5, t6, t7, t8, t9, tA, tB, tC1, tD⟩ := h
  have hg := gF_r hc hf hn
  refine ⟨h', tmW_g t2 (hpOk_un t1) hg, cK_g t3 hg, ?_, t5, by rw [hc.1 6 (by decide) (by decide) (by decide)]; exact t6, t7, t8, t9, tA, by rw [hc.1 7 (by decide) (by decide) (by decide)]; exact tB, tC1, tC_fr tD (fun j h1 h2 => hc.1 j (by omega) (by omega) (by omega)) (by rw [hc.2.1])⟩
  refine zqAll_fr t4 (fun j q hj hq => ?_) hx (Nat.le_refl _) (fun i _ => by rw [hc.2.1])
  have hz := lOk_get t1.2.2.1 hq
  exact ⟨hq, hf.1 q hz.2.2.2.2.2, fun i _ => by rw [(hf.2 q hz.2.2.2.2.2 (by rw [hz.2.2.2.2.1.1]; decide) (by rw [hz.2.2.2.2.1.1]; decide)).2.1]⟩
theorem hp_cut (h : hpOk E a B SS c u n sl (ks ++ bs) sp ps qs ms) : hpOk E a B SS (cF c 13 (nI ks.length)) u n sl ks (bs ++ sp) ps qs ms := by
  obtain ⟨⟨h1, h2, h3, h4, h5, h6, h7, h8, h9, hA, hB⟩, g⟩ := h
  have e : ks ++ (bs ++ sp) = (ks ++ bs) ++ sp := by simp
  refine ⟨⟨h1, h2, h3, ?_, ?_, ?_, rfl, ?_, ?_, hA, hB⟩, g⟩
  · rw [e]
    exact h4
  · rw [e]
    exact h5
  · rw [e]
    exact h6
  · rw [e]
    exact h8
  · rw [e]
    exact h9
theorem tFr_r {D : Nat} (h : hpOk E a B SS c u n sl ks sp ps qs ms) (hc : rFc c c') (hf : rFr u u' n) (hn : n ≤ n') : tFr c u n qs D c' u' n' qs ∧ plS c u n c' u' := by
  have e6 : ∀ y, 5 ≤ u.1 y → u.1 y ≠ 9 → y < n → u'.2.2.1 y = u.2.2.1 y := fun y h1 h2 h3 => (hf.2 y h3 h1 h2).2.1
  exact ⟨tFr_g (gF_r hc hf hn) h.2.2.1 (fun y h6 hl => by rw [e6 y (by omega) (by omega) hl]), hc.1 16 (by decide) (by decide) (by decide), fun y h5 hl => e6 y (by omega) (by omega) hl⟩
theorem tFr_f {D : Nat} (h : hpOk E a B SS c u n sl ks sp ps qs ms) (hF : flF c c') : tFr c u n qs D c' u n qs ∧ plS c u n c' u := ⟨tFr_g (flF_g hF) h.2.2.1 (fun _ _ _ => rfl), hF.1 16 (by decide), fun _ _ _ => rfl⟩
theorem wyC_S (h : wyC P t0 u ps X plc an) (hl : lOk E c u a n 18 1 5 3300 ps) (hS : plS c u n c' u') : wyC P t0 u' ps X plc an := by
  obtain ⟨h1, h2⟩ := h
  refine ⟨fun i hi => ?_, h2⟩
  obtain ⟨y, hy, h3⟩ := h1 i hi
  have hz := lOk_get hl hy
  refine ⟨y, hy, ?_⟩
  rw [hS.2 y hz.2.2.2.2.1.1 hz.2.2.2.2.2]
  exact h3
theorem tn_31 {x : Int32} : tn x < 2 ^ 31 := by
  unfold tn
  have := x.toInt_lt
  omega
theorem tyP_31 (ht0 : t0 < 16) (π : List Nat) : tyP P t0 π < 2 ^ 31 := by
  rcases List.eq_nil_or_concat π with rfl | ⟨ρ, e, rfl⟩
  · show t0 < _
    omega
  · rw [List.concat_eq_append, tyP_app]
    exact tn_31
theorem tyP_w (wf : wfA P N pos) (ht0 : t0 < 16) {q : List Nat × Nat} (h : wOk P N pos t0 q) : tyP P t0 q.1 < 16 := by
  obtain ⟨t, ht, e⟩ := (wf.2.2 q.2 h.1).1
  have e2 := congrArg tn (h.2.2.symm.trans e)
  rw [tnI (tyP_31 ht0 _), tnI (by omega)] at e2
  omega
set_option maxHeartbeats 1000000 in
set_option maxRecDepth 100000 in
theorem m_T_pl3 (wf : wfA P N pos) (wb : wfB P N) (wk : wfK P N) (tp : tmP P N tm ob T) (hC20 : C ≤ 20) (ht0 : t0 < 16) (hg01 : ∀ k, k < C → P 12 k = 0 ∨ P 12 k = 1) (h24 : ∀ π, ¬ (an π).1 = 0 → π.length ≤ 23) (hd : dOk P t0 an 26 []) (hl6 : (aT P t0 an 26 []).length ≤ 6402) (hwl : way ≤ 2000) {up via : Int32} : ∀ (g t : Nat) (L : List rC) (bs sp Dr : List Nat) (st : aSt) (c : cS) (u : uS) (n sl : Nat), L.length ≤ g → clT E a B SS P N t0 tm ob T C cp c u n sl ks bs sp ps qs ms nk Z st → rcs u tm bs L → rws P N ob T X L → L.length ≤ 80 → c.1 16 = nI X → wyC P t0 u ps X plc an → (∀ A ∈ L.map (rP plc), pRk P N pos t0 C W Dr A) → Dr.Nodup → (∀ k ∈ Dr, k < C) → t ≤ Dr.length → st.2.2.1 < 1000000 → st.2.2.2.2.2.2.2 ≤ 3000 → ((up = -1 ∧ way = 0) ∨ ∃ i x, st.1[i]? = some x ∧ up = nI i ∧ way = x.2.2.1 + 1) → zR1 P t0 Z st.1 st.1.length up via X plc →
    (∀ c' u' n' sl' sp' st', stL P t0 an way (pPl P way g (L.map (rP plc)) st).1 (pPl P way g (L.map (rP plc)) st).2.1 = some st' → clT E a B SS P N t0 tm ob T C cp c' u' n' sl' ks [] sp' ps qs ms nk Z st' → tFr c u n qs st.1.length c' u' n' qs → plS c u n c' u' → Q (.inl (some (.int 1))) (yW E G a c' u' n' sl')) →
    (∀ c' u' n' sl' sp' qs' nk' bs' ow p k ws bd Lr q, (pPl P way g (L.map (rP plc)) st).2.1 = ((ow, (p, k) :: ws, bd) :: Lr).map (rP plc) → ¬ (pPl P way g (L.map (rP plc)) st).1.1.length = 1000 → ¬ 800 < (pPl P way g (L.map (rP plc)) st).1.2.2.2.2.2.1 + (pPl P way g (L.map (rP plc)) st).2.1.length → clT E a B SS P N t0 tm ob T C cp c' u' n' sl' (ks ++ bs') [] sp' ps qs' ms nk' (Z ++ [(bs', (ow, (p, k) :: ws, bd) :: Lr, p, X, nk, plc)]) (stQ (pPl P way g (L.map (rP plc)) st).2.1 (plc p) way up via (pPl P way g (L.map (rP plc)) st).1) → tFr c u n qs st.1.length c' u' n' qs' → plS c u n c' u' → qs'[st.1.length]? = some q → u'.2.2.1 q 11 = 0 → Q (.inl (some (.int 1))) (yW E G a c' u' n' sl')) →
    (∀ c' u' n' sl' ks' sp' qs', (∃ A r w ws, (pPl P way g (L.map (rP plc)) st).2.1 = A :: r ∧ A.2.1 = w :: ws ∧ ((pPl P way g (L.map (rP plc)) st).1.1.length = 1000 ∨ 800 < (pPl P way g (L.map (rP plc)) st).1.2.2.2.2.2.1 + (pPl P way g (L.map (rP plc)) st).2.1.length)) → hpOk E a B SS c' u' n' sl' ks' sp' ps qs' ms → gF c u n c' u' n' → Q (.inl (some (.int 0))) (yW E G a c' u' n' sl')) → GT E Y_Tree_plant (d + 32) G0 3 [(0, .ref (a + 12)), (1, .int up), (2, .int via), (3, .int (nI ks.length)), (4, .int (nI t))] [] (yW E G a c u n sl) Q := by
  intro g
  induction g with
  | zero =>
    intro t L bs sp Dr st c u n sl hg hT hr hw h80 h16 hwy hpr hdn hdc htD hfl hlg hup hrel kL kA kz
    obtain rfl : L = [] := List.length_eq_zero_iff.mp (by omega)
    have hb := rcs_len hr
    obtain rfl : bs = [] := List.length_eq_zero_iff.mp (by rw [hb]; rfl)
    have h13 := hT.1.1.2.2.2.2.2.2.1
    have h20 := nd_leN hdn hdc
    have hks := hT.2.2.2.2.2.2.2.2.2.1
    rw [List.append_nil] at h13
    refine g_iload d_Tree_plant_3 rfl ?_
    refine g_bipush (v := 20) d_Tree_plant_5 (by decide) ?_
    refine g_icmp_gt (tgt := 117) d_Tree_plant_7 (by decide) (fun c_7 => ?_) (fun c_7 => ?_)
    · exact absurd c_7 (fun q => by have := (lt_hi (show (20 : Int32).toInt = ((20 : Nat) : Int) by decide) (nI_hi (by omega))).mp q; omega)
    refine g_aload_n d_Tree_plant_10 rfl ?_
    refine x_get (k := 12) (j := 2) (v := .ref (a + 13)) kc_Tree fl_Tree_12 (by decide) (by decide) rfl rfl d_Tree_plant_11 ?_
    refine c_Vr (as := []) kv_Rows_size ml_Tree_122 rfl (x_at (k := 13) (by decide) rfl) (m_S_size) rfl (Nat.le_of_ble_eq_true rfl) rfl d_Tree_plant_14 rfl ?_
    rw [h13]
    refine g_iload_n d_Tree_plant_17 rfl ?_
    refine g_icmp_le (tgt := 117) d_Tree_plant_18 (by decide) (fun c_18 => ?_) (fun c_18 => ?_)
    rotate_left
    · exact absurd c_18 (fun q => q (Int32.le_refl _))
    refine g_aload_n d_Tree_plant_117 rfl ?_
    refine c_Vx (as := []) kv_Tree_fail ml_Tree_178 rfl (x_at (k := 12) (by decide) rfl) (m_T_fail (d := d) (way := way) hT.1 hT.2.2.2.2.2.2.2.2.2.2.2.2 hfl hwy h24 hd hl6) rfl (Nat.le_of_ble_eq_true rfl) rfl d_Tree_plant_118 rfl (fun G_118 h_118 => ?_)
    obtain ⟨c1, rfl, hF1, -, -, hC1⟩ := h_118
    obtain ⟨f1, f2⟩ := tFr_f (D := st.1.length) hT.1 hF1
    have hT1 := flF_T (st' := stF P t0 an way st) hT hF1 rfl rfl hC1
    refine g_iconst (v := 1) d_Tree_plant_121 (by decide) ?_
    refine g_zret rfl rfl d_Tree_plant_122 ?_
    exact kL c1 u n sl sp _ rfl hT1 f1 f2
  | succ g ih =>
    intro t L bs sp Dr st c u n sl hg hT hr hw h80 h16 hwy hpr hdn hdc htD hfl hlg hup hrel kL kA kz
    have h13 := hT.1.1.2.2.2.2.2.2.1
    have h20 := nd_leN hdn hdc
    have hks := hT.2.2.2.2.2.2.2.2.2.1
    cases L with
    | nil =>
      have hb := rcs_len hr
      obtain rfl : bs = [] := List.length_eq_zero_iff.mp (by rw [hb]; rfl)
      rw [List.append_nil] at h13
      refine g_iload d_Tree_plant_3 rfl ?_
      refine g_bipush (v := 20) d_Tree_plant_5 (by decide) ?_
      refine g_icmp_gt (tgt := 117) d_Tree_plant_7 (by decide) (fun c_7 => ?_) (fun c_7 => ?_)
      · exact absurd c_7 (fun q => by have := (lt_hi (show (20 : Int32).toInt = ((20 : Nat) : Int) by decide) (nI_hi (by omega))).mp q; omega)
      refine g_aload_n d_Tree_plant_10 rfl ?_
      refine x_get (k := 12) (j := 2) (v := .ref (a + 13)) kc_Tree fl_Tree_12 (by decide) (by decide) rfl rfl d_Tree_plant_11 ?_
      refine c_Vr (as := []) kv_Rows_size ml_Tree_122 rfl (x_at (k := 13) (by decide) rfl) (m_S_size) rfl (Nat.le_of_ble_eq_true rfl) rfl d_Tree_plant_14 rfl ?_
      rw [h13]
      refine g_iload_n d_Tree_plant_17 rfl ?_
      refine g_icmp_le (tgt := 117) d_Tree_plant_18 (by decide) (fun c_18 => ?_) (fun c_18 => ?_)
      rotate_left
      · exact absurd c_18 (fun q => q (Int32.le_refl _))
      refine g_aload_n d_Tree_plant_117 rfl ?_
      refine c_Vx (as := []) kv_Tree_fail ml_Tree_178 rfl (x_at (k := 12) (by decide) rfl) (m_T_fail (d := d) (way := way) hT.1 hT.2.2.2.2.2.2.2.2.2.2.2.2 hfl hwy h24 hd hl6) rfl (Nat.le_of_ble_eq_true rfl) rfl d_Tree_plant_118 rfl (fun G_118 h_118 => ?_)
      obtain ⟨c1, rfl, hF1, -, -, hC1⟩ := h_118
      obtain ⟨f1, f2⟩ := tFr_f (D := st.1.length) hT.1 hF1
      have hT1 := flF_T (st' := stF P t0 an way st) hT hF1 rfl rfl hC1
      refine g_iconst (v := 1) d_Tree_plant_121 (by decide) ?_
      refine g_zret rfl rfl d_Tree_plant_122 ?_
      exact kL c1 u n sl sp _ rfl hT1 f1 f2
    | cons A Lr =>
      cases bs with
      | nil => exact hr.elim
      | cons b bs =>
        have hbl := rcs_len hr
        have hll : (ks ++ b :: bs).length = ks.length + (b :: bs).length := List.length_append
        have hlc : (b :: bs).length = bs.length + 1 := rfl
        have hrow := (hT.1.1.2.2.2.2.2.1 b (by simp)).1
        have hlo := hT.1.1.2.2.2.1
        have hi : ((ks ++ b :: bs) ++ sp)[ks.length]? = some b := by
          rw [List.append_assoc, List.cons_append]
          exact mid_at
        obtain ⟨ow, ws, bd⟩ := A
        have hA := hw _ List.mem_cons_self
        have hpA := hpr (rP plc (ow, ws, bd)) (by simp)
        have how : ow < C := hpA.2.1
        have howD : ¬ ow ∈ Dr := hpA.2.2.1
        have hwl24 : ws.length ≤ 24 := Nat.le_trans (tI_len wf.1 (fun q hq => (hA.1.1 q hq).1)) hA.1.2.2.2
        have h3 : u.2.2.1 b 3 = nI ow := hr.1.1
        have KH := m_T_has (E := E) (d := d + 31) (G := G) (c := c) (n := n) (sl := sl) hrow hr.1 (show ws.length < 1000 by omega)
        cases ws with
        | cons w ws =>
          obtain ⟨p, k⟩ := w
          rw [show (if ((p, k) :: ws : List (Nat × Nat)) = [] then (0 : Int32) else 1) = 1 from if_neg (by simp)] at KH
          have hpp : pPl P way (g + 1) (((ow, (p, k) :: ws, bd) :: Lr).map (rP plc)) st = (st, ((ow, (p, k) :: ws, bd) :: Lr).map (rP plc), []) := by
            simp only [List.map_cons, pPl]
            rw [if_neg (fun z => by have := z.1; simp [rP] at this)]
          rw [hpp] at kA kz
          have hpl : ((ow, (p, k) :: ws, bd) :: Lr : List rC).length = (b :: bs).length := hbl.symm
          have hwo : wOk P N pos t0 (plc p, k) := (hpA.1.1 (plc p, k) (by simp [rP])).1
          have hak : aK P k := hA.2.1 (p, k) List.mem_cons_self
          obtain ⟨mk1, mk2, mk3⟩ := made_kind wf wk hwo hak (tyP_31 ht0 _)
          have hpX : p < X := hA.2.2.1 (p, k) List.mem_cons_self
          obtain ⟨y, hy, hyd, -⟩ := hwy.1 p hpX
          by_cases hbad : st.1.length = 1000 ∨ 800 < (ks ++ b :: bs).length
          · refine g_iload d_Tree_plant_3 rfl ?_
            refine g_bipush (v := 20) d_Tree_plant_5 (by decide) ?_
            refine g_icmp_gt (tgt := 117) d_Tree_plant_7 (by decide) (fun c_7 => ?_) (fun c_7 => ?_)
            · exact absurd c_7 (fun q => by have := (lt_hi (show (20 : Int32).toInt = ((20 : Nat) : Int) by decide) (nI_hi (by omega))).mp q; omega)
            refine g_aload_n d_Tree_plant_10 rfl ?_
            refine x_get (k := 12) (j := 2) (v := .ref (a + 13)) kc_Tree fl_Tree_12 (by decide) (by decide) rfl rfl d_Tree_plant_11 ?_
            refine c_Vr (as := []) kv_Rows_size ml_Tree_122 rfl (x_at (k := 13) (by decide) rfl) (m_S_size) rfl (Nat.le_of_ble_eq_true rfl) rfl d_Tree_plant_14 rfl ?_
            rw [h13]
            refine g_iload_n d_Tree_plant_17 rfl ?_
            refine g_icmp_le (tgt := 117) d_Tree_plant_18 (by decide) (fun c_18 => ?_) (fun c_18 => ?_)
            · exact absurd c_18 (fun q => by have := (le_hi (nI_hi (by omega)) (nI_hi (by omega))).mp q; omega)
            refine g_aload_n d_Tree_plant_21 rfl ?_
            refine x_get (k := 12) (j := 2) (v := .ref (a + 13)) kc_Tree fl_Tree_12 (by decide) (by decide) rfl rfl d_Tree_plant_22 ?_
            refine g_iload_n d_Tree_plant_25 rfl ?_
            refine c_Vr (as := [.int (nI ks.length)]) kv_Rows_rowAt ml_Tree_133 rfl (x_at (k := 13) (by decide) rfl) (m_S_rowAt hlo hi) rfl (Nat.le_of_ble_eq_true rfl) rfl d_Tree_plant_26 rfl ?_
            refine g_astore d_Tree_plant_29 (by decide) rfl ?_
            refine g_aload d_Tree_plant_31 rfl ?_
            refine c_Vr (as := []) kv_Row_hasWishes ml_Tree_158 rfl (z_at hrow.1 (by decide)) (KH) rfl (Nat.le_of_ble_eq_true rfl) rfl d_Tree_plant_33 rfl ?_
            refine g_if_eq (tgt := 47) d_Tree_plant_36 (by decide) (fun c_36 => absurd c_36 (by decide)) (fun c_36 => ?_)
            refine g_aload_n d_Tree_plant_39 rfl ?_
            refine g_iload_n d_Tree_plant_40 rfl ?_
            refine g_iload_n d_Tree_plant_41 rfl ?_
            refine g_iload_n d_Tree_plant_42 rfl ?_
            refine c_Vr (as := [.int (up), .int (via), .int (nI ks.length)]) kv_Tree_ask ml_Tree_162 rfl (x_at (k := 12) (by decide) rfl) (m_T_ask0 (d := d + 23) hT.2.2.2.2.2.1 hT.2.2.2.2.2.2.2.1 h13 (by omega) hbad) rfl (Nat.le_of_ble_eq_true rfl) rfl d_Tree_plant_43 rfl ?_
            refine g_zret rfl rfl d_Tree_plant_46 ?_
            refine kz c u n sl _ sp qs ⟨rP plc (ow, (p, k) :: ws, bd), Lr.map (rP plc), (plc p, k), ws.map (fun q => (plc q.1, q.2)), rfl, rfl, ?_⟩ hT.1 gF_rf
            rcases hbad with z | z
            · exact Or.inl z
            · refine Or.inr ?_
              show 800 < st.2.2.2.2.2.1 + (((ow, (p, k) :: ws, bd) :: Lr).map (rP plc)).length
              have := hT.2.2.2.2.2.2.2.2.1
              rw [List.length_map]
              omega
          · have K1 := m_T_ask1 (E := E) (d := d + 23) (G := G) (wy := way) (up := up) (via := via) wf wb wk tp (tyP_w wf ht0 hwo) hT (by omega) (by have := hT.2.2.2.2.2.2.2.1; omega) hr hw h16 hwy.2.2.1 hwy.2.2.2.1 hwy.2.2.2.2 hy hyd hwo.2.2 mk1 (fun z => ⟨mk2 z, by
              rcases mk3 with e | e
              · exact absurd (by rw [e]; exact Int32.le_refl _) z
              · exact e⟩) hwl hlg hup hrel
            refine g_iload d_Tree_plant_3 rfl ?_
            refine g_bipush (v := 20) d_Tree_plant_5 (by decide) ?_
            refine g_icmp_gt (tgt := 117) d_Tree_plant_7 (by decide) (fun c_7 => ?_) (fun c_7 => ?_)
            · exact absurd c_7 (fun q => by have := (lt_hi (show (20 : Int32).toInt = ((20 : Nat) : Int) by decide) (nI_hi (by omega))).mp q; omega)
            refine g_aload_n d_Tree_plant_10 rfl ?_
            refine x_get (k := 12) (j := 2) (v := .ref (a + 13)) kc_Tree fl_Tree_12 (by decide) (by decide) rfl rfl d_Tree_plant_11 ?_
            refine c_Vr (as := []) kv_Rows_size ml_Tree_122 rfl (x_at (k := 13) (by decide) rfl) (m_S_size) rfl (Nat.le_of_ble_eq_true rfl) rfl d_Tree_plant_14 rfl ?_
            rw [h13]
            refine g_iload_n d_Tree_plant_17 rfl ?_
            refine g_icmp_le (tgt := 117) d_Tree_plant_18 (by decide) (fun c_18 => ?_) (fun c_18 => ?_)
            · exact absurd c_18 (fun q => by have := (le_hi (nI_hi (by omega)) (nI_hi (by omega))).mp q; omega)
            refine g_aload_n d_Tree_plant_21 rfl ?_
            refine x_get (k := 12) (j := 2) (v := .ref (a + 13)) kc_Tree fl_Tree_12 (by decide) (by decide) rfl rfl d_Tree_plant_22 ?_
            refine g_iload_n d_Tree_plant_25 rfl ?_
            refine c_Vr (as := [.int (nI ks.length)]) kv_Rows_rowAt ml_Tree_133 rfl (x_at (k := 13) (by decide) rfl) (m_S_rowAt hlo hi) rfl (Nat.le_of_ble_eq_true rfl) rfl d_Tree_plant_26 rfl ?_
            refine g_astore d_Tree_plant_29 (by decide) rfl ?_
            refine g_aload d_Tree_plant_31 rfl ?_
            refine c_Vr (as := []) kv_Row_hasWishes ml_Tree_158 rfl (z_at hrow.1 (by decide)) (KH) rfl (Nat.le_of_ble_eq_true rfl) rfl d_Tree_plant_33 rfl ?_
            refine g_if_eq (tgt := 47) d_Tree_plant_36 (by decide) (fun c_36 => absurd c_36 (by decide)) (fun c_36 => ?_)
            refine g_aload_n d_Tree_plant_39 rfl ?_
            refine g_iload_n d_Tree_plant_40 rfl ?_
            refine g_iload_n d_Tree_plant_41 rfl ?_
            refine g_iload_n d_Tree_plant_42 rfl ?_
            refine c_V (as := [.int (up), .int (via), .int (nI ks.length)]) kv_Tree_ask ml_Tree_162 rfl (x_at (k := 12) (by decide) rfl) (K1) rfl (Nat.le_of_ble_eq_true rfl) rfl d_Tree_plant_43 (fun v_43 G_43 h_43 => ?_) (fun D_43 G_43 h_43 => by obtain ⟨h, -⟩ := h_43; cases h)
            obtain ⟨ho, c1, u1, n1, sl1, qs1, nk1, q, rfl, hT1, f1, f2, hq1, hq2⟩ := h_43
            cases ho
            refine g_zret rfl rfl d_Tree_plant_46 ?_
            refine kA c1 u1 n1 sl1 sp qs1 nk1 (b :: bs) ow p k ws bd Lr q rfl (fun z => hbad (Or.inl z)) (fun z => hbad (Or.inr ?_)) hT1 f1 f2 hq1 hq2
            have := hT.2.2.2.2.2.2.2.2.1
            have z2 : 800 < st.2.2.2.2.2.1 + (((ow, (p, k) :: ws, bd) :: Lr).map (rP plc)).length := z
            rw [List.length_map] at z2
            omega
        | nil =>
          rw [show (if ([] : List (Nat × Nat)) = [] then (0 : Int32) else 1) = 0 from if_pos rfl] at KH
          have hgd : c.2.1 3 ow = P 12 ow := (hT.2.2.1.2.1 ow how).1
          obtain ⟨w1, w2, w3, w4, w5, w6⟩ := hT.2.2.2.2.2.2.2.2.2.2.2.2
          have hF1 : flF c (cF (cF c 10 (nI (st.2.1 + 1))) 9 ((st.2.2.2.1) ||| ((1) <<< ((nI ow) &&& 31)))) := ⟨fun j hj => (up_ne (by omega)).trans (up_ne (by omega)), fun _ _ => rfl, rfl⟩
          have hC1 : tC (cF (cF c 10 (nI (st.2.1 + 1))) 9 ((st.2.2.2.1) ||| ((1) <<< ((nI ow) &&& 31)))) (stT ow way st) := stT_tC hT.2.2.2.2.2.2.2.2.2.2.2.2 rfl rfl (fun j hj => (up_ne (by omega)).trans (up_ne (by omega))) rfl
          have hT1 := flF_T (st' := stT ow way st) hT hF1 rfl rfl hC1
          obtain ⟨f1, f2⟩ := tFr_f (D := st.1.length) hT.1 hF1
          have hgd1 : (cF (cF c 10 (nI (st.2.1 + 1))) 9 ((st.2.2.2.1) ||| ((1) <<< ((nI ow) &&& 31)))).2.1 3 ow = 0 ∨ (cF (cF c 10 (nI (st.2.1 + 1))) 9 ((st.2.2.2.1) ||| ((1) <<< ((nI ow) &&& 31)))).2.1 3 ow = 1 := by
            show c.2.1 3 ow = 0 ∨ c.2.1 3 ow = 1
            rw [hgd]
            exact hg01 ow how
          by_cases hgu : P 12 ow = 0
          · have hpp : pPl P way (g + 1) (((ow, [], bd) :: Lr).map (rP plc)) st = (st, ((ow, [], bd) :: Lr).map (rP plc), []) := by
              simp only [List.map_cons, pPl]
              rw [if_neg (fun z => z.2 hgu)]
            rw [hpp] at kL
            have hcut := hp_cut hT1.1
            have h131 : (cF (cF c 10 (nI (st.2.1 + 1))) 9 ((st.2.2.2.1) ||| ((1) <<< ((nI ow) &&& 31)))).1 13 = nI (ks ++ b :: bs).length := hT1.1.1.2.2.2.2.2.2.1
            have emin : (if nI ks.length < (cF (cF c 10 (nI (st.2.1 + 1))) 9 ((st.2.2.2.1) ||| ((1) <<< ((nI ow) &&& 31)))).1 13 then nI ks.length else (cF (cF c 10 (nI (st.2.1 + 1))) 9 ((st.2.2.2.1) ||| ((1) <<< ((nI ow) &&& 31)))).1 13) = nI ks.length := by
              rw [h131]
              exact if_pos ((lt_hi (nI_hi (by omega)) (nI_hi (by omega))).mpr (by omega))
            refine g_iload d_Tree_plant_3 rfl ?_
            refine g_bipush (v := 20) d_Tree_plant_5 (by decide) ?_
            refine g_icmp_gt (tgt := 117) d_Tree_plant_7 (by decide) (fun c_7 => ?_) (fun c_7 => ?_)
            · exact absurd c_7 (fun q => by have := (lt_hi (show (20 : Int32).toInt = ((20 : Nat) : Int) by decide) (nI_hi (by omega))).mp q; omega)
            refine g_aload_n d_Tree_plant_10 rfl ?_
            refine x_get (k := 12) (j := 2) (v := .ref (a + 13)) kc_Tree fl_Tree_12 (by decide) (by decide) rfl rfl d_Tree_plant_11 ?_
            refine c_Vr (as := []) kv_Rows_size ml_Tree_122 rfl (x_at (k := 13) (by decide) rfl) (m_S_size) rfl (Nat.le_of_ble_eq_true rfl) rfl d_Tree_plant_14 rfl ?_
            rw [h13]
            refine g_iload_n d_Tree_plant_17 rfl ?_
            refine g_icmp_le (tgt := 117) d_Tree_plant_18 (by decide) (fun c_18 => ?_) (fun c_18 => ?_)
            · exact absurd c_18 (fun q => by have := (le_hi (nI_hi (by omega)) (nI_hi (by omega))).mp q; omega)
            refine g_aload_n d_Tree_plant_21 rfl ?_
            refine x_get (k := 12) (j := 2) (v := .ref (a + 13)) kc_Tree fl_Tree_12 (by decide) (by decide) rfl rfl d_Tree_plant_22 ?_
            refine g_iload_n d_Tree_plant_25 rfl ?_
            refine c_Vr (as := [.int (nI ks.length)]) kv_Rows_rowAt ml_Tree_133 rfl (x_at (k := 13) (by decide) rfl) (m_S_rowAt hlo hi) rfl (Nat.le_of_ble_eq_true rfl) rfl d_Tree_plant_26 rfl ?_
            refine g_astore d_Tree_plant_29 (by decide) rfl ?_
            refine g_aload d_Tree_plant_31 rfl ?_
            refine c_Vr (as := []) kv_Row_hasWishes ml_Tree_158 rfl (z_at hrow.1 (by decide)) (KH) rfl (Nat.le_of_ble_eq_true rfl) rfl d_Tree_plant_33 rfl ?_
            refine g_if_eq (tgt := 47) d_Tree_plant_36 (by decide) (fun c_36 => ?_) (fun c_36 => absurd c_36 (by decide))
            refine g_aload_n d_Tree_plant_47 rfl ?_
            refine g_dup d_Tree_plant_48 rfl ?_
            refine x_get (k := 12) (j := 11) (v := .int (c.1 10)) kc_Tree fl_Tree_102 (by decide) (by decide) rfl rfl d_Tree_plant_49 ?_
            rw [w1]
            refine g_iconst (v := 1) d_Tree_plant_52 (by decide) ?_
            refine g_iadd d_Tree_plant_53 ?_
            refine g_top (nI (st.2.1 + 1)) (nI_1 _) ?_
            refine x_put (c' := (cF c 10 (nI (st.2.1 + 1)))) (k := 12) (j := 11) kc_Tree fl_Tree_102 (by decide) (by decide) rfl rfl rfl rfl (Nat.le_of_ble_eq_true rfl) rfl rfl xf_F10 d_Tree_plant_54 ?_
            refine g_aload_n d_Tree_plant_57 rfl ?_
            refine g_dup d_Tree_plant_58 rfl ?_
            refine x_get (k := 12) (j := 10) (v := .int (c.1 9)) kc_Tree fl_Tree_99 (by decide) (by decide) rfl rfl d_Tree_plant_59 ?_
            rw [w3]
            refine g_iconst (v := 1) d_Tree_plant_62 (by decide) ?_
            refine g_aload d_Tree_plant_63 rfl ?_
            refine z_get (k := 1) (j := 3) (v := .int (u.2.2.1 b 3)) kc_Row fl_Tree_165 (by decide) hrow.1 (by decide) rfl rfl d_Tree_plant_65 ?_
            rw [h3]
            refine g_ishl d_Tree_plant_68 ?_
            refine g_ior d_Tree_plant_69 ?_
            refine x_put (c' := (cF (cF c 10 (nI (st.2.1 + 1))) 9 ((st.2.2.2.1) ||| ((1) <<< ((nI ow) &&& 31))))) (k := 12) (j := 10) kc_Tree fl_Tree_99 (by decide) (by decide) rfl rfl rfl rfl (Nat.le_of_ble_eq_true rfl) rfl rfl xf_F9 d_Tree_plant_70 ?_
            refine g_aload_n d_Tree_plant_73 rfl ?_
            refine x_get (k := 12) (j := 1) (v := .ref (a + 5)) kc_Tree fl_Tree_43 (by decide) (by decide) rfl rfl d_Tree_plant_74 ?_
            refine g_aload d_Tree_plant_77 rfl ?_
            refine z_get (k := 1) (j := 3) (v := .int (u.2.2.1 b 3)) kc_Row fl_Tree_165 (by decide) hrow.1 (by decide) rfl rfl d_Tree_plant_79 ?_
            rw [h3]
            refine c_Vr (as := [.int (nI ow)]) kv_Cases_isGuarded ml_Tree_168 rfl (x_at (k := 5) (by decide) rfl) (m_C_grd (by omega) hgd1) rfl (Nat.le_of_ble_eq_true rfl) rfl d_Tree_plant_82 rfl ?_
            rw [show (cF (cF c 10 (nI (st.2.1 + 1))) 9 ((st.2.2.2.1) ||| ((1) <<< ((nI ow) &&& 31)))).2.1 3 ow = 0 from by show c.2.1 3 ow = _; rw [hgd]; exact hgu]
            refine g_if_ne (tgt := 98) d_Tree_plant_85 (by decide) (fun c_85 => absurd c_85 (by decide)) (fun c_85 => ?_)
            refine g_aload_n d_Tree_plant_88 rfl ?_
            refine x_get (k := 12) (j := 2) (v := .ref (a + 13)) kc_Tree fl_Tree_12 (by decide) (by decide) rfl rfl d_Tree_plant_89 ?_
            refine g_iload_n d_Tree_plant_92 rfl ?_
            refine c_Vr (as := [.int (nI ks.length)]) kv_Rows_cutTo ml_Tree_89 rfl (x_at (k := 13) (by decide) rfl) (m_S_cutTo (nI ks.length)) rfl (Nat.le_of_ble_eq_true rfl) rfl d_Tree_plant_93 rfl ?_
            rw [emin]
            refine g_iconst (v := 1) d_Tree_plant_96 (by decide) ?_
            refine g_zret rfl rfl d_Tree_plant_97 ?_
            have hT2 : clT E a B SS P N t0 tm ob T C cp (cF (cF (cF c 10 (nI (st.2.1 + 1))) 9 ((st.2.2.2.1) ||| ((1) <<< ((nI ow) &&& 31)))) 13 (nI ks.length)) u n sl ks [] ((b :: bs) ++ sp) ps qs ms nk Z (stT ow way st) := clT_rows hT1 (by rw [List.append_nil]; exact hcut) rFc_13 rFr_rf (Nat.le_refl _) (fun _ _ => rfl)
            obtain ⟨f3, f4⟩ := tFr_r (D := st.1.length) hT1.1 (rFc_13 (v := nI ks.length)) (rFr_rf (n := n)) (Nat.le_refl n)
            exact kL _ u n sl _ (stT ow way st) rfl hT2 (tFr_tr f1 f3 (Nat.le_refl _)) (plS_tr f2 f4 f1.1.2.2.2.2.1 (Nat.le_refl _))
          · have hgu1 : P 12 ow = 1 := (hg01 ow how).elim (fun z => absurd z hgu) id
            have hpp : pPl P way (g + 1) (((ow, [], bd) :: Lr).map (rP plc)) st = ((pPl P way g ((oC ow ((ow, [], bd) :: Lr)).map (rP plc)) (stT ow way st)).1, (pPl P way g ((oC ow ((ow, [], bd) :: Lr)).map (rP plc)) (stT ow way st)).2.1, ow :: (pPl P way g ((oC ow ((ow, [], bd) :: Lr)).map (rP plc)) (stT ow way st)).2.2) := by
              rw [oC_map]
              simp only [List.map_cons, pPl]
              rw [if_pos ⟨rfl, hgu⟩]
              rfl
            rw [hpp] at kL kA kz
            have hAll : ∀ A ∈ ((ow, [], bd) :: Lr : List rC), A.1 < 1000 := fun A hA => by
              have := (hpr (rP plc A) (List.mem_map_of_mem hA)).2.1
              have : A.1 < C := this
              omega
            have KO := m_S_leaveOut (E := E) (d := d + 28) (G := G) (c := (cF (cF c 10 (nI (st.2.1 + 1))) 9 ((st.2.2.2.1) ||| ((1) <<< ((nI ow) &&& 31))))) (n := n) (sl := sl) (tm := tm) (l0 := ks) (ow := ow) hT1.1.1 hr (by omega) hAll
            refine g_iload d_Tree_plant_3 rfl ?_
            refine g_bipush (v := 20) d_Tree_plant_5 (by decide) ?_
            refine g_icmp_gt (tgt := 117) d_Tree_plant_7 (by decide) (fun c_7 => ?_) (fun c_7 => ?_)
            · exact absurd c_7 (fun q => by have := (lt_hi (show (20 : Int32).toInt = ((20 : Nat) : Int) by decide) (nI_hi (by omega))).mp q; omega)
            refine g_aload_n d_Tree_plant_10 rfl ?_
            refine x_get (k := 12) (j := 2) (v := .ref (a + 13)) kc_Tree fl_Tree_12 (by decide) (by decide) rfl rfl d_Tree_plant_11 ?_
            refine c_Vr (as := []) kv_Rows_size ml_Tree_122 rfl (x_at (k := 13) (by decide) rfl) (m_S_size) rfl (Nat.le_of_ble_eq_true rfl) rfl d_Tree_plant_14 rfl ?_
            rw [h13]
            refine g_iload_n d_Tree_plant_17 rfl ?_
            refine g_icmp_le (tgt := 117) d_Tree_plant_18 (by decide) (fun c_18 => ?_) (fun c_18 => ?_)
            · exact absurd c_18 (fun q => by have := (le_hi (nI_hi (by omega)) (nI_hi (by omega))).mp q; omega)
            refine g_aload_n d_Tree_plant_21 rfl ?_
            refine x_get (k := 12) (j := 2) (v := .ref (a + 13)) kc_Tree fl_Tree_12 (by decide) (by decide) rfl rfl d_Tree_plant_22 ?_
            refine g_iload_n d_Tree_plant_25 rfl ?_
            refine c_Vr (as := [.int (nI ks.length)]) kv_Rows_rowAt ml_Tree_133 rfl (x_at (k := 13) (by decide) rfl) (m_S_rowAt hlo hi) rfl (Nat.le_of_ble_eq_true rfl) rfl d_Tree_plant_26 rfl ?_
            refine g_astore d_Tree_plant_29 (by decide) rfl ?_
            refine g_aload d_Tree_plant_31 rfl ?_
            refine c_Vr (as := []) kv_Row_hasWishes ml_Tree_158 rfl (z_at hrow.1 (by decide)) (KH) rfl (Nat.le_of_ble_eq_true rfl) rfl d_Tree_plant_33 rfl ?_
            refine g_if_eq (tgt := 47) d_Tree_plant_36 (by decide) (fun c_36 => ?_) (fun c_36 => absurd c_36 (by decide))
            refine g_aload_n d_Tree_plant_47 rfl ?_
            refine g_dup d_Tree_plant_48 rfl ?_
            refine x_get (k := 12) (j := 11) (v := .int (c.1 10)) kc_Tree fl_Tree_102 (by decide) (by decide) rfl rfl d_Tree_plant_49 ?_
            rw [w1]
            refine g_iconst (v := 1) d_Tree_plant_52 (by decide) ?_
            refine g_iadd d_Tree_plant_53 ?_
            refine g_top (nI (st.2.1 + 1)) (nI_1 _) ?_
            refine x_put (c' := (cF c 10 (nI (st.2.1 + 1)))) (k := 12) (j := 11) kc_Tree fl_Tree_102 (by decide) (by decide) rfl rfl rfl rfl (Nat.le_of_ble_eq_true rfl) rfl rfl xf_F10 d_Tree_plant_54 ?_
            refine g_aload_n d_Tree_plant_57 rfl ?_
            refine g_dup d_Tree_plant_58 rfl ?_
            refine x_get (k := 12) (j := 10) (v := .int (c.1 9)) kc_Tree fl_Tree_99 (by decide) (by decide) rfl rfl d_Tree_plant_59 ?_
            rw [w3]
            refine g_iconst (v := 1) d_Tree_plant_62 (by decide) ?_
            refine g_aload d_Tree_plant_63 rfl ?_
            refine z_get (k := 1) (j := 3) (v := .int (u.2.2.1 b 3)) kc_Row fl_Tree_165 (by decide) hrow.1 (by decide) rfl rfl d_Tree_plant_65 ?_
            rw [h3]
            refine g_ishl d_Tree_plant_68 ?_
            refine g_ior d_Tree_plant_69 ?_
            refine x_put (c' := (cF (cF c 10 (nI (st.2.1 + 1))) 9 ((st.2.2.2.1) ||| ((1) <<< ((nI ow) &&& 31))))) (k := 12) (j := 10) kc_Tree fl_Tree_99 (by decide) (by decide) rfl rfl rfl rfl (Nat.le_of_ble_eq_true rfl) rfl rfl xf_F9 d_Tree_plant_70 ?_
            refine g_aload_n d_Tree_plant_73 rfl ?_
            refine x_get (k := 12) (j := 1) (v := .ref (a + 5)) kc_Tree fl_Tree_43 (by decide) (by decide) rfl rfl d_Tree_plant_74 ?_
            refine g_aload d_Tree_plant_77 rfl ?_
            refine z_get (k := 1) (j := 3) (v := .int (u.2.2.1 b 3)) kc_Row fl_Tree_165 (by decide) hrow.1 (by decide) rfl rfl d_Tree_plant_79 ?_
            rw [h3]
            refine c_Vr (as := [.int (nI ow)]) kv_Cases_isGuarded ml_Tree_168 rfl (x_at (k := 5) (by decide) rfl) (m_C_grd (by omega) hgd1) rfl (Nat.le_of_ble_eq_true rfl) rfl d_Tree_plant_82 rfl ?_
            rw [show (cF (cF c 10 (nI (st.2.1 + 1))) 9 ((st.2.2.2.1) ||| ((1) <<< ((nI ow) &&& 31)))).2.1 3 ow = 1 from by show c.2.1 3 ow = _; rw [hgd]; exact hgu1]
            refine g_if_ne (tgt := 98) d_Tree_plant_85 (by decide) (fun c_85 => ?_) (fun c_85 => absurd c_85 (by decide))
            refine g_aload_n d_Tree_plant_98 rfl ?_
            refine x_get (k := 12) (j := 2) (v := .ref (a + 13)) kc_Tree fl_Tree_12 (by decide) (by decide) rfl rfl d_Tree_plant_99 ?_
            refine g_iload_n d_Tree_plant_102 rfl ?_
            refine g_aload d_Tree_plant_103 rfl ?_
            refine z_get (k := 1) (j := 3) (v := .int (u.2.2.1 b 3)) kc_Row fl_Tree_165 (by decide) hrow.1 (by decide) rfl rfl d_Tree_plant_105 ?_
            rw [h3]
            refine c_V (as := [.int (nI ks.length), .int (nI ow)]) kv_Rows_leaveOut ml_Tree_174 rfl (x_at (k := 13) (by decide) rfl) (KO) rfl (Nat.le_of_ble_eq_true rfl) rfl d_Tree_plant_108 (fun v_108 G_108 h_108 => ?_) (fun D_108 G_108 h_108 => by obtain ⟨h, -⟩ := h_108; cases h)
            obtain ⟨ho, u1, sp1, ks1, rfl, rw1, fr1, kx1, hc1⟩ := h_108
            cases ho
            refine g_iinc (v := nI (t + 1)) d_Tree_plant_111 rfl (nI_1 t) (by decide) rfl ?_
            refine g_goto (tgt := 3) d_Tree_plant_114 (by decide) ?_
            refine g_weak (lv' := [(0, .ref (a + 12)), (1, .int up), (2, .int via), (3, .int (nI ks.length)), (4, .int (nI (t + 1)))]) (fun q hq => List.mem_append_left _ hq) (by simp) ?_
            have hp2 := hpOk_rows hT1.1 rw1 rFc_13 fr1 (Nat.le_refl n)
            have hT2 := clT_rows (bs' := ks1) hT1 hp2 rFc_13 fr1 (Nat.le_refl n) (fun y hy => kx1 y (List.mem_append_left _ hy))
            obtain ⟨f3, f4⟩ := tFr_r (D := st.1.length) hT1.1 (rFc_13 (v := nI (ks ++ ks1).length)) fr1 (Nat.le_refl n)
            have f5 := tFr_tr f1 f3 (Nat.le_refl _)
            have f6 := plS_tr f2 f4 f1.1.2.2.2.2.1 (Nat.le_refl _)
            have hol : (oC ow ((ow, [], bd) :: Lr)).length ≤ Lr.length := by
              have : oC ow ((ow, [], bd) :: Lr) = oC ow Lr := by simp [oC]
              rw [this]
              exact List.length_filter_le _ _
            simp only [List.length_cons] at hg h80
            refine ih (t + 1) (oC ow ((ow, [], bd) :: Lr)) ks1 sp1 (ow :: Dr) (stT ow way st) _ u1 n sl (by omega) hT2 hc1 (oC_rws hw) (by omega) (f6.1.trans h16) (wyC_S hwy hT.1.2.1 f6) ?_ (List.nodup_cons.mpr ⟨howD, hdn⟩) (fun k hk => ?_) (by simp only [List.length_cons]; omega) hfl hlg hup hrel (fun c' u' n' sl' sp' st' k1 k2 k3 k4 => ?_) (fun c' u' n' sl' sp' qs' nk' bs' ow' p k ws bd' Lr' q k1 kx ky k2 k3 k4 k5 k6 => ?_) (fun c' u' n' sl' ks' sp' qs' k1 k2 k3 => ?_)
            · rw [oC_map]
              exact aOt_way hpr
            · rcases List.mem_cons.mp hk with rfl | hk
              · exact how
              · exact hdc k hk
            · exact kL c' u' n' sl' sp' st' k1 k2 (tFr_tr f5 k3 (Nat.le_refl _)) (plS_tr f6 k4 f5.1.2.2.2.2.1 f5.1.2.2.2.2.2)
            · exact kA c' u' n' sl' sp' qs' nk' bs' ow' p k ws bd' Lr' q k1 kx ky k2 (tFr_tr f5 k3 (Nat.le_refl _)) (plS_tr f6 k4 f5.1.2.2.2.2.1 f5.1.2.2.2.2.2) k5 k6
            · exact kz c' u' n' sl' ks' sp' qs' k1 k2 (gF_tr f5.1 k3)
end CL
