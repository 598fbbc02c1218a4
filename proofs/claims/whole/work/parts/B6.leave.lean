/-! Rows.leaveOut -/
section CB
variable {E : gE} {d : Nat} {G G0 : gS} {a : Nat} {c c' c0 : cS} {u u' u0 : uS} {n n' n0 sl sl' : Nat} {Q : gO → gS → Prop} {Nb Sb : Nat} {tm : Nat → Nat} {b : Nat} {x : xS}
/-- the rows stand in another order -/
theorem rw_perm {ks ks' sp : List Nat} (h : rwOk E a Nb Sb c u n sl ks sp) (hp : ks'.Perm ks) (hl : lOk E c u' a n 15 0 1 1000 (ks' ++ sp)) (hf : uFr u u' n (c.2.2.2 0)) (hk : ∀ q, u'.1 q = u.1 q) (hn : ∀ q, u'.2.1 q = u.2.1 q) : rwOk E a Nb Sb c u' n sl ks' sp ∧ rFr u u' n ∧ ∀ y ∈ ks' ++ sp, xOf u' y = xOf u y := by
  obtain ⟨k1, k2⟩ := rw_keep h hf (Nat.le_refl n)
  obtain ⟨h1, h2, h3, h4, h5, h6, h7, h8, h9, hA, hB⟩ := h
  have hp2 : (ks' ++ sp).Perm (ks ++ sp) := hp.append_right sp
  have el : lCap E c u' 0 = lCap E c u 0 := by
    unfold lCap
    rw [hn]
  refine ⟨⟨h1, h2, fun q hq => h3 q (by rw [← hk]; exact hq), hl, hp2.nodup_iff.mpr h5, fun y hy => ?_, by rw [hp.length_eq]; exact h7, by rw [el, hp2.length_eq]; exact h8, by rw [el, hp2.length_eq]; exact h9, hA, hB⟩, k2, fun y hy => ?_⟩
  · obtain ⟨z1, z2, -⟩ := k1 y (hp2.mem_iff.mp hy)
    exact ⟨z1, z2⟩
  · exact (k1 y (hp2.mem_iff.mp hy)).2.2
/-- the rows of other cases -/
def oC (ow : Nat) (L : List rC) : List rC := L.filter (fun A => decide (A.1 ≠ ow))
def loQ (E : gE) (G : gS) (a Nb Sb : Nat) (tm : Nat → Nat) (l0 : List Nat) (c : cS) (u0 : uS) (n sl : Nat) (L : List rC) : gO → gS → Prop := fun o G' => o = .inl none ∧ ∃ u' sp' ks', G' = yW E G a (cF c 13 (nI (l0 ++ ks').length)) u' n sl ∧ rwOk E a Nb Sb (cF c 13 (nI (l0 ++ ks').length)) u' n sl (l0 ++ ks') sp' ∧ rFr u0 u' n ∧ (∀ y ∈ l0 ++ ks', xOf u' y = xOf u0 y) ∧ rcs u' tm ks' L
theorem set_mid {l r : List Nat} {y z : Nat} : (l ++ y :: r).set l.length z = l ++ z :: r := by
  rw [List.set_append_right _ _ (Nat.le_refl _), Nat.sub_self]
  rfl
set_option maxHeartbeats 1000000 in
set_option maxRecDepth 100000 in
theorem m_S_lo5 {l0 : List Nat} {ow : Nat} (how : ow < 1000) : ∀ (r : List Nat) (Lr : List rC) (K D : List Nat) (LK : List rC) (u : uS) (sp : List Nat), rwOk E a Nb Sb c u n sl (l0 ++ (K ++ (D ++ r))) sp → rFr u0 u n → (∀ y ∈ l0 ++ (K ++ (D ++ r)), xOf u y = xOf u0 y) → rcs u0 tm r Lr → rcs u0 tm K LK → (∀ A ∈ Lr, A.1 < 1000) → (l0 ++ (K ++ (D ++ r))).length ≤ 1000 →
    GT E Y_Rows_leaveOut (d + 3) G0 5 [(0, .ref (a + 13)), (1, .int (nI l0.length)), (2, .int (nI ow)), (3, .int (nI (l0.length + K.length))), (4, .int (nI (l0.length + K.length + D.length)))] [] (yW E G a c u n sl) (loQ E G a Nb Sb tm l0 c u0 n sl (LK ++ oC ow Lr)) := by
  intro r
  induction r with
  | nil =>
    intro Lr K D LK u sp h hf hx hr hK hA hlen
    cases Lr with
    | cons A Lr => exact hr.elim
    | nil =>
      have h13 := h.2.2.2.2.2.2.1
      rw [List.append_nil] at h hx h13
      have hll : (l0 ++ (K ++ D)).length = l0.length + K.length + D.length := by simp; omega
      rw [hll] at h13
      refine g_iload d_Rows_leaveOut_5 rfl ?_
      refine g_aload_n d_Rows_leaveOut_7 rfl ?_
      refine x_get (k := 13) (j := 1) (v := .int (c.1 13)) kc_Rows fl_Rows_18 (by decide) (by decide) rfl rfl d_Rows_leaveOut_8 ?_
      rw [h13]
      refine g_icmp_ge (tgt := 78) d_Rows_leaveOut_11 (by decide) (fun c_11 => ?_) (fun c_11 => ?_)
      rotate_left
      · exact absurd c_11 (fun q => q (Int32.le_refl _))
      refine g_aload_n d_Rows_leaveOut_78 rfl ?_
      refine g_iload_n d_Rows_leaveOut_79 rfl ?_
      refine g_top (nI (l0 ++ K).length) (by rw [List.length_append]) ?_
      refine x_put (c' := (cF c 13 (nI (l0 ++ K).length))) (k := 13) (j := 1) kc_Rows fl_Rows_18 (by decide) (by decide) rfl rfl rfl rfl (Nat.le_of_ble_eq_true rfl) rfl rfl xf_F13 d_Rows_leaveOut_80 ?_
      refine g_vret rfl d_Rows_leaveOut_83 ?_
      refine ⟨rfl, u, D ++ sp, K, rfl, ?_, hf, fun y hy => hx y (by simp only [List.mem_append] at hy ⊢; rcases hy with hy | hy <;> simp [hy]), ?_⟩
      · obtain ⟨h1, h2, h3, h4, h5, h6, h7, h8, h9, hA', hB'⟩ := h
        have e : (l0 ++ K) ++ (D ++ sp) = (l0 ++ (K ++ D)) ++ sp := by simp
        refine ⟨h1, h2, h3, ?_, ?_, ?_, rfl, ?_, ?_, hA', hB'⟩
        · rw [e]
          exact h4
        · rw [e]
          exact h5
        · rw [e]
          exact h6
        · rw [e]
          exact h8
        · rw [e]
          exact h9
      · rw [show LK ++ oC ow [] = LK by simp [oC]]
        exact rcs_fr hK (fun y hy => hx y (by simp [hy]))
  | cons b r ih =>
    intro Lr K D LK u sp h hf hx hr hK hA hlen
    cases Lr with
    | nil => exact hr.elim
    | cons A Lr =>
      have h13 := h.2.2.2.2.2.2.1
      have hll : (l0 ++ (K ++ (D ++ b :: r))).length = l0.length + K.length + D.length + (r.length + 1) := by simp; omega
      rw [hll] at h13 hlen
      have hlo := h.2.2.2.1
      have hw := (h.2.2.2.2.2.1 b (by simp)).1
      have hi : ((l0 ++ (K ++ (D ++ b :: r))) ++ sp)[l0.length + K.length + D.length]? = some b := by
        have e : (l0 ++ (K ++ (D ++ b :: r))) ++ sp = (l0 ++ K ++ D) ++ b :: (r ++ sp) := by simp
        rw [e, show l0.length + K.length + D.length = (l0 ++ K ++ D).length by simp only [List.length_append]]
        exact mid_at
      have hA1 : A.1 < 1000 := hA A List.mem_cons_self
      have h3 : u.2.2.1 b 3 = nI A.1 := by
        have e := hx b (by simp)
        have := hr.1.1
        rw [← e] at this
        exact this
      by_cases how2 : A.1 = ow
      · refine g_iload d_Rows_leaveOut_5 rfl ?_
        refine g_aload_n d_Rows_leaveOut_7 rfl ?_
        refine x_get (k := 13) (j := 1) (v := .int (c.1 13)) kc_Rows fl_Rows_18 (by decide) (by decide) rfl rfl d_Rows_leaveOut_8 ?_
        rw [h13]
        refine g_icmp_ge (tgt := 78) d_Rows_leaveOut_11 (by decide) (fun c_11 => ?_) (fun c_11 => ?_)
        · exact absurd c_11 (ige (by omega) (by omega) (by omega))
        refine g_aload_n d_Rows_leaveOut_14 rfl ?_
        refine x_get (k := 13) (j := 0) (v := .ref (a + 14)) kc_Rows fl_Rows_12 (by decide) (by decide) rfl rfl d_Rows_leaveOut_15 ?_
        refine g_iload d_Rows_leaveOut_18 rfl ?_
        refine c_Vr (as := [.int (nI (l0.length + K.length + D.length))]) kv_ArrayList_get ml_Rows_28 rfl (x_at (k := 14) (by decide) rfl) (m_K_get lk_rows hlo (by omega) hi) rfl (Nat.le_of_ble_eq_true rfl) rfl d_Rows_leaveOut_20 rfl ?_
        refine z_cast (kb := 1) cl_Rows_32 rfl hw.1 (by decide) d_Rows_leaveOut_23 ?_
        refine g_astore d_Rows_leaveOut_26 (by decide) rfl ?_
        refine g_aload d_Rows_leaveOut_28 rfl ?_
        refine z_get (k := 1) (j := 3) (v := .int (u.2.2.1 b 3)) kc_Row fl_Rows_108 (by decide) hw.1 (by decide) rfl rfl d_Rows_leaveOut_30 ?_
        rw [h3]
        refine g_iload_n d_Rows_leaveOut_33 rfl ?_
        refine g_icmp_eq (tgt := 72) d_Rows_leaveOut_34 (by decide) (fun c_34 => ?_) (fun c_34 => ?_)
        rotate_left
        · exact absurd c_34 (fun q => q (by rw [how2]))
        refine g_iinc (v := nI (l0.length + K.length + (D ++ [b]).length)) d_Rows_leaveOut_72 rfl (by rw [List.length_append]; exact nI_1 _) (by decide) rfl ?_
        refine g_goto (tgt := 5) d_Rows_leaveOut_75 (by decide) ?_
        refine g_weak (lv' := [(0, .ref (a + 13)), (1, .int (nI l0.length)), (2, .int (nI ow)), (3, .int (nI (l0.length + K.length))), (4, .int (nI (l0.length + K.length + (D ++ [b]).length)))]) (fun q hq => List.mem_append_left _ hq) (by simp) ?_
        have e : D ++ b :: r = (D ++ [b]) ++ r := by simp
        rw [show oC ow (A :: Lr) = oC ow Lr by simp [oC, how2]]
        refine ih Lr K (D ++ [b]) LK u sp (by rw [← e]; exact h) hf (by rw [← e]; exact hx) hr.2 hK (fun B hB => hA B (List.mem_cons_of_mem _ hB)) ?_
        rw [← e, hll]
        exact hlen
      · have hne : ¬ nI A.1 = nI ow := nI_ne how2 (by omega) (by omega)
        have eo : LK ++ oC ow (A :: Lr) = (LK ++ [A]) ++ oC ow Lr := by simp [oC, how2]
        rw [eo]
        have hKb : rcs u0 tm (K ++ [b]) (LK ++ [A]) := rcs_app hK ⟨hr.1, trivial⟩
        cases D with
        | nil =>
          have e : K ++ ([] ++ b :: r) = (K ++ [b]) ++ ([] ++ r) := by simp
          have hset : (l0 ++ (K ++ ([] ++ b :: r)) ++ sp).set (l0.length + K.length + ([] : List Nat).length) b = l0 ++ (K ++ ([] ++ b :: r)) ++ sp := by
            have e2 : l0 ++ (K ++ ([] ++ b :: r)) ++ sp = (l0 ++ K) ++ b :: (r ++ sp) := by simp
            rw [e2, show l0.length + K.length + ([] : List Nat).length = (l0 ++ K).length by simp]
            exact set_mid
          refine g_iload d_Rows_leaveOut_5 rfl ?_
          refine g_aload_n d_Rows_leaveOut_7 rfl ?_
          refine x_get (k := 13) (j := 1) (v := .int (c.1 13)) kc_Rows fl_Rows_18 (by decide) (by decide) rfl rfl d_Rows_leaveOut_8 ?_
          rw [h13]
          refine g_icmp_ge (tgt := 78) d_Rows_leaveOut_11 (by decide) (fun c_11 => ?_) (fun c_11 => ?_)
          · exact absurd c_11 (ige (by omega) (by omega) (by omega))
          refine g_aload_n d_Rows_leaveOut_14 rfl ?_
          refine x_get (k := 13) (j := 0) (v := .ref (a + 14)) kc_Rows fl_Rows_12 (by decide) (by decide) rfl rfl d_Rows_leaveOut_15 ?_
          refine g_iload d_Rows_leaveOut_18 rfl ?_
          refine c_Vr (as := [.int (nI (l0.length + K.length + ([] : List Nat).length))]) kv_ArrayList_get ml_Rows_28 rfl (x_at (k := 14) (by decide) rfl) (m_K_get lk_rows hlo (by omega) hi) rfl (Nat.le_of_ble_eq_true rfl) rfl d_Rows_leaveOut_20 rfl ?_
          refine z_cast (kb := 1) cl_Rows_32 rfl hw.1 (by decide) d_Rows_leaveOut_23 ?_
          refine g_astore d_Rows_leaveOut_26 (by decide) rfl ?_
          refine g_aload d_Rows_leaveOut_28 rfl ?_
          refine z_get (k := 1) (j := 3) (v := .int (u.2.2.1 b 3)) kc_Row fl_Rows_108 (by decide) hw.1 (by decide) rfl rfl d_Rows_leaveOut_30 ?_
          rw [h3]
          refine g_iload_n d_Rows_leaveOut_33 rfl ?_
          refine g_icmp_eq (tgt := 72) d_Rows_leaveOut_34 (by decide) (fun c_34 => ?_) (fun c_34 => ?_)
          · exact absurd c_34 hne
          refine g_aload_n d_Rows_leaveOut_37 rfl ?_
          refine x_get (k := 13) (j := 0) (v := .ref (a + 14)) kc_Rows fl_Rows_12 (by decide) (by decide) rfl rfl d_Rows_leaveOut_38 ?_
          refine g_iload d_Rows_leaveOut_41 rfl ?_
          refine g_aload_n d_Rows_leaveOut_43 rfl ?_
          refine x_get (k := 13) (j := 0) (v := .ref (a + 14)) kc_Rows fl_Rows_12 (by decide) (by decide) rfl rfl d_Rows_leaveOut_44 ?_
          refine g_iload_n d_Rows_leaveOut_47 rfl ?_
          refine c_Vr (as := [.int (nI (l0.length + K.length))]) kv_ArrayList_get ml_Rows_28 rfl (x_at (k := 14) (by decide) rfl) (m_K_get lk_rows hlo (by omega) hi) rfl (Nat.le_of_ble_eq_true rfl) rfl d_Rows_leaveOut_48 rfl ?_
          refine z_cast (kb := 1) cl_Rows_32 rfl hw.1 (by decide) d_Rows_leaveOut_51 ?_
          refine c_Vx (as := [.int (nI (l0.length + K.length + ([] : List Nat).length)), .ref (b)]) kv_ArrayList_set ml_Rows_111 rfl (x_at (k := 14) (by decide) rfl) (m_K_set lk_rows hlo (by decide) (by omega) hi hw.1 (by have := (h.2.2.2.2.2.1 b (by simp)).2; omega)) rfl (Nat.le_of_ble_eq_true rfl) rfl d_Rows_leaveOut_54 rfl (fun G_54 h_54 => ?_)
          obtain ⟨u1, rfl, lo1, uf1, uk1, ul1⟩ := h_54
          rw [hset] at lo1
          obtain ⟨rw1, fr1, kx1⟩ := rw_perm h (List.Perm.refl _) lo1 uf1 uk1 ul1
          have hw1 := (rw1.2.2.2.2.2.1 b (by simp)).1
          refine g_pop d_Rows_leaveOut_57 rfl ?_
          refine g_aload_n d_Rows_leaveOut_58 rfl ?_
          refine x_get (k := 13) (j := 0) (v := .ref (a + 14)) kc_Rows fl_Rows_12 (by decide) (by decide) rfl rfl d_Rows_leaveOut_59 ?_
          refine g_iload_n d_Rows_leaveOut_62 rfl ?_
          refine g_aload d_Rows_leaveOut_63 rfl ?_
          refine c_Vx (as := [.int (nI (l0.length + K.length)), .ref (b)]) kv_ArrayList_set ml_Rows_111 rfl (x_at (k := 14) (by decide) rfl) (m_K_set lk_rows rw1.2.2.2.1 (by decide) (by omega) hi hw1.1 (by have := (rw1.2.2.2.2.2.1 b (by simp)).2; omega)) rfl (Nat.le_of_ble_eq_true rfl) rfl d_Rows_leaveOut_65 rfl (fun G_65 h_65 => ?_)
          obtain ⟨u2, rfl, lo2, uf2, uk2, ul2⟩ := h_65
          rw [show l0.length + K.length = l0.length + K.length + ([] : List Nat).length from rfl, hset] at lo2
          obtain ⟨rw2, fr2, kx2⟩ := rw_perm rw1 (List.Perm.refl _) lo2 uf2 uk2 ul2
          refine g_pop d_Rows_leaveOut_68 rfl ?_
          refine g_iinc (v := nI (l0.length + (K ++ [b]).length)) d_Rows_leaveOut_69 rfl (by rw [List.length_append]; exact nI_1 _) (by decide) rfl ?_
          refine g_iinc (v := nI (l0.length + (K ++ [b]).length + ([] : List Nat).length)) d_Rows_leaveOut_72 rfl (by simp only [List.length_append, List.length_nil, List.length_cons]; exact nI_1 _) (by decide) rfl ?_
          refine g_goto (tgt := 5) d_Rows_leaveOut_75 (by decide) ?_
          refine g_weak (lv' := [(0, .ref (a + 13)), (1, .int (nI l0.length)), (2, .int (nI ow)), (3, .int (nI (l0.length + (K ++ [b]).length))), (4, .int (nI (l0.length + (K ++ [b]).length + ([] : List Nat).length)))]) (fun q hq => List.mem_append_left _ hq) (by simp) ?_
          refine ih Lr (K ++ [b]) [] (LK ++ [A]) u2 sp (by rw [← e]; exact rw2) (rFr_tr (rFr_tr hf fr1 (Nat.le_refl _)) fr2 (Nat.le_refl _)) ?_ hr.2 hKb (fun B hB => hA B (List.mem_cons_of_mem _ hB)) ?_
          · rw [← e]
            exact fun y hy => (kx2 y (by simp only [List.mem_append] at hy ⊢; exact Or.inl hy)).trans ((kx1 y (by simp only [List.mem_append] at hy ⊢; exact Or.inl hy)).trans (hx y hy))
          · rw [← e, hll]
            exact hlen
        | cons d0 D =>
          have wd := (h.2.2.2.2.2.1 d0 (by simp)).1
          have hi2 : ((l0 ++ (K ++ ((d0 :: D) ++ b :: r))) ++ sp)[l0.length + K.length]? = some d0 := by
            have e : (l0 ++ (K ++ ((d0 :: D) ++ b :: r))) ++ sp = (l0 ++ K) ++ d0 :: (D ++ b :: (r ++ sp)) := by simp
            rw [e, show l0.length + K.length = (l0 ++ K).length by simp]
            exact mid_at
          have hs1 : (l0 ++ (K ++ ((d0 :: D) ++ b :: r)) ++ sp).set (l0.length + K.length + (d0 :: D).length) d0 = (l0 ++ K) ++ d0 :: (D ++ d0 :: (r ++ sp)) := by
            have e : (l0 ++ (K ++ ((d0 :: D) ++ b :: r))) ++ sp = (l0 ++ K ++ d0 :: D) ++ b :: (r ++ sp) := by simp
            rw [e, show l0.length + K.length + (d0 :: D).length = (l0 ++ K ++ d0 :: D).length by simp; omega, set_mid]
            simp
          have hs2 : ((l0 ++ K) ++ d0 :: (D ++ d0 :: (r ++ sp))).set (l0.length + K.length) b = (l0 ++ ((K ++ [b]) ++ ((D ++ [d0]) ++ r))) ++ sp := by
            rw [show l0.length + K.length = (l0 ++ K).length by simp, set_mid]
            simp
          have hi3 : ((l0 ++ K) ++ d0 :: (D ++ d0 :: (r ++ sp)))[l0.length + K.length]? = some d0 := by
            rw [show l0.length + K.length = (l0 ++ K).length by simp]
            exact mid_at
          have hpm : (l0 ++ ((K ++ [b]) ++ ((D ++ [d0]) ++ r))).Perm (l0 ++ (K ++ ((d0 :: D) ++ b :: r))) := by
            refine List.Perm.append_left l0 ?_
            rw [List.append_assoc]
            refine List.Perm.append_left K ?_
            have e1 : [b] ++ (D ++ [d0] ++ r) = ([b] ++ D) ++ d0 :: r := by simp
            have e2 : (d0 :: D) ++ b :: r = d0 :: (D ++ b :: r) := rfl
            rw [e1, e2]
            refine List.perm_middle.trans (List.Perm.cons d0 ?_)
            exact List.perm_middle.symm
          refine g_iload d_Rows_leaveOut_5 rfl ?_
          refine g_aload_n d_Rows_leaveOut_7 rfl ?_
          refine x_get (k := 13) (j := 1) (v := .int (c.1 13)) kc_Rows fl_Rows_18 (by decide) (by decide) rfl rfl d_Rows_leaveOut_8 ?_
          rw [h13]
          refine g_icmp_ge (tgt := 78) d_Rows_leaveOut_11 (by decide) (fun c_11 => ?_) (fun c_11 => ?_)
          · exact absurd c_11 (ige (by omega) (by omega) (by omega))
          refine g_aload_n d_Rows_leaveOut_14 rfl ?_
          refine x_get (k := 13) (j := 0) (v := .ref (a + 14)) kc_Rows fl_Rows_12 (by decide) (by decide) rfl rfl d_Rows_leaveOut_15 ?_
          refine g_iload d_Rows_leaveOut_18 rfl ?_
          refine c_Vr (as := [.int (nI (l0.length + K.length + (d0 :: D).length))]) kv_ArrayList_get ml_Rows_28 rfl (x_at (k := 14) (by decide) rfl) (m_K_get lk_rows hlo (by omega) hi) rfl (Nat.le_of_ble_eq_true rfl) rfl d_Rows_leaveOut_20 rfl ?_
          refine z_cast (kb := 1) cl_Rows_32 rfl hw.1 (by decide) d_Rows_leaveOut_23 ?_
          refine g_astore d_Rows_leaveOut_26 (by decide) rfl ?_
          refine g_aload d_Rows_leaveOut_28 rfl ?_
          refine z_get (k := 1) (j := 3) (v := .int (u.2.2.1 b 3)) kc_Row fl_Rows_108 (by decide) hw.1 (by decide) rfl rfl d_Rows_leaveOut_30 ?_
          rw [h3]
          refine g_iload_n d_Rows_leaveOut_33 rfl ?_
          refine g_icmp_eq (tgt := 72) d_Rows_leaveOut_34 (by decide) (fun c_34 => ?_) (fun c_34 => ?_)
          · exact absurd c_34 hne
          refine g_aload_n d_Rows_leaveOut_37 rfl ?_
          refine x_get (k := 13) (j := 0) (v := .ref (a + 14)) kc_Rows fl_Rows_12 (by decide) (by decide) rfl rfl d_Rows_leaveOut_38 ?_
          refine g_iload d_Rows_leaveOut_41 rfl ?_
          refine g_aload_n d_Rows_leaveOut_43 rfl ?_
          refine x_get (k := 13) (j := 0) (v := .ref (a + 14)) kc_Rows fl_Rows_12 (by decide) (by decide) rfl rfl d_Rows_leaveOut_44 ?_
          refine g_iload_n d_Rows_leaveOut_47 rfl ?_
          refine c_Vr (as := [.int (nI (l0.length + K.length))]) kv_ArrayList_get ml_Rows_28 rfl (x_at (k := 14) (by decide) rfl) (m_K_get lk_rows hlo (by omega) hi2) rfl (Nat.le_of_ble_eq_true rfl) rfl d_Rows_leaveOut_48 rfl ?_
          refine z_cast (kb := 1) cl_Rows_32 rfl wd.1 (by decide) d_Rows_leaveOut_51 ?_
          refine c_Vx (as := [.int (nI (l0.length + K.length + (d0 :: D).length)), .ref (d0)]) kv_ArrayList_set ml_Rows_111 rfl (x_at (k := 14) (by decide) rfl) (m_K_set lk_rows hlo (by decide) (by omega) hi wd.1 (by have := (h.2.2.2.2.2.1 d0 (by simp)).2; omega)) rfl (Nat.le_of_ble_eq_true rfl) rfl d_Rows_leaveOut_54 rfl (fun G_54 h_54 => ?_)
          obtain ⟨u1, rfl, lo1, uf1, uk1, ul1⟩ := h_54
          rw [hs1] at lo1
          have hz1 : zIs u1 a b 1 := ⟨(uk1 b).trans hw.1.1, hw.1.2⟩
          refine g_pop d_Rows_leaveOut_57 rfl ?_
          refine g_aload_n d_Rows_leaveOut_58 rfl ?_
          refine x_get (k := 13) (j := 0) (v := .ref (a + 14)) kc_Rows fl_Rows_12 (by decide) (by decide) rfl rfl d_Rows_leaveOut_59 ?_
          refine g_iload_n d_Rows_leaveOut_62 rfl ?_
          refine g_aload d_Rows_leaveOut_63 rfl ?_
          refine c_Vx (as := [.int (nI (l0.length + K.length)), .ref (b)]) kv_ArrayList_set ml_Rows_111 rfl (x_at (k := 14) (by decide) rfl) (m_K_set lk_rows lo1 (by decide) (by omega) hi3 hz1 (by have := (h.2.2.2.2.2.1 b (by simp)).2; omega)) rfl (Nat.le_of_ble_eq_true rfl) rfl d_Rows_leaveOut_65 rfl (fun G_65 h_65 => ?_)
          obtain ⟨u2, rfl, lo2, uf2, uk2, ul2⟩ := h_65
          rw [hs2] at lo2
          have uf : uFr u u2 n (c.2.2.2 0) := ⟨fun q hq => (uf2.1 q hq).trans (uf1.1 q hq), fun q hq hne => by
            obtain ⟨p1, p2, p3⟩ := uf1.2 q hq hne
            obtain ⟨r1, r2, r3⟩ := uf2.2 q hq hne
            exact ⟨r1.trans p1, r2.trans p2, r3.trans p3⟩⟩
          obtain ⟨rw2, fr2, kx2⟩ := rw_perm h hpm lo2 uf (fun q => (uk2 q).trans (uk1 q)) (fun q => (ul2 q).trans (ul1 q))
          refine g_pop d_Rows_leaveOut_68 rfl ?_
          refine g_iinc (v := nI (l0.length + (K ++ [b]).length)) d_Rows_leaveOut_69 rfl (by rw [List.length_append]; exact nI_1 _) (by decide) rfl ?_
          refine g_iinc (v := nI (l0.length + (K ++ [b]).length + (D ++ [d0]).length)) d_Rows_leaveOut_72 rfl (by rw [show l0.length + (K ++ [b]).length + (D ++ [d0]).length = l0.length + K.length + (d0 :: D).length + 1 by simp; omega]; exact nI_1 _) (by decide) rfl ?_
          refine g_goto (tgt := 5) d_Rows_leaveOut_75 (by decide) ?_
          refine g_weak (lv' := [(0, .ref (a + 13)), (1, .int (nI l0.length)), (2, .int (nI ow)), (3, .int (nI (l0.length + (K ++ [b]).length))), (4, .int (nI (l0.length + (K ++ [b]).length + (D ++ [d0]).length)))]) (fun q hq => List.mem_append_left _ hq) (by simp) ?_
          refine ih Lr (K ++ [b]) (D ++ [d0]) (LK ++ [A]) u2 sp rw2 (rFr_tr hf fr2 (Nat.le_refl _)) (fun y hy => (kx2 y (List.mem_append_left _ hy)).trans (hx y (hpm.mem_iff.mp hy))) hr.2 hKb (fun B hB => hA B (List.mem_cons_of_mem _ hB)) ?_
          rw [hpm.length_eq, hll]
          exact hlen
set_option maxHeartbeats 400000 in
set_option maxRecDepth 100000 in
theorem m_S_leaveOut {l0 ks sp : List Nat} {ow : Nat} {L : List rC} (h : rwOk E a Nb Sb c u n sl (l0 ++ ks) sp) (hr : rcs u tm ks L) (how : ow < 1000) (hA : ∀ A ∈ L, A.1 < 1000) : GM E Y_Rows_leaveOut (d + 3) [.ref (a + 13), .int (nI l0.length), .int (nI ow)] (yW E G a c u n sl) (loQ E G a Nb Sb tm l0 c u n sl (oC ow L)) := by
  refine g_entry (by decide) (by simp [Value.category]) (Nat.le_of_ble_eq_true rfl) ?_
  refine g_iload_n d_Rows_leaveOut_0 rfl ?_
  refine g_istore_n d_Rows_leaveOut_1 (by decide) rfl ?_
  refine g_iload_n d_Rows_leaveOut_2 rfl ?_
  refine g_istore d_Rows_leaveOut_3 (by decide) rfl ?_
  have K := m_S_lo5 (E := E) (d := d) (G := G) (G0 := yW E G a c u n sl) (n := n) (sl := sl) (c := c) (tm := tm) (u0 := u) (l0 := l0) how ks L [] [] [] u sp h rFr_rf (fun _ _ => rfl) hr trivial hA (by have := rw_len h; simp only [List.nil_append]; omega)
  exact K
end CB
