/-! Passage.bind, Tree.questionBehind, Tree.firstHeld -/
theorem d_Tree_questionBehind_0 : decode Y_Tree_questionBehind.2.1 0 = .ok (.iload_n 1, 1) := by decide +kernel
theorem d_Tree_questionBehind_1 : decode Y_Tree_questionBehind.2.1 1 = .ok (.iconst 1, 1) := by decide +kernel
theorem d_Tree_questionBehind_2 : decode Y_Tree_questionBehind.2.1 2 = .ok (.iadd, 1) := by decide +kernel
theorem d_Tree_questionBehind_3 : decode Y_Tree_questionBehind.2.1 3 = .ok (.istore_n 3, 1) := by decide +kernel
theorem d_Tree_questionBehind_4 : decode Y_Tree_questionBehind.2.1 4 = .ok (.iload_n 3, 1) := by decide +kernel
theorem d_Tree_questionBehind_5 : decode Y_Tree_questionBehind.2.1 5 = .ok (.aload_n 0, 1) := by decide +kernel
theorem d_Tree_questionBehind_6 : decode Y_Tree_questionBehind.2.1 6 = .ok (.getfield 47, 3) := by decide +kernel
theorem d_Tree_questionBehind_9 : decode Y_Tree_questionBehind.2.1 9 = .ok (.if_icmp .ge 42, 3) := by decide +kernel
theorem d_Tree_questionBehind_12 : decode Y_Tree_questionBehind.2.1 12 = .ok (.aload_n 0, 1) := by decide +kernel
theorem d_Tree_questionBehind_13 : decode Y_Tree_questionBehind.2.1 13 = .ok (.getfield 28, 3) := by decide +kernel
theorem d_Tree_questionBehind_16 : decode Y_Tree_questionBehind.2.1 16 = .ok (.iload_n 3, 1) := by decide +kernel
theorem d_Tree_questionBehind_17 : decode Y_Tree_questionBehind.2.1 17 = .ok (.invokevirtual 63, 3) := by decide +kernel
theorem d_Tree_questionBehind_20 : decode Y_Tree_questionBehind.2.1 20 = .ok (.checkcast 67, 3) := by decide +kernel
theorem d_Tree_questionBehind_23 : decode Y_Tree_questionBehind.2.1 23 = .ok (.astore 4, 2) := by decide +kernel
theorem d_Tree_questionBehind_25 : decode Y_Tree_questionBehind.2.1 25 = .ok (.aload 4, 2) := by decide +kernel
theorem d_Tree_questionBehind_27 : decode Y_Tree_questionBehind.2.1 27 = .ok (.getfield 82, 3) := by decide +kernel
theorem d_Tree_questionBehind_30 : decode Y_Tree_questionBehind.2.1 30 = .ok (.iload_n 1, 1) := by decide +kernel
theorem d_Tree_questionBehind_31 : decode Y_Tree_questionBehind.2.1 31 = .ok (.if_icmp .ne 14, 3) := by decide +kernel
theorem d_Tree_questionBehind_34 : decode Y_Tree_questionBehind.2.1 34 = .ok (.aload 4, 2) := by decide +kernel
theorem d_Tree_questionBehind_36 : decode Y_Tree_questionBehind.2.1 36 = .ok (.getfield 189, 3) := by decide +kernel
theorem d_Tree_questionBehind_39 : decode Y_Tree_questionBehind.2.1 39 = .ok (.iload_n 2, 1) := by decide +kernel
theorem d_Tree_questionBehind_40 : decode Y_Tree_questionBehind.2.1 40 = .ok (.if_icmp .ne 5, 3) := by decide +kernel
theorem d_Tree_questionBehind_43 : decode Y_Tree_questionBehind.2.1 43 = .ok (.iload_n 3, 1) := by decide +kernel
theorem d_Tree_questionBehind_44 : decode Y_Tree_questionBehind.2.1 44 = .ok (.ireturn, 1) := by decide +kernel
theorem d_Tree_questionBehind_45 : decode Y_Tree_questionBehind.2.1 45 = .ok (.iinc 3 1, 3) := by decide +kernel
theorem d_Tree_questionBehind_48 : decode Y_Tree_questionBehind.2.1 48 = .ok (.goto (-44), 3) := by decide +kernel
theorem d_Tree_questionBehind_51 : decode Y_Tree_questionBehind.2.1 51 = .ok (.iconst (-1), 1) := by decide +kernel
theorem d_Tree_questionBehind_52 : decode Y_Tree_questionBehind.2.1 52 = .ok (.ireturn, 1) := by decide +kernel
theorem d_Tree_firstHeld_0 : decode Y_Tree_firstHeld.2.1 0 = .ok (.iconst 0, 1) := by decide +kernel
theorem d_Tree_firstHeld_1 : decode Y_Tree_firstHeld.2.1 1 = .ok (.istore_n 3, 1) := by decide +kernel
theorem d_Tree_firstHeld_2 : decode Y_Tree_firstHeld.2.1 2 = .ok (.iload_n 3, 1) := by decide +kernel
theorem d_Tree_firstHeld_3 : decode Y_Tree_firstHeld.2.1 3 = .ok (.bipush 20, 2) := by decide +kernel
theorem d_Tree_firstHeld_5 : decode Y_Tree_firstHeld.2.1 5 = .ok (.if_icmp .gt 94, 3) := by decide +kernel
theorem d_Tree_firstHeld_8 : decode Y_Tree_firstHeld.2.1 8 = .ok (.aload_n 0, 1) := by decide +kernel
theorem d_Tree_firstHeld_9 : decode Y_Tree_firstHeld.2.1 9 = .ok (.getfield 12, 3) := by decide +kernel
theorem d_Tree_firstHeld_12 : decode Y_Tree_firstHeld.2.1 12 = .ok (.invokevirtual 122, 3) := by decide +kernel
theorem d_Tree_firstHeld_15 : decode Y_Tree_firstHeld.2.1 15 = .ok (.iload_n 1, 1) := by decide +kernel
theorem d_Tree_firstHeld_16 : decode Y_Tree_firstHeld.2.1 16 = .ok (.if_icmp .le 83, 3) := by decide +kernel
theorem d_Tree_firstHeld_19 : decode Y_Tree_firstHeld.2.1 19 = .ok (.aload_n 0, 1) := by decide +kernel
theorem d_Tree_firstHeld_20 : decode Y_Tree_firstHeld.2.1 20 = .ok (.getfield 12, 3) := by decide +kernel
theorem d_Tree_firstHeld_23 : decode Y_Tree_firstHeld.2.1 23 = .ok (.iload_n 1, 1) := by decide +kernel
theorem d_Tree_firstHeld_24 : decode Y_Tree_firstHeld.2.1 24 = .ok (.invokevirtual 133, 3) := by decide +kernel
theorem d_Tree_firstHeld_27 : decode Y_Tree_firstHeld.2.1 27 = .ok (.astore 4, 2) := by decide +kernel
theorem d_Tree_firstHeld_29 : decode Y_Tree_firstHeld.2.1 29 = .ok (.aload_n 0, 1) := by decide +kernel
theorem d_Tree_firstHeld_30 : decode Y_Tree_firstHeld.2.1 30 = .ok (.getfield 43, 3) := by decide +kernel
theorem d_Tree_firstHeld_33 : decode Y_Tree_firstHeld.2.1 33 = .ok (.aload 4, 2) := by decide +kernel
theorem d_Tree_firstHeld_35 : decode Y_Tree_firstHeld.2.1 35 = .ok (.getfield 165, 3) := by decide +kernel
theorem d_Tree_firstHeld_38 : decode Y_Tree_firstHeld.2.1 38 = .ok (.invokevirtual 168, 3) := by decide +kernel
theorem d_Tree_firstHeld_41 : decode Y_Tree_firstHeld.2.1 41 = .ok (.ifCond .eq 16, 3) := by decide +kernel
theorem d_Tree_firstHeld_44 : decode Y_Tree_firstHeld.2.1 44 = .ok (.iload_n 2, 1) := by decide +kernel
theorem d_Tree_firstHeld_45 : decode Y_Tree_firstHeld.2.1 45 = .ok (.aload 4, 2) := by decide +kernel
theorem d_Tree_firstHeld_47 : decode Y_Tree_firstHeld.2.1 47 = .ok (.getfield 165, 3) := by decide +kernel
theorem d_Tree_firstHeld_50 : decode Y_Tree_firstHeld.2.1 50 = .ok (.ishr, 1) := by decide +kernel
theorem d_Tree_firstHeld_51 : decode Y_Tree_firstHeld.2.1 51 = .ok (.iconst 1, 1) := by decide +kernel
theorem d_Tree_firstHeld_52 : decode Y_Tree_firstHeld.2.1 52 = .ok (.iand, 1) := by decide +kernel
theorem d_Tree_firstHeld_53 : decode Y_Tree_firstHeld.2.1 53 = .ok (.iconst 1, 1) := by decide +kernel
theorem d_Tree_firstHeld_54 : decode Y_Tree_firstHeld.2.1 54 = .ok (.if_icmp .ne 7, 3) := by decide +kernel
theorem d_Tree_firstHeld_57 : decode Y_Tree_firstHeld.2.1 57 = .ok (.iconst 1, 1) := by decide +kernel
theorem d_Tree_firstHeld_58 : decode Y_Tree_firstHeld.2.1 58 = .ok (.goto 4, 3) := by decide +kernel
theorem d_Tree_firstHeld_61 : decode Y_Tree_firstHeld.2.1 61 = .ok (.iconst 0, 1) := by decide +kernel
theorem d_Tree_firstHeld_62 : decode Y_Tree_firstHeld.2.1 62 = .ok (.istore 5, 2) := by decide +kernel
theorem d_Tree_firstHeld_64 : decode Y_Tree_firstHeld.2.1 64 = .ok (.aload 4, 2) := by decide +kernel
theorem d_Tree_firstHeld_66 : decode Y_Tree_firstHeld.2.1 66 = .ok (.invokevirtual 158, 3) := by decide +kernel
theorem d_Tree_firstHeld_69 : decode Y_Tree_firstHeld.2.1 69 = .ok (.ifCond .ne 8, 3) := by decide +kernel
theorem d_Tree_firstHeld_72 : decode Y_Tree_firstHeld.2.1 72 = .ok (.iload 5, 2) := by decide +kernel
theorem d_Tree_firstHeld_74 : decode Y_Tree_firstHeld.2.1 74 = .ok (.ifCond .eq 6, 3) := by decide +kernel
theorem d_Tree_firstHeld_77 : decode Y_Tree_firstHeld.2.1 77 = .ok (.aload 4, 2) := by decide +kernel
theorem d_Tree_firstHeld_79 : decode Y_Tree_firstHeld.2.1 79 = .ok (.areturn, 1) := by decide +kernel
theorem d_Tree_firstHeld_80 : decode Y_Tree_firstHeld.2.1 80 = .ok (.aload_n 0, 1) := by decide +kernel
theorem d_Tree_firstHeld_81 : decode Y_Tree_firstHeld.2.1 81 = .ok (.getfield 12, 3) := by decide +kernel
theorem d_Tree_firstHeld_84 : decode Y_Tree_firstHeld.2.1 84 = .ok (.iload_n 1, 1) := by decide +kernel
theorem d_Tree_firstHeld_85 : decode Y_Tree_firstHeld.2.1 85 = .ok (.aload 4, 2) := by decide +kernel
theorem d_Tree_firstHeld_87 : decode Y_Tree_firstHeld.2.1 87 = .ok (.getfield 165, 3) := by decide +kernel
theorem d_Tree_firstHeld_90 : decode Y_Tree_firstHeld.2.1 90 = .ok (.invokevirtual 174, 3) := by decide +kernel
theorem d_Tree_firstHeld_93 : decode Y_Tree_firstHeld.2.1 93 = .ok (.iinc 3 1, 3) := by decide +kernel
theorem d_Tree_firstHeld_96 : decode Y_Tree_firstHeld.2.1 96 = .ok (.goto (-94), 3) := by decide +kernel
theorem d_Tree_firstHeld_99 : decode Y_Tree_firstHeld.2.1 99 = .ok (.aconst_null, 1) := by decide +kernel
theorem d_Tree_firstHeld_100 : decode Y_Tree_firstHeld.2.1 100 = .ok (.areturn, 1) := by decide +kernel
section CT
variable {E : gE} {d : Nat} {G G0 : gS} {a : Nat} {c c' c0 c1 : cS} {u u' u2 u0 : uS} {n n' n2 n1 sl sl' sl2 : Nat} {Q : gO → gS → Prop} {B SS : Nat} {P : Nat → Nat → Int32} {N t0 X C nk : Nat} {tm cp : Nat → Nat} {ob : Nat → Int32} {T : Nat → Prop} {ks bs sp ps qs ms ms' : List Nat} {Z : List zQ} {st : aSt}
/-- what a name is bound to -/
def bdT (ms : List Nat) (bd : Nat → Option Nat) (k : Nat) : Option Nat := match bd k with
  | none => none
  | some p => ms[p]?
/-- only what names are bound to has changed -/
def bnF (c c' : cS) : Prop := c'.1 = c.1 ∧ c'.2.1 = c.2.1 ∧ (∀ j, j ≠ 3 → c'.2.2.1 j = c.2.2.1 j) ∧ c'.2.2.2 = c.2.2.2
theorem bnF_T {k : Nat} {v : Option Nat} (h : bnF c0 c) : bnF c0 (cT c 3 k v) := ⟨h.1, h.2.1, fun j hj => (upT_ne hj).trans (h.2.2.1 j hj), h.2.2.2⟩
theorem cT_at {k : Nat} {v : Option Nat} : (cT c 3 k v).2.2.1 3 = va_up (c.2.2.1 3) k v := upT_at (A := c.2.2.1) (j := 3) (f := va_up (c.2.2.1 3) k v)
theorem bnF_hp (h : hpOk E a B SS c0 u n sl ks sp ps qs ms) (hF : bnF c0 c) : hpOk E a B SS c u n sl ks sp ps qs ms := pg_hp h (fun j _ => by rw [hF.1]) hF.2.2.2
set_option maxHeartbeats 400000 in
set_option maxRecDepth 100000 in
theorem m_Pg_bd2 {b ow : Nat} {ws : List (Nat × Nat)} {bd : Nat → Option Nat} (h : hpOk E a B SS c0 u n sl ks sp ps qs ms) (hw : rowW u a b) (hx : hX (xOf u b) ow ws bd) (hbd : ∀ k p, bd k = some p → p < ms.length) : ∀ (w k : Nat) (c : cS), k + w = 8 → bnF c0 c → (∀ j, j < k → c.2.2.1 3 j = bdT ms bd j) → (∀ c', bnF c0 c' → (∀ j, j < 8 → c'.2.2.1 3 j = bdT ms bd j) → Q (.inl none) (yW E G a c' u n sl)) → GT E Y_Passage_bind (d + 3) G0 2 [(0, .ref (a + 20)), (1, .ref b), (2, .int (nI k))] [] (yW E G a c u n sl) Q := by
  have hml := h.2.2.2.1.2.2.1
  intro w
  induction w with
  | zero =>
    intro k c hk hF hj kk
    obtain rfl : k = 8 := by omega
    refine g_iload_n d_Passage_bind_2 rfl ?_
    refine g_bipush (v := 8) d_Passage_bind_3 (by decide) ?_
    refine g_icmp_ge (tgt := 57) d_Passage_bind_5 (by decide) (fun c_5 => ?_) (fun c_5 => ?_)
    rotate_left
    · exact absurd c_5 (fun q => q (by decide))
    refine g_vret rfl d_Passage_bind_57 ?_
    exact kk c hF hj
  | succ w ih =>
    intro k c hk hF hj kk
    have hpk : u.2.2.1 (b + 3) k = bI (bd k) := hx.2.2.2 k (by omega)
    have h23 : c.1 23 = nI ms.length := by rw [hF.1]; exact h.2.2.2.1.1
    have hlo : lOk E c u a n 23 3 7 3300 ms := (bnF_hp h hF).2.2.2.1
    have nx : ∀ v, bdT ms bd k = v → ∀ j, j < k + 1 → (cT c 3 k v).2.2.1 3 j = bdT ms bd j := fun v hv j hjk => by
      rw [cT_at]
      by_cases e : j = k
      · rw [e, hv]
        exact if_pos rfl
      · exact (if_neg e).trans (hj j (by omega))
    cases hb : bd k with
    | none =>
      rw [hb] at hpk
      have hpk : u.2.2.1 (b + 3) k = -1 := hpk
      have hv : bdT ms bd k = none := by unfold bdT; rw [hb]
      refine g_iload_n d_Passage_bind_2 rfl ?_
      refine g_bipush (v := 8) d_Passage_bind_3 (by decide) ?_
      refine g_icmp_ge (tgt := 57) d_Passage_bind_5 (by decide) (fun c_5 => ?_) (fun c_5 => ?_)
      · exact absurd c_5 (ige (m := 8) (by omega) (by omega) (by omega))
      refine g_aload_n d_Passage_bind_8 rfl ?_
      refine z_get (k := 1) (j := 2) (v := .ref (b + 3)) kc_Row fl_Passage_49 (by decide) hw.1 (by decide) rfl rfl d_Passage_bind_9 ?_
      refine g_iload_n d_Passage_bind_12 rfl ?_
      refine z_ald (k := 4) (j := k) hw.2.2.2 (by decide) rfl (nI_hi (by omega)) (by omega) d_Passage_bind_13 ?_
      rw [hpk]
      refine g_istore_n d_Passage_bind_14 (by decide) rfl ?_
      refine g_aload_n d_Passage_bind_15 rfl ?_
      refine x_get (k := 20) (j := 1) (v := .ref (a + 22)) kc_Passage fl_Passage_17 (by decide) (by decide) rfl rfl d_Passage_bind_16 ?_
      refine g_iload_n d_Passage_bind_19 rfl ?_
      refine g_iload_n d_Passage_bind_20 rfl ?_
      refine g_if_lt (tgt := 49) d_Passage_bind_21 (by decide) (fun c_21 => ?_) (fun c_21 => absurd c_21 (by decide))
      refine g_null d_Passage_bind_49 ?_
      refine x_tstN (c' := (cT c 3 (k) none)) (k := 22) (q := k) (by decide) rfl (nI_hi (by omega)) (by omega) rfl xf_T3 d_Passage_bind_50 ?_
      refine g_iinc (v := nI (k + 1)) d_Passage_bind_51 rfl (nI_1 k) (by decide) rfl ?_
      refine g_goto (tgt := 2) d_Passage_bind_54 (by decide) ?_
      refine g_weak (lv' := [(0, .ref (a + 20)), (1, .ref b), (2, .int (nI (k + 1)))]) (fun q hq => List.mem_append_left _ hq) (by simp) ?_
      exact ih (k + 1) _ (by omega) (bnF_T hF) (nx none hv) kk
    | some p =>
      rw [hb] at hpk
      have hpk : u.2.2.1 (b + 3) k = nI p := hpk
      have hpl := hbd k p hb
      obtain ⟨t, ht⟩ : ∃ t, ms[p]? = some t := ⟨ms[p], List.getElem?_eq_getElem hpl⟩
      have hv : bdT ms bd k = some t := by unfold bdT; rw [hb]; exact ht
      have hzt := (lOk_get hlo ht).2.2.2.2.1
      refine g_iload_n d_Passage_bind_2 rfl ?_
      refine g_bipush (v := 8) d_Passage_bind_3 (by decide) ?_
      refine g_icmp_ge (tgt := 57) d_Passage_bind_5 (by decide) (fun c_5 => ?_) (fun c_5 => ?_)
      · exact absurd c_5 (ige (m := 8) (by omega) (by omega) (by omega))
      refine g_aload_n d_Passage_bind_8 rfl ?_
      refine z_get (k := 1) (j := 2) (v := .ref (b + 3)) kc_Row fl_Passage_49 (by decide) hw.1 (by decide) rfl rfl d_Passage_bind_9 ?_
      refine g_iload_n d_Passage_bind_12 rfl ?_
      refine z_ald (k := 4) (j := k) hw.2.2.2 (by decide) rfl (nI_hi (by omega)) (by omega) d_Passage_bind_13 ?_
      rw [hpk]
      refine g_istore_n d_Passage_bind_14 (by decide) rfl ?_
      refine g_aload_n d_Passage_bind_15 rfl ?_
      refine x_get (k := 20) (j := 1) (v := .ref (a + 22)) kc_Passage fl_Passage_17 (by decide) (by decide) rfl rfl d_Passage_bind_16 ?_
      refine g_iload_n d_Passage_bind_19 rfl ?_
      refine g_iload_n d_Passage_bind_20 rfl ?_
      refine g_if_lt (tgt := 49) d_Passage_bind_21 (by decide) (fun c_21 => ?_) (fun c_21 => ?_)
      · exact absurd c_21 (nlt_hi (nI_hi (by omega)))
      refine g_iload_n d_Passage_bind_24 rfl ?_
      refine g_aload_n d_Passage_bind_25 rfl ?_
      refine x_get (k := 20) (j := 2) (v := .ref (a + 23)) kc_Passage fl_Passage_24 (by decide) (by decide) rfl rfl d_Passage_bind_26 ?_
      refine c_Vr (as := []) kv_ArrayList_size ml_Passage_54 rfl (x_at (k := 23) (by decide) rfl) (m_L_size lk_met) rfl (Nat.le_of_ble_eq_true rfl) rfl d_Passage_bind_29 rfl ?_
      refine g_icmp_ge (tgt := 49) d_Passage_bind_32 (by decide) (fun c_32 => ?_) (fun c_32 => ?_)
      · exact absurd c_32 (by rw [h23]; exact ige (by omega) (by omega) hpl)
      refine g_aload_n d_Passage_bind_35 rfl ?_
      refine x_get (k := 20) (j := 2) (v := .ref (a + 23)) kc_Passage fl_Passage_24 (by decide) (by decide) rfl rfl d_Passage_bind_36 ?_
      refine g_iload_n d_Passage_bind_39 rfl ?_
      refine c_Vr (as := [.int (nI p)]) kv_ArrayList_get ml_Passage_42 rfl (x_at (k := 23) (by decide) rfl) (m_K_get lk_met hlo (by omega) ht) rfl (Nat.le_of_ble_eq_true rfl) rfl d_Passage_bind_40 rfl ?_
      refine z_cast (kb := 7) cl_Passage_15 rfl hzt (by decide) d_Passage_bind_43 ?_
      refine g_goto (tgt := 50) d_Passage_bind_46 (by decide) ?_
      refine x_tst (c' := (cT c 3 (k) (some (t)))) (k := 22) (q := k) (by decide) rfl (nI_hi (by omega)) (by omega) (z_at hzt (by decide)) rfl xf_T3 d_Passage_bind_50 ?_
      refine g_iinc (v := nI (k + 1)) d_Passage_bind_51 rfl (nI_1 k) (by decide) rfl ?_
      refine g_goto (tgt := 2) d_Passage_bind_54 (by decide) ?_
      refine g_weak (lv' := [(0, .ref (a + 20)), (1, .ref b), (2, .int (nI (k + 1)))]) (fun q hq => List.mem_append_left _ hq) (by simp) ?_
      exact ih (k + 1) _ (by omega) (bnF_T hF) (nx (some t) hv) kk
set_option maxHeartbeats 400000 in
set_option maxRecDepth 100000 in
theorem m_Pg_bind {b ow : Nat} {ws : List (Nat × Nat)} {bd : Nat → Option Nat} (h : hpOk E a B SS c u n sl ks sp ps qs ms) (hw : rowW u a b) (hx : hX (xOf u b) ow ws bd) (hbd : ∀ k p, bd k = some p → p < ms.length) : GM E Y_Passage_bind (d + 3) [.ref (a + 20), .ref b] (yW E G a c u n sl) (rPost none (fun G' => ∃ c', G' = yW E G a c' u n sl ∧ bnF c c' ∧ ∀ j, j < 8 → c'.2.2.1 3 j = bdT ms bd j)) := by
  refine g_entry (by decide) (by simp [Value.category]) (Nat.le_of_ble_eq_true rfl) ?_
  refine g_iconst (v := 0) d_Passage_bind_0 (by decide) ?_
  refine g_istore_n d_Passage_bind_1 (by decide) rfl ?_
  exact m_Pg_bd2 h hw hx hbd 8 0 c (by omega) ⟨rfl, rfl, fun _ _ => rfl, rfl⟩ (fun j hj => by omega) (fun c' k1 k2 => ⟨rfl, c', rfl, k1, k2⟩)
set_option maxHeartbeats 400000 in
set_option maxRecDepth 100000 in
theorem m_T_qb4 {up via : Int32} {fr : Nat} (hT : clT E a B SS P N t0 tm ob T C cp c u n sl ks bs sp ps qs ms nk Z st) : ∀ (w j : Nat), j + w = st.1.length → (∀ i x, fr ≤ i → i < j → st.1[i]? = some x → ¬ (x.2.2.2.1 = up ∧ x.2.2.2.2 = via)) → GT E Y_Tree_questionBehind (d + 3) G0 4 [(0, .ref (a + 12)), (1, .int up), (2, .int via), (3, .int (nI j))] [] (yW E G a c u n sl) (fun o G' => G' = yW E G a c u n sl ∧ ((∃ i x, o = .inl (some (.int (nI i))) ∧ st.1[i]? = some x ∧ x.2.2.2.1 = up ∧ x.2.2.2.2 = via ∧ ∀ i' x', fr ≤ i' → i' < i → st.1[i']? = some x' → ¬ (x'.2.2.2.1 = up ∧ x'.2.2.2.2 = via)) ∨ (o = .inl (some (.int (-1))) ∧ ∀ i x, fr ≤ i → st.1[i]? = some x → ¬ (x.2.2.2.1 = up ∧ x.2.2.2.2 = via)))) := by
  have h6 := hT.2.2.2.2.2.1
  have h1000 := hT.2.2.2.2.2.2.2.1
  intro w
  induction w with
  | zero =>
    intro j hj hno
    obtain rfl : j = st.1.length := by omega
    refine g_iload_n d_Tree_questionBehind_4 rfl ?_
    refine g_aload_n d_Tree_questionBehind_5 rfl ?_
    refine x_get (k := 12) (j := 7) (v := .int (c.1 6)) kc_Tree fl_Tree_47 (by decide) (by decide) rfl rfl d_Tree_questionBehind_6 ?_
    rw [h6]
    refine g_icmp_ge (tgt := 51) d_Tree_questionBehind_9 (by decide) (fun c_9 => ?_) (fun c_9 => ?_)
    rotate_left
    · exact absurd c_9 (fun q => q (Int32.le_refl _))
    refine g_iconst (v := (-1)) d_Tree_questionBehind_51 (by decide) ?_
    refine g_iret rfl d_Tree_questionBehind_52 ?_
    exact ⟨rfl, Or.inr ⟨rfl, fun i x hi hx => hno i x hi (List.getElem?_eq_some_iff.mp hx).1 hx⟩⟩
  | succ w ih =>
    intro j hj hno
    obtain ⟨x, hx⟩ : ∃ x, st.1[j]? = some x := ⟨st.1[j]'(by omega), List.getElem?_eq_getElem (by omega)⟩
    obtain ⟨q, z, lA, lB, g1, g2, g3, g4, g5, g6⟩ := hT.2.2.2.1 j x hx
    obtain ⟨f6, -, -, -, -, -, -, -, -, -, f9, f10⟩ := g5
    have hn1 : ∀ i y, fr ≤ i → i < j + 1 → st.1[i]? = some y → ¬ (x.2.2.2.1 = up ∧ x.2.2.2.2 = via) → ¬ (y.2.2.2.1 = up ∧ y.2.2.2.2 = via) := fun i y h1 h2 h3 h4 => by
      by_cases e : i = j
      · rw [e, hx] at h3
        cases h3
        exact h4
      · exact hno i y h1 (by omega) h3
    by_cases hu : x.2.2.2.1 = up
    · by_cases hv : x.2.2.2.2 = via
      · refine g_iload_n d_Tree_questionBehind_4 rfl ?_
        refine g_aload_n d_Tree_questionBehind_5 rfl ?_
        refine x_get (k := 12) (j := 7) (v := .int (c.1 6)) kc_Tree fl_Tree_47 (by decide) (by decide) rfl rfl d_Tree_questionBehind_6 ?_
        rw [h6]
        refine g_icmp_ge (tgt := 51) d_Tree_questionBehind_9 (by decide) (fun c_9 => ?_) (fun c_9 => ?_)
        · exact absurd c_9 (ige (by omega) (by omega) (by omega))
        refine g_aload_n d_Tree_questionBehind_12 rfl ?_
        refine x_get (k := 12) (j := 4) (v := .ref (a + 17)) kc_Tree fl_Tree_28 (by decide) (by decide) rfl rfl d_Tree_questionBehind_13 ?_
        refine g_iload_n d_Tree_questionBehind_16 rfl ?_
        refine c_Vr (as := [.int (nI j)]) kv_ArrayList_get ml_Tree_63 rfl (x_at (k := 17) (by decide) rfl) (m_K_get lk_quests hT.1.2.2.1 (by omega) g1) rfl (Nat.le_of_ble_eq_true rfl) rfl d_Tree_questionBehind_17 rfl ?_
        refine z_cast (kb := 6) cl_Tree_67 rfl f6 (by decide) d_Tree_questionBehind_20 ?_
        refine g_astore d_Tree_questionBehind_23 (by decide) rfl ?_
        refine g_aload d_Tree_questionBehind_25 rfl ?_
        refine z_get (k := 6) (j := 9) (v := .int (u.2.2.1 q 9)) kc_Question fl_Tree_82 (by decide) f6 (by decide) rfl rfl d_Tree_questionBehind_27 ?_
        rw [f9]
        refine g_iload_n d_Tree_questionBehind_30 rfl ?_
        refine g_icmp_ne (tgt := 45) d_Tree_questionBehind_31 (by decide) (fun c_31 => ?_) (fun c_31 => ?_)
        · exact absurd c_31 (fun q => q hu)
        refine g_aload d_Tree_questionBehind_34 rfl ?_
        refine z_get (k := 6) (j := 10) (v := .int (u.2.2.1 q 10)) kc_Question fl_Tree_189 (by decide) f6 (by decide) rfl rfl d_Tree_questionBehind_36 ?_
        rw [f10]
        refine g_iload_n d_Tree_questionBehind_39 rfl ?_
        refine g_icmp_ne (tgt := 45) d_Tree_questionBehind_40 (by decide) (fun c_40 => ?_) (fun c_40 => ?_)
        · exact absurd c_40 (fun q => q hv)
        refine g_iload_n d_Tree_questionBehind_43 rfl ?_
        refine g_iret rfl d_Tree_questionBehind_44 ?_
        exact ⟨rfl, Or.inl ⟨j, x, rfl, hx, hu, hv, hno⟩⟩
      · refine g_iload_n d_Tree_questionBehind_4 rfl ?_
        refine g_aload_n d_Tree_questionBehind_5 rfl ?_
        refine x_get (k := 12) (j := 7) (v := .int (c.1 6)) kc_Tree fl_Tree_47 (by decide) (by decide) rfl rfl d_Tree_questionBehind_6 ?_
        rw [h6]
        refine g_icmp_ge (tgt := 51) d_Tree_questionBehind_9 (by decide) (fun c_9 => ?_) (fun c_9 => ?_)
        · exact absurd c_9 (ige (by omega) (by omega) (by omega))
        refine g_aload_n d_Tree_questionBehind_12 rfl ?_
        refine x_get (k := 12) (j := 4) (v := .ref (a + 17)) kc_Tree fl_Tree_28 (by decide) (by decide) rfl rfl d_Tree_questionBehind_13 ?_
        refine g_iload_n d_Tree_questionBehind_16 rfl ?_
        refine c_Vr (as := [.int (nI j)]) kv_ArrayList_get ml_Tree_63 rfl (x_at (k := 17) (by decide) rfl) (m_K_get lk_quests hT.1.2.2.1 (by omega) g1) rfl (Nat.le_of_ble_eq_true rfl) rfl d_Tree_questionBehind_17 rfl ?_
        refine z_cast (kb := 6) cl_Tree_67 rfl f6 (by decide) d_Tree_questionBehind_20 ?_
        refine g_astore d_Tree_questionBehind_23 (by decide) rfl ?_
        refine g_aload d_Tree_questionBehind_25 rfl ?_
        refine z_get (k := 6) (j := 9) (v := .int (u.2.2.1 q 9)) kc_Question fl_Tree_82 (by decide) f6 (by decide) rfl rfl d_Tree_questionBehind_27 ?_
        rw [f9]
        refine g_iload_n d_Tree_questionBehind_30 rfl ?_
        refine g_icmp_ne (tgt := 45) d_Tree_questionBehind_31 (by decide) (fun c_31 => ?_) (fun c_31 => ?_)
        · exact absurd c_31 (fun q => q hu)
        refine g_aload d_Tree_questionBehind_34 rfl ?_
        refine z_get (k := 6) (j := 10) (v := .int (u.2.2.1 q 10)) kc_Question fl_Tree_189 (by decide) f6 (by decide) rfl rfl d_Tree_questionBehind_36 ?_
        rw [f10]
        refine g_iload_n d_Tree_questionBehind_39 rfl ?_
        refine g_icmp_ne (tgt := 45) d_Tree_questionBehind_40 (by decide) (fun c_40 => ?_) (fun c_40 => ?_)
        rotate_left
        · exact absurd c_40 (fun q => hv q)
        refine g_iinc (v := nI (j + 1)) d_Tree_questionBehind_45 rfl (nI_1 j) (by decide) rfl ?_
        refine g_goto (tgt := 4) d_Tree_questionBehind_48 (by decide) ?_
        refine g_weak (lv' := [(0, .ref (a + 12)), (1, .int up), (2, .int via), (3, .int (nI (j + 1)))]) (fun q hq => List.mem_append_left _ hq) (by simp) ?_
        exact ih (j + 1) (by omega) (fun i y h1 h2 h3 => hn1 i y h1 h2 h3 (fun z => hv z.2))
    · refine g_iload_n d_Tree_questionBehind_4 rfl ?_
      refine g_aload_n d_Tree_questionBehind_5 rfl ?_
      refine x_get (k := 12) (j := 7) (v := .int (c.1 6)) kc_Tree fl_Tree_47 (by decide) (by decide) rfl rfl d_Tree_questionBehind_6 ?_
      rw [h6]
      refine g_icmp_ge (tgt := 51) d_Tree_questionBehind_9 (by decide) (fun c_9 => ?_) (fun c_9 => ?_)
      · exact absurd c_9 (ige (by omega) (by omega) (by omega))
      refine g_aload_n d_Tree_questionBehind_12 rfl ?_
      refine x_get (k := 12) (j := 4) (v := .ref (a + 17)) kc_Tree fl_Tree_28 (by decide) (by decide) rfl rfl d_Tree_questionBehind_13 ?_
      refine g_iload_n d_Tree_questionBehind_16 rfl ?_
      refine c_Vr (as := [.int (nI j)]) kv_ArrayList_get ml_Tree_63 rfl (x_at (k := 17) (by decide) rfl) (m_K_get lk_quests hT.1.2.2.1 (by omega) g1) rfl (Nat.le_of_ble_eq_true rfl) rfl d_Tree_questionBehind_17 rfl ?_
      refine z_cast (kb := 6) cl_Tree_67 rfl f6 (by decide) d_Tree_questionBehind_20 ?_
      refine g_astore d_Tree_questionBehind_23 (by decide) rfl ?_
      refine g_aload d_Tree_questionBehind_25 rfl ?_
      refine z_get (k := 6) (j := 9) (v := .int (u.2.2.1 q 9)) kc_Question fl_Tree_82 (by decide) f6 (by decide) rfl rfl d_Tree_questionBehind_27 ?_
      rw [f9]
      refine g_iload_n d_Tree_questionBehind_30 rfl ?_
      refine g_icmp_ne (tgt := 45) d_Tree_questionBehind_31 (by decide) (fun c_31 => ?_) (fun c_31 => ?_)
      rotate_left
      · exact absurd c_31 (fun q => hu q)
      refine g_iinc (v := nI (j + 1)) d_Tree_questionBehind_45 rfl (nI_1 j) (by decide) rfl ?_
      refine g_goto (tgt := 4) d_Tree_questionBehind_48 (by decide) ?_
      refine g_weak (lv' := [(0, .ref (a + 12)), (1, .int up), (2, .int via), (3, .int (nI (j + 1)))]) (fun q hq => List.mem_append_left _ hq) (by simp) ?_
      exact ih (j + 1) (by omega) (fun i y h1 h2 h3 => hn1 i y h1 h2 h3 (fun z => hu z.1))
set_option maxHeartbeats 400000 in
set_option maxRecDepth 100000 in
theorem m_T_qb {up via : Int32} {fr : Nat} (hT : clT E a B SS P N t0 tm ob T C cp c u n sl ks bs sp ps qs ms nk Z st) (hup : up + 1 = nI fr) (hfr : fr ≤ st.1.length) : GM E Y_Tree_questionBehind (d + 3) [.ref (a + 12), .int up, .int via] (yW E G a c u n sl) (fun o G' => G' = yW E G a c u n sl ∧ ((∃ i x, o = .inl (some (.int (nI i))) ∧ st.1[i]? = some x ∧ x.2.2.2.1 = up ∧ x.2.2.2.2 = via ∧ ∀ i' x', fr ≤ i' → i' < i → st.1[i']? = some x' → ¬ (x'.2.2.2.1 = up ∧ x'.2.2.2.2 = via)) ∨ (o = .inl (some (.int (-1))) ∧ ∀ i x, fr ≤ i → st.1[i]? = some x → ¬ (x.2.2.2.1 = up ∧ x.2.2.2.2 = via)))) := by
  refine g_entry (by decide) (by simp [Value.category]) (Nat.le_of_ble_eq_true rfl) ?_
  refine g_iload_n d_Tree_questionBehind_0 rfl ?_
  refine g_iconst (v := 1) d_Tree_questionBehind_1 (by decide) ?_
  refine g_iadd d_Tree_questionBehind_2 ?_
  refine g_top (nI fr) hup ?_
  refine g_istore_n d_Tree_questionBehind_3 (by decide) rfl ?_
  exact m_T_qb4 hT (st.1.length - fr) fr (by omega) (fun i x h1 h2 => by omega)
/-- rows without the cases that would take them but for their guards -/
def hDC (P : Nat → Nat → Int32) (gs : Int32) : Nat → List rC → List rC
  | 0, L => L
  | _ + 1, [] => []
  | f + 1, A :: r => if A.2.1 = [] ∧ ¬ P 12 A.1 = 0 ∧ ¬ (gs >>> (nI A.1 &&& 31)) &&& 1 = 1 then hDC P gs f (oC A.1 (A :: r)) else A :: r
def hlQ (E : gE) (G : gS) (a B SS : Nat) (P : Nat → Nat → Int32) (N t0 : Nat) (tm : Nat → Nat) (ob : Nat → Int32) (T : Nat → Prop) (C : Nat) (cp : Nat → Nat) (c : cS) (u : uS) (n sl : Nat) (ks ps qs ms : List Nat) (nk : Nat) (Z : List zQ) (st : aSt) (L : List rC) : gO → gS → Prop := fun o G' => ∃ c' u' bs' sp', G' = yW E G a c' u' n sl ∧ clT E a B SS P N t0 tm ob T C cp c' u' n sl ks bs' sp' ps qs ms nk Z st ∧ rFc c c' ∧ rFr u u' n ∧ rcs u' tm bs' L ∧ (∀ y ∈ ks, xOf u' y = xOf u y) ∧ ((L = [] ∧ o = .inl (some .null)) ∨ ∃ b r, bs' = b :: r ∧ o = .inl (some (.ref b)))
set_option maxHeartbeats 1000000 in
set_option maxRecDepth 100000 in
theorem m_T_fh2 {gs : Int32} (hC20 : C ≤ 20) (hg01 : ∀ k, k < C → P 12 k = 0 ∨ P 12 k = 1) : ∀ (g t : Nat) (L : List rC) (bs sp Dr : List Nat) (c : cS) (u : uS), L.length ≤ g → clT E a B SS P N t0 tm ob T C cp c u n sl ks bs sp ps qs ms nk Z st → rcs u tm bs L → (∀ A ∈ L, A.1 < C ∧ ¬ A.1 ∈ Dr ∧ A.2.1.length < 1000) → L.length ≤ 80 → Dr.Nodup → (∀ k ∈ Dr, k < C) → t ≤ Dr.length → rFc c0 c → rFr u0 u n → (∀ y ∈ ks, xOf u y = xOf u0 y) → GT E Y_Tree_firstHeld (d + 4) G0 2 [(0, .ref (a + 12)), (1, .int (nI ks.length)), (2, .int gs), (3, .int (nI t))] [] (yW E G a c u n sl) (hlQ E G a B SS P N t0 tm ob T C cp c0 u0 n sl ks ps qs ms nk Z st (hDC P gs g L)) := by
  intro g
  induction g with
  | zero =>
    intro t L bs sp Dr c u hg hT hr hA h80 hdn hdc htD hF hR hxo
    obtain rfl : L = [] := List.length_eq_zero_iff.mp (by omega)
    have hb := rcs_len hr
    obtain rfl : bs = [] := List.length_eq_zero_iff.mp (by rw [hb]; rfl)
    have h13 := hT.1.1.2.2.2.2.2.2.1
    have h20 := nd_leN hdn hdc
    have hks := hT.2.2.2.2.2.2.2.2.2.1
    rw [List.append_nil] at h13
    refine g_iload_n d_Tree_firstHeld_2 rfl ?_
    refine g_bipush (v := 20) d_Tree_firstHeld_3 (by decide) ?_
    refine g_icmp_gt (tgt := 99) d_Tree_firstHeld_5 (by decide) (fun c_5 => ?_) (fun c_5 => ?_)
    · exact absurd c_5 (fun q => by have := (lt_hi (show (20 : Int32).toInt = ((20 : Nat) : Int) by decide) (nI_hi (by omega))).mp q; omega)
    refine g_aload_n d_Tree_firstHeld_8 rfl ?_
    refine x_get (k := 12) (j := 2) (v := .ref (a + 13)) kc_Tree fl_Tree_12 (by decide) (by decide) rfl rfl d_Tree_firstHeld_9 ?_
    refine c_Vr (as := []) kv_Rows_size ml_Tree_122 rfl (x_at (k := 13) (by decide) rfl) (m_S_size) rfl (Nat.le_of_ble_eq_true rfl) rfl d_Tree_firstHeld_12 rfl ?_
    rw [h13]
    refine g_iload_n d_Tree_firstHeld_15 rfl ?_
    refine g_icmp_le (tgt := 99) d_Tree_firstHeld_16 (by decide) (fun c_16 => ?_) (fun c_16 => ?_)
    rotate_left
    · exact absurd c_16 (fun q => q (Int32.le_refl _))
    refine g_null d_Tree_firstHeld_99 ?_
    refine g_aret rfl (by first | exact Or.inl ⟨_, rfl⟩ | exact Or.inr ⟨_, rfl⟩) (by first | exact Or.inl rfl | exact Or.inr ⟨_, rfl⟩) d_Tree_firstHeld_100 ?_
    exact ⟨c, u, [], sp, rfl, hT, hF, hR, hr, hxo, Or.inl ⟨rfl, rfl⟩⟩
  | succ g ih =>
    intro t L bs sp Dr c u hg hT hr hA h80 hdn hdc htD hF hR hxo
    have h13 := hT.1.1.2.2.2.2.2.2.1
    have h20 := nd_leN hdn hdc
    have hks := hT.2.2.2.2.2.2.2.2.2.1
    cases L with
    | nil =>
      have hb := rcs_len hr
      obtain rfl : bs = [] := List.length_eq_zero_iff.mp (by rw [hb]; rfl)
      rw [List.append_nil] at h13
      refine g_iload_n d_Tree_firstHeld_2 rfl ?_
      refine g_bipush (v := 20) d_Tree_firstHeld_3 (by decide) ?_
      refine g_icmp_gt (tgt := 99) d_Tree_firstHeld_5 (by decide) (fun c_5 => ?_) (fun c_5 => ?_)
      · exact absurd c_5 (fun q => by have := (lt_hi (show (20 : Int32).toInt = ((20 : Nat) : Int) by decide) (nI_hi (by omega))).mp q; omega)
      refine g_aload_n d_Tree_firstHeld_8 rfl ?_
      refine x_get (k := 12) (j := 2) (v := .ref (a + 13)) kc_Tree fl_Tree_12 (by decide) (by decide) rfl rfl d_Tree_firstHeld_9 ?_
      refine c_Vr (as := []) kv_Rows_size ml_Tree_122 rfl (x_at (k := 13) (by decide) rfl) (m_S_size) rfl (Nat.le_of_ble_eq_true rfl) rfl d_Tree_firstHeld_12 rfl ?_
      rw [h13]
      refine g_iload_n d_Tree_firstHeld_15 rfl ?_
      refine g_icmp_le (tgt := 99) d_Tree_firstHeld_16 (by decide) (fun c_16 => ?_) (fun c_16 => ?_)
      rotate_left
      · exact absurd c_16 (fun q => q (Int32.le_refl _))
      refine g_null d_Tree_firstHeld_99 ?_
      refine g_aret rfl (by first | exact Or.inl ⟨_, rfl⟩ | exact Or.inr ⟨_, rfl⟩) (by first | exact Or.inl rfl | exact Or.inr ⟨_, rfl⟩) d_Tree_firstHeld_100 ?_
      exact ⟨c, u, [], sp, rfl, hT, hF, hR, hr, hxo, Or.inl ⟨rfl, rfl⟩⟩
    | cons A Lr =>
      cases bs with
      | nil => exact hr.elim
      | cons b bs =>
        have hbl := rcs_len hr
        have hll : (ks ++ b :: bs).length = ks.length + (b :: bs).length := List.length_append
        have hlc : (b :: bs).length = bs.length + 1 := rfl
        have hrow := (hT.1.1.2.2.2.2.2.1 b (by simp)).1
        have hlo := hT.1.1.2.2.2.1
        have hi : ((ks ++ b :: bs) ++ sp)[ks.length]? = some b := by
          rw [List.append_assoc, List.cons_append]
          exact mid_at
        obtain ⟨ow, ws, bd⟩ := A
        obtain ⟨how, howD, hwl⟩ := hA _ List.mem_cons_self
        simp only at how howD hwl
        have h3 : u.2.2.1 b 3 = nI ow := hr.1.1
        have KH := m_T_has (E := E) (d := d + 3) (G := G) (c := c) (n := n) (sl := sl) hrow hr.1 hwl
        have hgd : c.2.1 3 ow = P 12 ow := (hT.2.2.1.2.1 ow how).1
        have KG := m_C_grd (E := E) (d := d + 3) (G := G) (a := a) (c := c) (u := u) (n := n) (sl := sl) (k := ow) (by omega) (by rw [hgd]; exact hg01 ow how)
        rw [hgd] at KG
        have fin : ¬ (ws = [] ∧ ¬ P 12 ow = 0 ∧ ¬ (gs >>> (nI ow &&& 31)) &&& 1 = 1) → hlQ E G a B SS P N t0 tm ob T C cp c0 u0 n sl ks ps qs ms nk Z st (hDC P gs (g + 1) ((ow, ws, bd) :: Lr)) (.inl (some (.ref b))) (yW E G a c u n sl) := fun hh => by
          have e : hDC P gs (g + 1) ((ow, ws, bd) :: Lr) = (ow, ws, bd) :: Lr := by
            simp only [hDC]
            rw [if_neg hh]
          rw [e]
          exact ⟨c, u, b :: bs, sp, rfl, hT, hF, hR, hr, hxo, Or.inr ⟨b, bs, rfl, rfl⟩⟩
        by_cases hhold : P 12 ow = 0 ∨ (gs >>> (nI ow &&& 31)) &&& 1 = 1
        · by_cases hg0 : P 12 ow = 0
          · by_cases hw0 : ws = []
            · refine g_iload_n d_Tree_firstHeld_2 rfl ?_
              refine g_bipush (v := 20) d_Tree_firstHeld_3 (by decide) ?_
              refine g_icmp_gt (tgt := 99) d_Tree_firstHeld_5 (by decide) (fun c_5 => ?_) (fun c_5 => ?_)
              · exact absurd c_5 (fun q => by have := (lt_hi (show (20 : Int32).toInt = ((20 : Nat) : Int) by decide) (nI_hi (by omega))).mp q; omega)
              refine g_aload_n d_Tree_firstHeld_8 rfl ?_
              refine x_get (k := 12) (j := 2) (v := .ref (a + 13)) kc_Tree fl_Tree_12 (by decide) (by decide) rfl rfl d_Tree_firstHeld_9 ?_
              refine c_Vr (as := []) kv_Rows_size ml_Tree_122 rfl (x_at (k := 13) (by decide) rfl) (m_S_size) rfl (Nat.le_of_ble_eq_true rfl) rfl d_Tree_firstHeld_12 rfl ?_
              rw [h13]
              refine g_iload_n d_Tree_firstHeld_15 rfl ?_
              refine g_icmp_le (tgt := 99) d_Tree_firstHeld_16 (by decide) (fun c_16 => ?_) (fun c_16 => ?_)
              · exact absurd c_16 (fun q => by have := (le_hi (nI_hi (by omega)) (nI_hi (by omega))).mp q; omega)
              refine g_aload_n d_Tree_firstHeld_19 rfl ?_
              refine x_get (k := 12) (j := 2) (v := .ref (a + 13)) kc_Tree fl_Tree_12 (by decide) (by decide) rfl rfl d_Tree_firstHeld_20 ?_
              refine g_iload_n d_Tree_firstHeld_23 rfl ?_
              refine c_Vr (as := [.int (nI ks.length)]) kv_Rows_rowAt ml_Tree_133 rfl (x_at (k := 13) (by decide) rfl) (m_S_rowAt hlo hi) rfl (Nat.le_of_ble_eq_true rfl) rfl d_Tree_firstHeld_24 rfl ?_
              refine g_astore d_Tree_firstHeld_27 (by decide) rfl ?_
              refine g_aload_n d_Tree_firstHeld_29 rfl ?_
              refine x_get (k := 12) (j := 1) (v := .ref (a + 5)) kc_Tree fl_Tree_43 (by decide) (by decide) rfl rfl d_Tree_firstHeld_30 ?_
              refine g_aload d_Tree_firstHeld_33 rfl ?_
              refine z_get (k := 1) (j := 3) (v := .int (u.2.2.1 b 3)) kc_Row fl_Tree_165 (by decide) hrow.1 (by decide) rfl rfl d_Tree_firstHeld_35 ?_
              rw [h3]
              refine c_Vr (as := [.int (nI ow)]) kv_Cases_isGuarded ml_Tree_168 rfl (x_at (k := 5) (by decide) rfl) (KG) rfl (Nat.le_of_ble_eq_true rfl) rfl d_Tree_firstHeld_38 rfl ?_
              refine g_if_eq (tgt := 57) d_Tree_firstHeld_41 (by decide) (fun c_41 => ?_) (fun c_41 => ?_)
              rotate_left
              · exact absurd c_41 (fun q => q hg0)
              refine g_iconst (v := 1) d_Tree_firstHeld_57 (by decide) ?_
              refine g_goto (tgt := 62) d_Tree_firstHeld_58 (by decide) ?_
              refine g_istore d_Tree_firstHeld_62 (by decide) rfl ?_
              refine g_aload d_Tree_firstHeld_64 rfl ?_
              refine c_Vr (as := []) kv_Row_hasWishes ml_Tree_158 rfl (z_at hrow.1 (by decide)) (KH) rfl (Nat.le_of_ble_eq_true rfl) rfl d_Tree_firstHeld_66 rfl ?_
              refine g_if_ne (tgt := 77) d_Tree_firstHeld_69 (by decide) (fun c_69 => ?_) (fun c_69 => ?_)
              · exact absurd c_69 (fun q => q (if_pos hw0))
              refine g_iload d_Tree_firstHeld_72 rfl ?_
              refine g_if_eq (tgt := 80) d_Tree_firstHeld_74 (by decide) (fun c_74 => absurd c_74 (by decide)) (fun c_74 => ?_)
              refine g_aload d_Tree_firstHeld_77 rfl ?_
              refine g_aret rfl (by first | exact Or.inl ⟨_, rfl⟩ | exact Or.inr ⟨_, rfl⟩) (by first | exact Or.inl rfl | exact Or.inr ⟨_, rfl⟩) d_Tree_firstHeld_79 ?_
              exact fin (fun z => z.2.1 hg0)
            · refine g_iload_n d_Tree_firstHeld_2 rfl ?_
              refine g_bipush (v := 20) d_Tree_firstHeld_3 (by decide) ?_
              refine g_icmp_gt (tgt := 99) d_Tree_firstHeld_5 (by decide) (fun c_5 => ?_) (fun c_5 => ?_)
              · exact absurd c_5 (fun q => by have := (lt_hi (show (20 : Int32).toInt = ((20 : Nat) : Int) by decide) (nI_hi (by omega))).mp q; omega)
              refine g_aload_n d_Tree_firstHeld_8 rfl ?_
              refine x_get (k := 12) (j := 2) (v := .ref (a + 13)) kc_Tree fl_Tree_12 (by decide) (by decide) rfl rfl d_Tree_firstHeld_9 ?_
              refine c_Vr (as := []) kv_Rows_size ml_Tree_122 rfl (x_at (k := 13) (by decide) rfl) (m_S_size) rfl (Nat.le_of_ble_eq_true rfl) rfl d_Tree_firstHeld_12 rfl ?_
              rw [h13]
              refine g_iload_n d_Tree_firstHeld_15 rfl ?_
              refine g_icmp_le (tgt := 99) d_Tree_firstHeld_16 (by decide) (fun c_16 => ?_) (fun c_16 => ?_)
              · exact absurd c_16 (fun q => by have := (le_hi (nI_hi (by omega)) (nI_hi (by omega))).mp q; omega)
              refine g_aload_n d_Tree_firstHeld_19 rfl ?_
              refine x_get (k := 12) (j := 2) (v := .ref (a + 13)) kc_Tree fl_Tree_12 (by decide) (by decide) rfl rfl d_Tree_firstHeld_20 ?_
              refine g_iload_n d_Tree_firstHeld_23 rfl ?_
              refine c_Vr (as := [.int (nI ks.length)]) kv_Rows_rowAt ml_Tree_133 rfl (x_at (k := 13) (by decide) rfl) (m_S_rowAt hlo hi) rfl (Nat.le_of_ble_eq_true rfl) rfl d_Tree_firstHeld_24 rfl ?_
              refine g_astore d_Tree_firstHeld_27 (by decide) rfl ?_
              refine g_aload_n d_Tree_firstHeld_29 rfl ?_
              refine x_get (k := 12) (j := 1) (v := .ref (a + 5)) kc_Tree fl_Tree_43 (by decide) (by decide) rfl rfl d_Tree_firstHeld_30 ?_
              refine g_aload d_Tree_firstHeld_33 rfl ?_
              refine z_get (k := 1) (j := 3) (v := .int (u.2.2.1 b 3)) kc_Row fl_Tree_165 (by decide) hrow.1 (by decide) rfl rfl d_Tree_firstHeld_35 ?_
              rw [h3]
              refine c_Vr (as := [.int (nI ow)]) kv_Cases_isGuarded ml_Tree_168 rfl (x_at (k := 5) (by decide) rfl) (KG) rfl (Nat.le_of_ble_eq_true rfl) rfl d_Tree_firstHeld_38 rfl ?_
              refine g_if_eq (tgt := 57) d_Tree_firstHeld_41 (by decide) (fun c_41 => ?_) (fun c_41 => ?_)
              rotate_left
              · exact absurd c_41 (fun q => q hg0)
              refine g_iconst (v := 1) d_Tree_firstHeld_57 (by decide) ?_
              refine g_goto (tgt := 62) d_Tree_firstHeld_58 (by decide) ?_
              refine g_istore d_Tree_firstHeld_62 (by decide) rfl ?_
              refine g_aload d_Tree_firstHeld_64 rfl ?_
              refine c_Vr (as := []) kv_Row_hasWishes ml_Tree_158 rfl (z_at hrow.1 (by decide)) (KH) rfl (Nat.le_of_ble_eq_true rfl) rfl d_Tree_firstHeld_66 rfl ?_
              refine g_if_ne (tgt := 77) d_Tree_firstHeld_69 (by decide) (fun c_69 => ?_) (fun c_69 => ?_)
              rotate_left
              · exact absurd c_69 (by rw [if_neg hw0]; decide)
              refine g_aload d_Tree_firstHeld_77 rfl ?_
              refine g_aret rfl (by first | exact Or.inl ⟨_, rfl⟩ | exact Or.inr ⟨_, rfl⟩) (by first | exact Or.inl rfl | exact Or.inr ⟨_, rfl⟩) d_Tree_firstHeld_79 ?_
              exact fin (fun z => z.2.1 hg0)
          · have hbit := hhold.resolve_left hg0
            by_cases hw0 : ws = []
            · refine g_iload_n d_Tree_firstHeld_2 rfl ?_
              refine g_bipush (v := 20) d_Tree_firstHeld_3 (by decide) ?_
              refine g_icmp_gt (tgt := 99) d_Tree_firstHeld_5 (by decide) (fun c_5 => ?_) (fun c_5 => ?_)
              · exact absurd c_5 (fun q => by have := (lt_hi (show (20 : Int32).toInt = ((20 : Nat) : Int) by decide) (nI_hi (by omega))).mp q; omega)
              refine g_aload_n d_Tree_firstHeld_8 rfl ?_
              refine x_get (k := 12) (j := 2) (v := .ref (a + 13)) kc_Tree fl_Tree_12 (by decide) (by decide) rfl rfl d_Tree_firstHeld_9 ?_
              refine c_Vr (as := []) kv_Rows_size ml_Tree_122 rfl (x_at (k := 13) (by decide) rfl) (m_S_size) rfl (Nat.le_of_ble_eq_true rfl) rfl d_Tree_firstHeld_12 rfl ?_
              rw [h13]
              refine g_iload_n d_Tree_firstHeld_15 rfl ?_
              refine g_icmp_le (tgt := 99) d_Tree_firstHeld_16 (by decide) (fun c_16 => ?_) (fun c_16 => ?_)
              · exact absurd c_16 (fun q => by have := (le_hi (nI_hi (by omega)) (nI_hi (by omega))).mp q; omega)
              refine g_aload_n d_Tree_firstHeld_19 rfl ?_
              refine x_get (k := 12) (j := 2) (v := .ref (a + 13)) kc_Tree fl_Tree_12 (by decide) (by decide) rfl rfl d_Tree_firstHeld_20 ?_
              refine g_iload_n d_Tree_firstHeld_23 rfl ?_
              refine c_Vr (as := [.int (nI ks.length)]) kv_Rows_rowAt ml_Tree_133 rfl (x_at (k := 13) (by decide) rfl) (m_S_rowAt hlo hi) rfl (Nat.le_of_ble_eq_true rfl) rfl d_Tree_firstHeld_24 rfl ?_
              refine g_astore d_Tree_firstHeld_27 (by decide) rfl ?_
              refine g_aload_n d_Tree_firstHeld_29 rfl ?_
              refine x_get (k := 12) (j := 1) (v := .ref (a + 5)) kc_Tree fl_Tree_43 (by decide) (by decide) rfl rfl d_Tree_firstHeld_30 ?_
              refine g_aload d_Tree_firstHeld_33 rfl ?_
              refine z_get (k := 1) (j := 3) (v := .int (u.2.2.1 b 3)) kc_Row fl_Tree_165 (by decide) hrow.1 (by decide) rfl rfl d_Tree_firstHeld_35 ?_
              rw [h3]
              refine c_Vr (as := [.int (nI ow)]) kv_Cases_isGuarded ml_Tree_168 rfl (x_at (k := 5) (by decide) rfl) (KG) rfl (Nat.le_of_ble_eq_true rfl) rfl d_Tree_firstHeld_38 rfl ?_
              refine g_if_eq (tgt := 57) d_Tree_firstHeld_41 (by decide) (fun c_41 => ?_) (fun c_41 => ?_)
              · exact absurd c_41 hg0
              refine g_iload_n d_Tree_firstHeld_44 rfl ?_
              refine g_aload d_Tree_firstHeld_45 rfl ?_
              refine z_get (k := 1) (j := 3) (v := .int (u.2.2.1 b 3)) kc_Row fl_Tree_165 (by decide) hrow.1 (by decide) rfl rfl d_Tree_firstHeld_47 ?_
              rw [h3]
              refine g_ishr d_Tree_firstHeld_50 ?_
              refine g_iconst (v := 1) d_Tree_firstHeld_51 (by decide) ?_
              refine g_iand d_Tree_firstHeld_52 ?_
              refine g_iconst (v := 1) d_Tree_firstHeld_53 (by decide) ?_
              refine g_icmp_ne (tgt := 61) d_Tree_firstHeld_54 (by decide) (fun c_54 => ?_) (fun c_54 => ?_)
              · exact absurd c_54 (fun q => q hbit)
              refine g_iconst (v := 1) d_Tree_firstHeld_57 (by decide) ?_
              refine g_goto (tgt := 62) d_Tree_firstHeld_58 (by decide) ?_
              refine g_istore d_Tree_firstHeld_62 (by decide) rfl ?_
              refine g_aload d_Tree_firstHeld_64 rfl ?_
              refine c_Vr (as := []) kv_Row_hasWishes ml_Tree_158 rfl (z_at hrow.1 (by decide)) (KH) rfl (Nat.le_of_ble_eq_true rfl) rfl d_Tree_firstHeld_66 rfl ?_
              refine g_if_ne (tgt := 77) d_Tree_firstHeld_69 (by decide) (fun c_69 => ?_) (fun c_69 => ?_)
              · exact absurd c_69 (fun q => q (if_pos hw0))
              refine g_iload d_Tree_firstHeld_72 rfl ?_
              refine g_if_eq (tgt := 80) d_Tree_firstHeld_74 (by decide) (fun c_74 => absurd c_74 (by decide)) (fun c_74 => ?_)
              refine g_aload d_Tree_firstHeld_77 rfl ?_
              refine g_aret rfl (by first | exact Or.inl ⟨_, rfl⟩ | exact Or.inr ⟨_, rfl⟩) (by first | exact Or.inl rfl | exact Or.inr ⟨_, rfl⟩) d_Tree_firstHeld_79 ?_
              exact fin (fun z => z.2.2 hbit)
            · refine g_iload_n d_Tree_firstHeld_2 rfl ?_
              refine g_bipush (v := 20) d_Tree_firstHeld_3 (by decide) ?_
              refine g_icmp_gt (tgt := 99) d_Tree_firstHeld_5 (by decide) (fun c_5 => ?_) (fun c_5 => ?_)
              · exact absurd c_5 (fun q => by have := (lt_hi (show (20 : Int32).toInt = ((20 : Nat) : Int) by decide) (nI_hi (by omega))).mp q; omega)
              refine g_aload_n d_Tree_firstHeld_8 rfl ?_
              refine x_get (k := 12) (j := 2) (v := .ref (a + 13)) kc_Tree fl_Tree_12 (by decide) (by decide) rfl rfl d_Tree_firstHeld_9 ?_
              refine c_Vr (as := []) kv_Rows_size ml_Tree_122 rfl (x_at (k := 13) (by decide) rfl) (m_S_size) rfl (Nat.le_of_ble_eq_true rfl) rfl d_Tree_firstHeld_12 rfl ?_
              rw [h13]
              refine g_iload_n d_Tree_firstHeld_15 rfl ?_
              refine g_icmp_le (tgt := 99) d_Tree_firstHeld_16 (by decide) (fun c_16 => ?_) (fun c_16 => ?_)
              · exact absurd c_16 (fun q => by have := (le_hi (nI_hi (by omega)) (nI_hi (by omega))).mp q; omega)
              refine g_aload_n d_Tree_firstHeld_19 rfl ?_
              refine x_get (k := 12) (j := 2) (v := .ref (a + 13)) kc_Tree fl_Tree_12 (by decide) (by decide) rfl rfl d_Tree_firstHeld_20 ?_
              refine g_iload_n d_Tree_firstHeld_23 rfl ?_
              refine c_Vr (as := [.int (nI ks.length)]) kv_Rows_rowAt ml_Tree_133 rfl (x_at (k := 13) (by decide) rfl) (m_S_rowAt hlo hi) rfl (Nat.le_of_ble_eq_true rfl) rfl d_Tree_firstHeld_24 rfl ?_
              refine g_astore d_Tree_firstHeld_27 (by decide) rfl ?_
              refine g_aload_n d_Tree_firstHeld_29 rfl ?_
              refine x_get (k := 12) (j := 1) (v := .ref (a + 5)) kc_Tree fl_Tree_43 (by decide) (by decide) rfl rfl d_Tree_firstHeld_30 ?_
              refine g_aload d_Tree_firstHeld_33 rfl ?_
              refine z_get (k := 1) (j := 3) (v := .int (u.2.2.1 b 3)) kc_Row fl_Tree_165 (by decide) hrow.1 (by decide) rfl rfl d_Tree_firstHeld_35 ?_
              rw [h3]
              refine c_Vr (as := [.int (nI ow)]) kv_Cases_isGuarded ml_Tree_168 rfl (x_at (k := 5) (by decide) rfl) (KG) rfl (Nat.le_of_ble_eq_true rfl) rfl d_Tree_firstHeld_38 rfl ?_
              refine g_if_eq (tgt := 57) d_Tree_firstHeld_41 (by decide) (fun c_41 => ?_) (fun c_41 => ?_)
              · exact absurd c_41 hg0
              refine g_iload_n d_Tree_firstHeld_44 rfl ?_
              refine g_aload d_Tree_firstHeld_45 rfl ?_
              refine z_get (k := 1) (j := 3) (v := .int (u.2.2.1 b 3)) kc_Row fl_Tree_165 (by decide) hrow.1 (by decide) rfl rfl d_Tree_firstHeld_47 ?_
              rw [h3]
              refine g_ishr d_Tree_firstHeld_50 ?_
              refine g_iconst (v := 1) d_Tree_firstHeld_51 (by decide) ?_
              refine g_iand d_Tree_firstHeld_52 ?_
              refine g_iconst (v := 1) d_Tree_firstHeld_53 (by decide) ?_
              refine g_icmp_ne (tgt := 61) d_Tree_firstHeld_54 (by decide) (fun c_54 => ?_) (fun c_54 => ?_)
              · exact absurd c_54 (fun q => q hbit)
              refine g_iconst (v := 1) d_Tree_firstHeld_57 (by decide) ?_
              refine g_goto (tgt := 62) d_Tree_firstHeld_58 (by decide) ?_
              refine g_istore d_Tree_firstHeld_62 (by decide) rfl ?_
              refine g_aload d_Tree_firstHeld_64 rfl ?_
              refine c_Vr (as := []) kv_Row_hasWishes ml_Tree_158 rfl (z_at hrow.1 (by decide)) (KH) rfl (Nat.le_of_ble_eq_true rfl) rfl d_Tree_firstHeld_66 rfl ?_
              refine g_if_ne (tgt := 77) d_Tree_firstHeld_69 (by decide) (fun c_69 => ?_) (fun c_69 => ?_)
              rotate_left
              · exact absurd c_69 (by rw [if_neg hw0]; decide)
              refine g_aload d_Tree_firstHeld_77 rfl ?_
              refine g_aret rfl (by first | exact Or.inl ⟨_, rfl⟩ | exact Or.inr ⟨_, rfl⟩) (by first | exact Or.inl rfl | exact Or.inr ⟨_, rfl⟩) d_Tree_firstHeld_79 ?_
              exact fin (fun z => z.2.2 hbit)
        · have hg0 : ¬ P 12 ow = 0 := fun z => hhold (Or.inl z)
          have hbit : ¬ (gs >>> (nI ow &&& 31)) &&& 1 = 1 := fun z => hhold (Or.inr z)
          by_cases hw0 : ws = []
          · have KO := m_S_leaveOut (E := E) (d := d) (G := G) (c := c) (n := n) (sl := sl) (tm := tm) (l0 := ks) (ow := ow) hT.1.1 hr (by omega) (fun A hA' => by have := (hA A hA').1; omega)
            refine g_iload_n d_Tree_firstHeld_2 rfl ?_
            refine g_bipush (v := 20) d_Tree_firstHeld_3 (by decide) ?_
            refine g_icmp_gt (tgt := 99) d_Tree_firstHeld_5 (by decide) (fun c_5 => ?_) (fun c_5 => ?_)
            · exact absurd c_5 (fun q => by have := (lt_hi (show (20 : Int32).toInt = ((20 : Nat) : Int) by decide) (nI_hi (by omega))).mp q; omega)
            refine g_aload_n d_Tree_firstHeld_8 rfl ?_
            refine x_get (k := 12) (j := 2) (v := .ref (a + 13)) kc_Tree fl_Tree_12 (by decide) (by decide) rfl rfl d_Tree_firstHeld_9 ?_
            refine c_Vr (as := []) kv_Rows_size ml_Tree_122 rfl (x_at (k := 13) (by decide) rfl) (m_S_size) rfl (Nat.le_of_ble_eq_true rfl) rfl d_Tree_firstHeld_12 rfl ?_
            rw [h13]
            refine g_iload_n d_Tree_firstHeld_15 rfl ?_
            refine g_icmp_le (tgt := 99) d_Tree_firstHeld_16 (by decide) (fun c_16 => ?_) (fun c_16 => ?_)
            · exact absurd c_16 (fun q => by have := (le_hi (nI_hi (by omega)) (nI_hi (by omega))).mp q; omega)
            refine g_aload_n d_Tree_firstHeld_19 rfl ?_
            refine x_get (k := 12) (j := 2) (v := .ref (a + 13)) kc_Tree fl_Tree_12 (by decide) (by decide) rfl rfl d_Tree_firstHeld_20 ?_
            refine g_iload_n d_Tree_firstHeld_23 rfl ?_
            refine c_Vr (as := [.int (nI ks.length)]) kv_Rows_rowAt ml_Tree_133 rfl (x_at (k := 13) (by decide) rfl) (m_S_rowAt hlo hi) rfl (Nat.le_of_ble_eq_true rfl) rfl d_Tree_firstHeld_24 rfl ?_
            refine g_astore d_Tree_firstHeld_27 (by decide) rfl ?_
            refine g_aload_n d_Tree_firstHeld_29 rfl ?_
            refine x_get (k := 12) (j := 1) (v := .ref (a + 5)) kc_Tree fl_Tree_43 (by decide) (by decide) rfl rfl d_Tree_firstHeld_30 ?_
            refine g_aload d_Tree_firstHeld_33 rfl ?_
            refine z_get (k := 1) (j := 3) (v := .int (u.2.2.1 b 3)) kc_Row fl_Tree_165 (by decide) hrow.1 (by decide) rfl rfl d_Tree_firstHeld_35 ?_
            rw [h3]
            refine c_Vr (as := [.int (nI ow)]) kv_Cases_isGuarded ml_Tree_168 rfl (x_at (k := 5) (by decide) rfl) (KG) rfl (Nat.le_of_ble_eq_true rfl) rfl d_Tree_firstHeld_38 rfl ?_
            refine g_if_eq (tgt := 57) d_Tree_firstHeld_41 (by decide) (fun c_41 => ?_) (fun c_41 => ?_)
            · exact absurd c_41 hg0
            refine g_iload_n d_Tree_firstHeld_44 rfl ?_
            refine g_aload d_Tree_firstHeld_45 rfl ?_
            refine z_get (k := 1) (j := 3) (v := .int (u.2.2.1 b 3)) kc_Row fl_Tree_165 (by decide) hrow.1 (by decide) rfl rfl d_Tree_firstHeld_47 ?_
            rw [h3]
            refine g_ishr d_Tree_firstHeld_50 ?_
            refine g_iconst (v := 1) d_Tree_firstHeld_51 (by decide) ?_
            refine g_iand d_Tree_firstHeld_52 ?_
            refine g_iconst (v := 1) d_Tree_firstHeld_53 (by decide) ?_
            refine g_icmp_ne (tgt := 61) d_Tree_firstHeld_54 (by decide) (fun c_54 => ?_) (fun c_54 => ?_)
            rotate_left
            · exact absurd c_54 (fun q => hbit q)
            refine g_iconst (v := 0) d_Tree_firstHeld_61 (by decide) ?_
            refine g_istore d_Tree_firstHeld_62 (by decide) rfl ?_
            refine g_aload d_Tree_firstHeld_64 rfl ?_
            refine c_Vr (as := []) kv_Row_hasWishes ml_Tree_158 rfl (z_at hrow.1 (by decide)) (KH) rfl (Nat.le_of_ble_eq_true rfl) rfl d_Tree_firstHeld_66 rfl ?_
            refine g_if_ne (tgt := 77) d_Tree_firstHeld_69 (by decide) (fun c_69 => ?_) (fun c_69 => ?_)
            · exact absurd c_69 (fun q => q (if_pos hw0))
            refine g_iload d_Tree_firstHeld_72 rfl ?_
            refine g_if_eq (tgt := 80) d_Tree_firstHeld_74 (by decide) (fun c_74 => ?_) (fun c_74 => absurd c_74 (by decide))
            refine g_aload_n d_Tree_firstHeld_80 rfl ?_
            refine x_get (k := 12) (j := 2) (v := .ref (a + 13)) kc_Tree fl_Tree_12 (by decide) (by decide) rfl rfl d_Tree_firstHeld_81 ?_
            refine g_iload_n d_Tree_firstHeld_84 rfl ?_
            refine g_aload d_Tree_firstHeld_85 rfl ?_
            refine z_get (k := 1) (j := 3) (v := .int (u.2.2.1 b 3)) kc_Row fl_Tree_165 (by decide) hrow.1 (by decide) rfl rfl d_Tree_firstHeld_87 ?_
            rw [h3]
            refine c_V (as := [.int (nI ks.length), .int (nI ow)]) kv_Rows_leaveOut ml_Tree_174 rfl (x_at (k := 13) (by decide) rfl) (KO) rfl (Nat.le_of_ble_eq_true rfl) rfl d_Tree_firstHeld_90 (fun v_90 G_90 h_90 => ?_) (fun D_90 G_90 h_90 => by obtain ⟨h, -⟩ := h_90; cases h)
            obtain ⟨ho, u1, sp1, ks1, rfl, rw1, fr1, kx1, hc1⟩ := h_90
            cases ho
            refine g_iinc (v := nI (t + 1)) d_Tree_firstHeld_93 rfl (nI_1 t) (by decide) rfl ?_
            refine g_goto (tgt := 2) d_Tree_firstHeld_96 (by decide) ?_
            refine g_weak (lv' := [(0, .ref (a + 12)), (1, .int (nI ks.length)), (2, .int gs), (3, .int (nI (t + 1)))]) (fun q hq => List.mem_append_left _ hq) (by simp) ?_
            have hp2 := hpOk_rows hT.1 rw1 rFc_13 fr1 (Nat.le_refl n)
            have hT2 := clT_rows (bs' := ks1) hT hp2 rFc_13 fr1 (Nat.le_refl n) (fun y hy => kx1 y (List.mem_append_left _ hy))
            have hol : (oC ow ((ow, ws, bd) :: Lr)).length ≤ Lr.length := by
              have : oC ow ((ow, ws, bd) :: Lr) = oC ow Lr := by simp [oC]
              rw [this]
              exact List.length_filter_le _ _
            simp only [List.length_cons] at hg h80
            have e : hDC P gs (g + 1) ((ow, ws, bd) :: Lr) = hDC P gs g (oC ow ((ow, ws, bd) :: Lr)) := by
              simp only [hDC]
              rw [if_pos ⟨hw0, hg0, hbit⟩]
            rw [e]
            refine ih (t + 1) (oC ow ((ow, ws, bd) :: Lr)) ks1 sp1 (ow :: Dr) _ u1 (by omega) hT2 hc1 (fun A hA' => ?_) (by omega) (List.nodup_cons.mpr ⟨howD, hdn⟩) (fun k hk => ?_) (by simp only [List.length_cons]; omega) (rFc_tr hF rFc_13) (rFr_tr hR fr1 (Nat.le_refl _)) (fun y hy => (kx1 y (List.mem_append_left _ hy)).trans (hxo y hy))
            · obtain ⟨m1, m2⟩ := List.mem_filter.mp hA'
              obtain ⟨z1, z2, z3⟩ := hA A m1
              refine ⟨z1, fun hm => ?_, z3⟩
              rcases List.mem_cons.mp hm with e | e
              · simp [e] at m2
              · exact z2 e
            · rcases List.mem_cons.mp hk with rfl | hk
              · exact how
              · exact hdc k hk
          · refine g_iload_n d_Tree_firstHeld_2 rfl ?_
            refine g_bipush (v := 20) d_Tree_firstHeld_3 (by decide) ?_
            refine g_icmp_gt (tgt := 99) d_Tree_firstHeld_5 (by decide) (fun c_5 => ?_) (fun c_5 => ?_)
            · exact absurd c_5 (fun q => by have := (lt_hi (show (20 : Int32).toInt = ((20 : Nat) : Int) by decide) (nI_hi (by omega))).mp q; omega)
            refine g_aload_n d_Tree_firstHeld_8 rfl ?_
            refine x_get (k := 12) (j := 2) (v := .ref (a + 13)) kc_Tree fl_Tree_12 (by decide) (by decide) rfl rfl d_Tree_firstHeld_9 ?_
            refine c_Vr (as := []) kv_Rows_size ml_Tree_122 rfl (x_at (k := 13) (by decide) rfl) (m_S_size) rfl (Nat.le_of_ble_eq_true rfl) rfl d_Tree_firstHeld_12 rfl ?_
            rw [h13]
            refine g_iload_n d_Tree_firstHeld_15 rfl ?_
            refine g_icmp_le (tgt := 99) d_Tree_firstHeld_16 (by decide) (fun c_16 => ?_) (fun c_16 => ?_)
            · exact absurd c_16 (fun q => by have := (le_hi (nI_hi (by omega)) (nI_hi (by omega))).mp q; omega)
            refine g_aload_n d_Tree_firstHeld_19 rfl ?_
            refine x_get (k := 12) (j := 2) (v := .ref (a + 13)) kc_Tree fl_Tree_12 (by decide) (by decide) rfl rfl d_Tree_firstHeld_20 ?_
            refine g_iload_n d_Tree_firstHeld_23 rfl ?_
            refine c_Vr (as := [.int (nI ks.length)]) kv_Rows_rowAt ml_Tree_133 rfl (x_at (k := 13) (by decide) rfl) (m_S_rowAt hlo hi) rfl (Nat.le_of_ble_eq_true rfl) rfl d_Tree_firstHeld_24 rfl ?_
            refine g_astore d_Tree_firstHeld_27 (by decide) rfl ?_
            refine g_aload_n d_Tree_firstHeld_29 rfl ?_
            refine x_get (k := 12) (j := 1) (v := .ref (a + 5)) kc_Tree fl_Tree_43 (by decide) (by decide) rfl rfl d_Tree_firstHeld_30 ?_
            refine g_aload d_Tree_firstHeld_33 rfl ?_
            refine z_get (k := 1) (j := 3) (v := .int (u.2.2.1 b 3)) kc_Row fl_Tree_165 (by decide) hrow.1 (by decide) rfl rfl d_Tree_firstHeld_35 ?_
            rw [h3]
            refine c_Vr (as := [.int (nI ow)]) kv_Cases_isGuarded ml_Tree_168 rfl (x_at (k := 5) (by decide) rfl) (KG) rfl (Nat.le_of_ble_eq_true rfl) rfl d_Tree_firstHeld_38 rfl ?_
            refine g_if_eq (tgt := 57) d_Tree_firstHeld_41 (by decide) (fun c_41 => ?_) (fun c_41 => ?_)
            · exact absurd c_41 hg0
            refine g_iload_n d_Tree_firstHeld_44 rfl ?_
            refine g_aload d_Tree_firstHeld_45 rfl ?_
            refine z_get (k := 1) (j := 3) (v := .int (u.2.2.1 b 3)) kc_Row fl_Tree_165 (by decide) hrow.1 (by decide) rfl rfl d_Tree_firstHeld_47 ?_
            rw [h3]
            refine g_ishr d_Tree_firstHeld_50 ?_
            refine g_iconst (v := 1) d_Tree_firstHeld_51 (by decide) ?_
            refine g_iand d_Tree_firstHeld_52 ?_
            refine g_iconst (v := 1) d_Tree_firstHeld_53 (by decide) ?_
            refine g_icmp_ne (tgt := 61) d_Tree_firstHeld_54 (by decide) (fun c_54 => ?_) (fun c_54 => ?_)
            rotate_left
            · exact absurd c_54 (fun q => hbit q)
            refine g_iconst (v := 0) d_Tree_firstHeld_61 (by decide) ?_
            refine g_istore d_Tree_firstHeld_62 (by decide) rfl ?_
            refine g_aload d_Tree_firstHeld_64 rfl ?_
            refine c_Vr (as := []) kv_Row_hasWishes ml_Tree_158 rfl (z_at hrow.1 (by decide)) (KH) rfl (Nat.le_of_ble_eq_true rfl) rfl d_Tree_firstHeld_66 rfl ?_
            refine g_if_ne (tgt := 77) d_Tree_firstHeld_69 (by decide) (fun c_69 => ?_) (fun c_69 => ?_)
            rotate_left
            · exact absurd c_69 (by rw [if_neg hw0]; decide)
            refine g_aload d_Tree_firstHeld_77 rfl ?_
            refine g_aret rfl (by first | exact Or.inl ⟨_, rfl⟩ | exact Or.inr ⟨_, rfl⟩) (by first | exact Or.inl rfl | exact Or.inr ⟨_, rfl⟩) d_Tree_firstHeld_79 ?_
            exact fin (fun z => hw0 z.1)
set_option maxHeartbeats 400000 in
set_option maxRecDepth 100000 in
theorem m_T_held {gs : Int32} {L : List rC} (hC20 : C ≤ 20) (hg01 : ∀ k, k < C → P 12 k = 0 ∨ P 12 k = 1) (hT : clT E a B SS P N t0 tm ob T C cp c u n sl ks bs sp ps qs ms nk Z st) (hr : rcs u tm bs L) (hA : ∀ A ∈ L, A.1 < C ∧ A.2.1.length < 1000) (h80 : L.length ≤ 80) : GM E Y_Tree_firstHeld (d + 4) [.ref (a + 12), .int (nI ks.length), .int gs] (yW E G a c u n sl) (hlQ E G a B SS P N t0 tm ob T C cp c u n sl ks ps qs ms nk Z st (hDC P gs L.length L)) := by
  refine g_entry (by decide) (by simp [Value.category]) (Nat.le_of_ble_eq_true rfl) ?_
  refine g_iconst (v := 0) d_Tree_firstHeld_0 (by decide) ?_
  refine g_istore_n d_Tree_firstHeld_1 (by decide) rfl ?_
  exact m_T_fh2 hC20 hg01 L.length 0 L bs sp [] c u (Nat.le_refl _) hT hr (fun A hA' => ⟨(hA A hA').1, by simp, (hA A hA').2⟩) h80 List.nodup_nil (fun k hk => by cases hk) (Nat.zero_le _) rFc_rf rFr_rf (fun _ _ => rfl)
end CT
