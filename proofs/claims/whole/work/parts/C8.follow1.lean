/-! Tree.arityBehind; plant's contract; pieces of follow -/
theorem d_Tree_arityBehind_0 : decode Y_Tree_arityBehind.2.1 0 = .ok (.aload_n 0, 1) := by decide +kernel
theorem d_Tree_arityBehind_1 : decode Y_Tree_arityBehind.2.1 1 = .ok (.getfield 12, 3) := by decide +kernel
theorem d_Tree_arityBehind_4 : decode Y_Tree_arityBehind.2.1 4 = .ok (.aload_n 1, 1) := by decide +kernel
theorem d_Tree_arityBehind_5 : decode Y_Tree_arityBehind.2.1 5 = .ok (.getfield 130, 3) := by decide +kernel
theorem d_Tree_arityBehind_8 : decode Y_Tree_arityBehind.2.1 8 = .ok (.invokevirtual 133, 3) := by decide +kernel
theorem d_Tree_arityBehind_11 : decode Y_Tree_arityBehind.2.1 11 = .ok (.astore_n 3, 1) := by decide +kernel
theorem d_Tree_arityBehind_12 : decode Y_Tree_arityBehind.2.1 12 = .ok (.aload_n 1, 1) := by decide +kernel
theorem d_Tree_arityBehind_13 : decode Y_Tree_arityBehind.2.1 13 = .ok (.getfield 137, 3) := by decide +kernel
theorem d_Tree_arityBehind_16 : decode Y_Tree_arityBehind.2.1 16 = .ok (.ifCond .eq 7, 3) := by decide +kernel
theorem d_Tree_arityBehind_19 : decode Y_Tree_arityBehind.2.1 19 = .ok (.iconst 0, 1) := by decide +kernel
theorem d_Tree_arityBehind_20 : decode Y_Tree_arityBehind.2.1 20 = .ok (.goto 20, 3) := by decide +kernel
theorem d_Tree_arityBehind_23 : decode Y_Tree_arityBehind.2.1 23 = .ok (.aload_n 0, 1) := by decide +kernel
theorem d_Tree_arityBehind_24 : decode Y_Tree_arityBehind.2.1 24 = .ok (.getfield 39, 3) := by decide +kernel
theorem d_Tree_arityBehind_27 : decode Y_Tree_arityBehind.2.1 27 = .ok (.aload_n 3, 1) := by decide +kernel
theorem d_Tree_arityBehind_28 : decode Y_Tree_arityBehind.2.1 28 = .ok (.getfield 141, 3) := by decide +kernel
theorem d_Tree_arityBehind_31 : decode Y_Tree_arityBehind.2.1 31 = .ok (.iconst 0, 1) := by decide +kernel
theorem d_Tree_arityBehind_32 : decode Y_Tree_arityBehind.2.1 32 = .ok (.aaload, 1) := by decide +kernel
theorem d_Tree_arityBehind_33 : decode Y_Tree_arityBehind.2.1 33 = .ok (.getfield 147, 3) := by decide +kernel
theorem d_Tree_arityBehind_36 : decode Y_Tree_arityBehind.2.1 36 = .ok (.iload_n 2, 1) := by decide +kernel
theorem d_Tree_arityBehind_37 : decode Y_Tree_arityBehind.2.1 37 = .ok (.invokevirtual 152, 3) := by decide +kernel
theorem d_Tree_arityBehind_40 : decode Y_Tree_arityBehind.2.1 40 = .ok (.ireturn, 1) := by decide +kernel
theorem d_Tree_follow_0 : decode Y_Tree_follow.2.1 0 = .ok (.aload_n 2, 1) := by decide +kernel
theorem d_Tree_follow_1 : decode Y_Tree_follow.2.1 1 = .ok (.getfield 69, 3) := by decide +kernel
theorem d_Tree_follow_4 : decode Y_Tree_follow.2.1 4 = .ok (.istore_n 3, 1) := by decide +kernel
theorem d_Tree_follow_5 : decode Y_Tree_follow.2.1 5 = .ok (.aload_n 2, 1) := by decide +kernel
theorem d_Tree_follow_6 : decode Y_Tree_follow.2.1 6 = .ok (.dup, 1) := by decide +kernel
theorem d_Tree_follow_7 : decode Y_Tree_follow.2.1 7 = .ok (.getfield 69, 3) := by decide +kernel
theorem d_Tree_follow_10 : decode Y_Tree_follow.2.1 10 = .ok (.iconst 1, 1) := by decide +kernel
theorem d_Tree_follow_11 : decode Y_Tree_follow.2.1 11 = .ok (.iadd, 1) := by decide +kernel
theorem d_Tree_follow_12 : decode Y_Tree_follow.2.1 12 = .ok (.putfield 69, 3) := by decide +kernel
theorem d_Tree_follow_15 : decode Y_Tree_follow.2.1 15 = .ok (.aload_n 0, 1) := by decide +kernel
theorem d_Tree_follow_16 : decode Y_Tree_follow.2.1 16 = .ok (.aload_n 2, 1) := by decide +kernel
theorem d_Tree_follow_17 : decode Y_Tree_follow.2.1 17 = .ok (.iload_n 3, 1) := by decide +kernel
theorem d_Tree_follow_18 : decode Y_Tree_follow.2.1 18 = .ok (.invokevirtual 111, 3) := by decide +kernel
theorem d_Tree_follow_21 : decode Y_Tree_follow.2.1 21 = .ok (.istore 4, 2) := by decide +kernel
theorem d_Tree_follow_23 : decode Y_Tree_follow.2.1 23 = .ok (.aload_n 0, 1) := by decide +kernel
theorem d_Tree_follow_24 : decode Y_Tree_follow.2.1 24 = .ok (.getfield 21, 3) := by decide +kernel
theorem d_Tree_follow_27 : decode Y_Tree_follow.2.1 27 = .ok (.aload_n 2, 1) := by decide +kernel
theorem d_Tree_follow_28 : decode Y_Tree_follow.2.1 28 = .ok (.iload 4, 2) := by decide +kernel
theorem d_Tree_follow_30 : decode Y_Tree_follow.2.1 30 = .ok (.aload_n 0, 1) := by decide +kernel
theorem d_Tree_follow_31 : decode Y_Tree_follow.2.1 31 = .ok (.aload_n 2, 1) := by decide +kernel
theorem d_Tree_follow_32 : decode Y_Tree_follow.2.1 32 = .ok (.iload_n 3, 1) := by decide +kernel
theorem d_Tree_follow_33 : decode Y_Tree_follow.2.1 33 = .ok (.invokevirtual 115, 3) := by decide +kernel
theorem d_Tree_follow_36 : decode Y_Tree_follow.2.1 36 = .ok (.invokevirtual 118, 3) := by decide +kernel
theorem d_Tree_follow_39 : decode Y_Tree_follow.2.1 39 = .ok (.aload_n 0, 1) := by decide +kernel
theorem d_Tree_follow_40 : decode Y_Tree_follow.2.1 40 = .ok (.getfield 12, 3) := by decide +kernel
theorem d_Tree_follow_43 : decode Y_Tree_follow.2.1 43 = .ok (.invokevirtual 122, 3) := by decide +kernel
theorem d_Tree_follow_46 : decode Y_Tree_follow.2.1 46 = .ok (.istore 5, 2) := by decide +kernel
theorem d_Tree_follow_48 : decode Y_Tree_follow.2.1 48 = .ok (.aload_n 0, 1) := by decide +kernel
theorem d_Tree_follow_49 : decode Y_Tree_follow.2.1 49 = .ok (.getfield 12, 3) := by decide +kernel
theorem d_Tree_follow_52 : decode Y_Tree_follow.2.1 52 = .ok (.aload_n 2, 1) := by decide +kernel
theorem d_Tree_follow_53 : decode Y_Tree_follow.2.1 53 = .ok (.iload 4, 2) := by decide +kernel
theorem d_Tree_follow_55 : decode Y_Tree_follow.2.1 55 = .ok (.invokevirtual 126, 3) := by decide +kernel
theorem d_Tree_follow_58 : decode Y_Tree_follow.2.1 58 = .ok (.ifCond .eq 18, 3) := by decide +kernel
theorem d_Tree_follow_61 : decode Y_Tree_follow.2.1 61 = .ok (.aload_n 0, 1) := by decide +kernel
theorem d_Tree_follow_62 : decode Y_Tree_follow.2.1 62 = .ok (.iload_n 1, 1) := by decide +kernel
theorem d_Tree_follow_63 : decode Y_Tree_follow.2.1 63 = .ok (.iload_n 3, 1) := by decide +kernel
theorem d_Tree_follow_64 : decode Y_Tree_follow.2.1 64 = .ok (.iload 5, 2) := by decide +kernel
theorem d_Tree_follow_66 : decode Y_Tree_follow.2.1 66 = .ok (.invokevirtual 58, 3) := by decide +kernel
theorem d_Tree_follow_69 : decode Y_Tree_follow.2.1 69 = .ok (.ifCond .eq 7, 3) := by decide +kernel
theorem d_Tree_follow_72 : decode Y_Tree_follow.2.1 72 = .ok (.iconst 1, 1) := by decide +kernel
theorem d_Tree_follow_73 : decode Y_Tree_follow.2.1 73 = .ok (.goto 4, 3) := by decide +kernel
theorem d_Tree_follow_76 : decode Y_Tree_follow.2.1 76 = .ok (.iconst 0, 1) := by decide +kernel
theorem d_Tree_follow_77 : decode Y_Tree_follow.2.1 77 = .ok (.ireturn, 1) := by decide +kernel
section CN
variable {E : gE} {d : Nat} {G G0 : gS} {a : Nat} {c c' c0 c1 : cS} {u u' u2 u0 : uS} {n n' n0 n1 sl sl' sl1 : Nat} {Q : gO → gS → Prop} {B SS : Nat} {P : Nat → Nat → Int32} {N t0 X C nk nk' way : Nat} {tm cp : Nat → Nat} {ob : Nat → Int32} {T : Nat → Prop} {pos plc : Nat → List Nat} {an : aAn} {ks bs sp ps ps' qs qs' qs1 ms : List Nat} {Z : List zQ} {st : aSt} {W : List (List Nat)}
set_option maxHeartbeats 400000 in
set_option maxRecDepth 100000 in
theorem m_T_arityN {q0 b fr : Nat} {x : Int32} {bs : List Nat} (hlo : lOk E c u a n 15 0 1 1000 bs) (hi : bs[fr]? = some b) (hq6 : zIs u a q0 6) (f0 : u.2.2.1 q0 0 = nI fr) (f5 : u.2.2.1 q0 5 = 1) : GM E Y_Tree_arityBehind (d + 4) [.ref (a + 12), .ref q0, .int x] (yW E G a c u n sl) (rIs (some (.int 0)) (yW E G a c u n sl)) := by
  refine g_entry (by decide) (by simp [Value.category]) (Nat.le_of_ble_eq_true rfl) ?_
  refine g_aload_n d_Tree_arityBehind_0 rfl ?_
  refine x_get (k := 12) (j := 2) (v := .ref (a + 13)) kc_Tree fl_Tree_12 (by decide) (by decide) rfl rfl d_Tree_arityBehind_1 ?_
  refine g_aload_n d_Tree_arityBehind_4 rfl ?_
  refine z_get (k := 6) (j := 0) (v := .int (u.2.2.1 q0 0)) kc_Question fl_Tree_130 (by decide) hq6 (by decide) rfl rfl d_Tree_arityBehind_5 ?_
  rw [f0]
  refine c_Vr (as := [.int (nI fr)]) kv_Rows_rowAt ml_Tree_133 rfl (x_at (k := 13) (by decide) rfl) (m_S_rowAt hlo hi) rfl (Nat.le_of_ble_eq_true rfl) rfl d_Tree_arityBehind_8 rfl ?_
  refine g_astore_n d_Tree_arityBehind_11 (by decide) rfl ?_
  refine g_aload_n d_Tree_arityBehind_12 rfl ?_
  refine z_get (k := 6) (j := 5) (v := .int (u.2.2.1 q0 5)) kc_Question fl_Tree_137 (by decide) hq6 (by decide) rfl rfl d_Tree_arityBehind_13 ?_
  rw [f5]
  refine g_if_eq (tgt := 23) d_Tree_arityBehind_16 (by decide) (fun c_16 => absurd c_16 (by decide)) (fun c_16 => ?_)
  refine g_iconst (v := 0) d_Tree_arityBehind_19 (by decide) ?_
  refine g_goto (tgt := 40) d_Tree_arityBehind_20 (by decide) ?_
  refine g_iret rfl d_Tree_arityBehind_40 ?_
  exact ⟨rfl, rfl⟩
set_option maxHeartbeats 400000 in
set_option maxRecDepth 100000 in
theorem m_T_arityC {q0 b fr k ty TT k0 ar ow p : Nat} {bs : List Nat} {ws : List (Nat × Nat)} {bd : Nat → Option Nat} (hlo : lOk E c u a n 15 0 1 1000 bs) (hi : bs[fr]? = some b) (hw : rowW u a b) (hx : rc u tm b (ow, (p, k) :: ws, bd)) (hq6 : zIs u a q0 6) (f0 : u.2.2.1 q0 0 = nI fr) (f5 : u.2.2.1 q0 5 = 0) (ht : zIs u a (tm k) 7) (hty : u.2.2.1 (tm k) 0 = nI ty) (hty2 : ty < 16) (hT : c.2.1 0 ty = nI TT) (hTT : TT ≤ 8) (hk0 : k0 < TT) (hP : c.2.1 1 (8 * ty + k0) = nI ar) (hk : tOk (c.2.1 0)) : GM E Y_Tree_arityBehind (d + 4) [.ref (a + 12), .ref q0, .int (nI k0)] (yW E G a c u n sl) (rIs (some (.int (nI ar))) (yW E G a c u n sl)) := by
  refine g_entry (by decide) (by simp [Value.category]) (Nat.le_of_ble_eq_true rfl) ?_
  have hw0 : u.2.2.2 (b + 2) 0 = some (tm k) := (hx.2.2.1 0 (p, tm k) rfl).2
  have hval : (if tHas (c.2.1 0) (nI ty) (nI k0) then c.2.1 1 (8 * tn (nI ty) + tn (nI k0)) else 0) = nI ar := by
    rw [if_pos ⟨⟨⟨nlt_hi (nI_hi (by omega)), ige (m := 16) (by omega) (by omega) hty2⟩, by rw [tnI (by omega), hT]; exact nI_ne1 (by omega)⟩, nlt_hi (nI_hi (by omega)), by rw [tnI (by omega), hT]; exact ige (by omega) (by omega) hk0⟩, tnI (by omega), tnI (by omega)]
    exact hP
  refine g_aload_n d_Tree_arityBehind_0 rfl ?_
  refine x_get (k := 12) (j := 2) (v := .ref (a + 13)) kc_Tree fl_Tree_12 (by decide) (by decide) rfl rfl d_Tree_arityBehind_1 ?_
  refine g_aload_n d_Tree_arityBehind_4 rfl ?_
  refine z_get (k := 6) (j := 0) (v := .int (u.2.2.1 q0 0)) kc_Question fl_Tree_130 (by decide) hq6 (by decide) rfl rfl d_Tree_arityBehind_5 ?_
  rw [f0]
  refine c_Vr (as := [.int (nI fr)]) kv_Rows_rowAt ml_Tree_133 rfl (x_at (k := 13) (by decide) rfl) (m_S_rowAt hlo hi) rfl (Nat.le_of_ble_eq_true rfl) rfl d_Tree_arityBehind_8 rfl ?_
  refine g_astore_n d_Tree_arityBehind_11 (by decide) rfl ?_
  refine g_aload_n d_Tree_arityBehind_12 rfl ?_
  refine z_get (k := 6) (j := 5) (v := .int (u.2.2.1 q0 5)) kc_Question fl_Tree_137 (by decide) hq6 (by decide) rfl rfl d_Tree_arityBehind_13 ?_
  rw [f5]
  refine g_if_eq (tgt := 23) d_Tree_arityBehind_16 (by decide) (fun c_16 => ?_) (fun c_16 => absurd c_16 (by decide))
  refine g_aload_n d_Tree_arityBehind_23 rfl ?_
  refine x_get (k := 12) (j := 0) (v := .ref (a + 1)) kc_Tree fl_Tree_39 (by decide) (by decide) rfl rfl d_Tree_arityBehind_24 ?_
  refine g_aload_n d_Tree_arityBehind_27 rfl ?_
  refine z_get (k := 1) (j := 1) (v := .ref (b + 2)) kc_Row fl_Tree_141 (by decide) hw.1 (by decide) rfl rfl d_Tree_arityBehind_28 ?_
  refine g_iconst (v := 0) d_Tree_arityBehind_31 (by decide) ?_
  refine z_tald (k := 3) (j := 0) hw.2.2.1 (by decide) rfl (by decide) (by decide) hw0 d_Tree_arityBehind_32 ?_
  refine z_get (k := 7) (j := 0) (v := .int (u.2.2.1 (tm k) 0)) kc_Term fl_Tree_147 (by decide) ht (by decide) rfl rfl d_Tree_arityBehind_33 ?_
  rw [hty]
  refine g_iload_n d_Tree_arityBehind_36 rfl ?_
  refine c_Vr (as := [.int (nI ty), .int (nI k0)]) kv_Types_arity ml_Tree_152 rfl (x_at (k := 1) (by decide) rfl) (m_Types_arity (d := d) (x_at (k := 1) (by decide) rfl) (x_at (k := 2) (by decide) rfl) (x_at (k := 3) (by decide) rfl) hk (nI ty) (nI k0)) rfl (Nat.le_of_ble_eq_true rfl) rfl d_Tree_arityBehind_37 rfl ?_
  rw [hval]
  refine g_iret rfl d_Tree_arityBehind_40 ?_
  exact ⟨rfl, rfl⟩
set_option maxHeartbeats 400000 in
set_option maxRecDepth 100000 in
theorem m_T_plant (wf : wfA P N pos) (wb : wfB P N) (wk : wfK P N) (tp : tmP P N tm ob T) (hC20 : C ≤ 20) (ht0 : t0 < 16) (hg01 : ∀ k, k < C → P 12 k = 0 ∨ P 12 k = 1) (h24 : ∀ π, ¬ (an π).1 = 0 → π.length ≤ 23) (hd : dOk P t0 an 26 []) (hl6 : (aT P t0 an 26 []).length ≤ 6402) (hwl : way ≤ 2000) {up via : Int32} {L : List rC} {Dr : List Nat} (hT : clT E a B SS P N t0 tm ob T C cp c u n sl ks bs sp ps qs ms nk Z st) (hr : rcs u tm bs L) (hw : rws P N ob T X L) (h80 : L.length ≤ 80) (h16 : c.1 16 = nI X) (hwy : wyC P t0 u ps X plc an) (hpr : ∀ A ∈ L.map (rP plc), pRk P N pos t0 C W Dr A) (hdn : Dr.Nodup) (hdc : ∀ k ∈ Dr, k < C) (hfl : st.2.2.1 < 1000000) (hlg : st.2.2.2.2.2.2.2 ≤ 3000) (hup : (up = -1 ∧ way = 0) ∨ ∃ i x, st.1[i]? = some x ∧ up = nI i ∧ way = x.2.2.1 + 1) (hrel : zR1 P t0 Z st.1 st.1.length up via X plc) : (∀ c' u' n' sl' sp' st', stL P t0 an way (pPl P way L.length (L.map (rP plc)) st).1 (pPl P way L.length (L.map (rP plc)) st).2.1 = some st' → clT E a B SS P N t0 tm ob T C cp c' u' n' sl' ks [] sp' ps qs ms nk Z st' → tFr c u n qs st.1.length c' u' n' qs → plS c u n c' u' → Q (.inl (some (.int 1))) (yW E G a c' u' n' sl')) →
    (∀ c' u' n' sl' sp' qs' nk' bs' ow p k ws bd Lr q, (pPl P way L.length (L.map (rP plc)) st).2.1 = ((ow, (p, k) :: ws, bd) :: Lr).map (rP plc) → ¬ (pPl P way L.length (L.map (rP plc)) st).1.1.length = 1000 → ¬ 800 < (pPl P way L.length (L.map (rP plc)) st).1.2.2.2.2.2.1 + (pPl P way L.length (L.map (rP plc)) st).2.1.length → clT E a B SS P N t0 tm ob T C cp c' u' n' sl' (ks ++ bs') [] sp' ps qs' ms nk' (Z ++ [(bs', (ow, (p, k) :: ws, bd) :: Lr, p, X, nk, plc)]) (stQ (pPl P way L.length (L.map (rP plc)) st).2.1 (plc p) way up via (pPl P way L.length (L.map (rP plc)) st).1) → tFr c u n qs st.1.length c' u' n' qs' → plS c u n c' u' → qs'[st.1.length]? = some q → u'.2.2.1 q 11 = 0 → Q (.inl (some (.int 1))) (yW E G a c' u' n' sl')) →
    (∀ c' u' n' sl' ks' sp' qs', (∃ A r w ws, (pPl P way L.length (L.map (rP plc)) st).2.1 = A :: r ∧ A.2.1 = w :: ws ∧ ((pPl P way L.length (L.map (rP plc)) st).1.1.length = 1000 ∨ 800 < (pPl P way L.length (L.map (rP plc)) st).1.2.2.2.2.2.1 + (pPl P way L.length (L.map (rP plc)) st).2.1.length)) → hpOk E a B SS c' u' n' sl' ks' sp' ps qs' ms → gF c u n c' u' n' → Q (.inl (some (.int 0))) (yW E G a c' u' n' sl')) → GM E Y_Tree_plant (d + 32) [.ref (a + 12), .int up, .int via, .int (nI ks.length)] (yW E G a c u n sl) Q := by
  intro kL kA kz
  refine g_entry (by decide) (by simp [Value.category]) (Nat.le_of_ble_eq_true rfl) ?_
  refine g_iconst (v := 0) d_Tree_plant_0 (by decide) ?_
  refine g_istore d_Tree_plant_1 (by decide) rfl ?_
  exact m_T_pl3 wf wb wk tp hC20 ht0 hg01 h24 hd hl6 hwl L.length 0 L bs sp Dr st c u n sl (Nat.le_refl _) hT hr hw h80 h16 hwy hpr hdn hdc (Nat.zero_le _) hfl hlg hup hrel kL kA kz
/-- a question's number of answers followed changes -/
theorem clT_q {q : Nat} {v : Int32} (h : clT E a B SS P N t0 tm ob T C cp c u n sl ks bs sp ps qs ms nk Z st) (hq : u.1 q = 6) : clT E a B SS P N t0 tm ob T C cp c (uI u q 11 v) n sl ks bs sp ps qs ms nk Z st := by
  obtain ⟨t1, t2, t3, t4, t5⟩ := h
  obtain ⟨r1, r2⟩ := zqI_hp (u' := uI u q 11 v) t1 zqI_I hq
  refine ⟨r1, tmW_to t2 (fun y hy => ⟨rfl, rfl, uI_o (fun e => by rw [e, hq] at hy; omega), rfl⟩), t3, zqAll_fr t4 (fun j q' hj hq' => ⟨hq', rfl, fun i hi => ?_⟩) (fun y hy => r2 y (by simp [hy])) (Nat.le_refl _) (fun _ _ => rfl), t5⟩
  by_cases e : q' = q
  · rw [e, uI_j, if_neg (by omega)]
  · rw [uI_o e]
/-- places change -/
theorem clT_pl (h : clT E a B SS P N t0 tm ob T C cp c u n sl ks bs sp ps qs ms nk Z st) (h' : hpOk E a B SS c' u' n' sl' (ks ++ bs) sp ps' qs ms) (hc : pFc c c') (hf : kFr k5 u u' n) (hn : n ≤ n') (hx : ∀ y ∈ (ks ++ bs) ++ sp, xOf u' y = xOf u y) : clT E a B SS P N t0 tm ob T C cp c' u' n' sl' ks bs sp ps' qs ms nk Z st := by
  obtain ⟨t1, t2, t3, t4, t5, t6, t7, t8, t9, tA, tB, tC1, tD⟩ := h
  have hg := gF_p hc hf hn
  refine ⟨h', tmW_g t2 (hpOk_un t1) hg, cK_g t3 hg, ?_, t5, by rw [hc.1 6 (by decide) (by decide) (by decide)]; exact t6, t7, t8, t9, tA, by rw [hc.1 7 (by decide) (by decide) (by decide)]; exact tB, tC1, tC_fr tD (fun j h1 h2 => hc.1 j (by omega) (by omega) (by omega)) (by rw [hc.2.1])⟩
  refine zqAll_fr t4 (fun j q hj hq => ?_) (fun y hy => hx y (by simp [hy])) (Nat.le_refl _) (fun i _ => by rw [hc.2.1])
  have hz := lOk_get t1.2.2.1 hq
  exact ⟨hq, hf.1 q hz.2.2.2.2.2, fun i _ => by rw [(hf.2 q hz.2.2.2.2.2 (by rw [hz.2.2.2.2.1.1]; decide) (by rw [hz.2.2.2.2.1.1]; decide)).2.1]⟩
/-- the rows that are left ask in order -/
theorem pPl_way : ∀ (f : Nat) (L : List pRow) (st : aSt) (Dr : List Nat), (∀ A ∈ L, pRk P N pos t0 C W Dr A) → Dr.Nodup → (∀ k ∈ Dr, k < C) → ∃ Dr', Dr'.Nodup ∧ (∀ k ∈ Dr', k < C) ∧ (∀ A ∈ (pPl P way f L st).2.1, pRk P N pos t0 C W Dr' A) ∧ Dr'.length = Dr.length + (pPl P way f L st).2.2.length
  | 0, L, st, Dr, h, h1, h2 => ⟨Dr, h1, h2, h, rfl⟩
  | f + 1, [], st, Dr, h, h1, h2 => ⟨Dr, h1, h2, h, rfl⟩
  | f + 1, A :: r, st, Dr, h, h1, h2 => by
    simp only [pPl]
    split
    · have hA := h A List.mem_cons_self
      obtain ⟨Dr', g1, g2, g3, g4⟩ := pPl_way f (aOt A.1 (A :: r)) (stT A.1 way st) (A.1 :: Dr) (aOt_way h) (List.nodup_cons.mpr ⟨hA.2.2.1, h1⟩) (fun k hk => by
        rcases List.mem_cons.mp hk with rfl | hk
        · exact hA.2.1
        · exact h2 k hk)
      refine ⟨Dr', g1, g2, g3, ?_⟩
      rw [g4, List.length_cons, List.length_cons]
      omega
    · exact ⟨Dr, h1, h2, h, rfl⟩
theorem anOk_U {π : List Nat} {xx : Int32 × Int32} (h : anOk P t0 an) (hx : xx.1 = 1 ∨ ∃ w ar, w < 8 ∧ xx.1 = nI (2 + w) ∧ ar ≤ 4 ∧ P 1 (8 * tyP P t0 π + w) = nI ar ∧ tyP P t0 π < 16) : anOk P t0 (anU an π xx) := fun ρ => by
  unfold anU
  by_cases e : ρ = π
  · rw [if_pos e, e]
    exact Or.inr hx
  · rw [if_neg e]
    exact h ρ
/-- a question that was just asked is on the way -/
theorem pC_new (wf : wfA P N pos) (wk : wfK P N) (ht0 : t0 < 16) {L : List pRow} {A : pRow} {r : List pRow} {w : List Nat × Nat} {ws : List (List Nat × Nat)} {Dr : List Nat} {up via : Int32} {z : zQ} (hL : L = A :: r) (hA : A.2.1 = w :: ws) (hWd : pWd N pos C W Dr an) (hok : anOk P t0 an) (hp : ∀ B ∈ L, pRk P N pos t0 C W Dr B) (hz1 : ∀ j, j < z.2.2.2.1 → ∀ ρ e, z.2.2.2.2.2 j = ρ ++ [e] → ρ ∈ W) (hz2 : z.2.2.2.1 ≤ 1 + 4 * W.length) : pC P N pos t0 C W Dr an (L, w.1, W.length, up, via) z := by
  have hA1 := hp A (by rw [hL]; exact List.mem_cons_self)
  have hw := hA1.1.1 w (by rw [hA]; exact List.mem_cons_self)
  obtain ⟨k1, k2, k3⟩ := hA1.2.2.2 w (by rw [hA]; exact List.mem_cons_self)
  have h7 := (wf.1.2 w.2 hw.1.1).1
  exact ⟨hWd, hok, hp, k1, ⟨w.2, hw.1.1, hw.1.2.1.symm⟩, by show w.1.length ≤ 23; omega, k2, (made_kind wf wk hw.1 hw.2 (tyP_31 ht0 _)).2.2, tyP_w wf ht0 hw.1, rfl, hz1, hz2⟩
end CN
